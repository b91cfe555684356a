theorem sim_init (g0 g1 g2 : Nat → Int32) (h0 : ∀ j, j < 64 → g0 j = k_six.getD j 0) (h1 : ∀ j, j < 16 → g1 j = k_four.getD j 0) (h2 : ∀ j, j < 16 → g2 j = k_sgf.getD j 0) : Rel 0 cgInit (mdInit g0 g1 g2) := by
  refine ⟨0, 0, 0, ⟨h0, h1, h2⟩, ⟨by omega, rfl, rfl, fun _ => Or.inl rfl, fun _ => Or.inl rfl, fun j hj => absurd hj (by omega)⟩, ⟨by omega, rfl, rfl, fun j hj => absurd hj (by omega), rfl, Or.inl rfl, rfl, rfl⟩, by omega, ?_, ?_, ?_⟩
  · exact ⟨rfl, ⟨show 0 ≤ (0 : Int32).toInt by decide, show (0 : Int32).toInt < 1024 by decide⟩, rfl, Or.inl rfl, rfl, Or.inl rfl, rfl, rfl, rfl, rfl, rfl, rfl, 0, 0, 0, by omega, rfl, by omega, rfl, rfl, fun h => by omega, by omega, rfl, fun h => by omega⟩
  · exact ⟨0, by omega, rfl, rfl, rfl, rfl, fun j hj => absurd hj (by omega)⟩
  · exact ⟨0, 0, by omega, by omega, rfl, rfl, rfl, rfl, rfl, ⟨show 0 ≤ (0 : Int32).toInt by decide, show (0 : Int32).toInt ≤ 300 by decide⟩, fun _ => show (0 : Int32).toInt ≤ 300 by decide, fun i hi => absurd hi (by omega), Or.inl ⟨rfl, rfl⟩⟩
theorem sim_idle (k : Nat) (S : CGS) (M : MdS) (_ : k < 512) (h : Rel k S M) : (f_X6_idle S).1 = (f_X7_idle M).1 ∧ Rel (k + 1) (f_X6_idle S).2 (f_X7_idle M).2 := by
  have hm := sim_mono _ _ _ h
  obtain ⟨⟨f, x⟩, ⟨s0, s1, s2, s3⟩, ⟨⟨r_0_0, r_0_1, r_0_2, r_0_3⟩, ⟨r_1_0, r_1_1, r_1_2, r_1_3, r_1_4, r_1_5, r_1_6, r_1_7, r_1_8⟩, r_2, r_3, r_4, r_5, r_6, r_7, r_8, r_9, r_10, r_11⟩⟩ := S
  obtain ⟨m_0, m_1, m_2, m_3, m_4, m_5, m_6, m_7, m_8, m_9, m_10, m_11, m_12, m_13, m_14, m_15, m_16, m_17, m_18, m_19, m_20, m_21, m_22, m_23, m_24, m_25, m_26, m_27, m_28, m_29, m_30, m_31⟩ := M
  obtain ⟨n, t, c, h1, h2, h3, h4, h5⟩ := h
  have e1 : x = nI n := h2.2.1
  have e2 : m_4 = nI n := h2.2.2.1
  have hn : n ≤ 8000 := h2.1
  subst e1
  subst e2
  have hroom := room_eq (n := n) (r := 20) (f := f) hn (by decide)
  by_cases cr : n + 20 ≤ 8000
  · have hr0 : ¬ f_X2_hasRoomFor 20 (f, nI n) = 0 := fun w => by have := hroom.1.mp w; omega
    have c5 : nI n + 20 ≤ 8000 := hroom.2.mpr cr
    obtain ⟨g, d', f', m3', hR, hp, e4, e7⟩ := put_sim (v := 188) (sg := 1) h1 h2 h3 (by omega) ⟨by decide, by decide⟩ (Or.inr (by decide))
    obtain ⟨t1, t2, t3, t4, t5, t6, t7, t8⟩ := h3
    have t5 : s2 = m_7 := t5
    have h3' : RSd t (c + 1) (s0, s1, d', nI (c + 1)) m_5 m_6 d' (nI (c + 1)) := ⟨t1, t2, t3, t4, rfl, hp, rfl, rfl⟩
    by_cases c6 : m_7 ≤ 0
    · have c6' : s2 ≤ 0 := by rw [t5]; exact c6
      obtain ⟨g2, d2, f2, m32, hR2, hp2, e42, e72⟩ := put_sim (v := 80) (sg := 0) (n := n + 10) (t := t) (c := c + 1) (m_3 := m3') (m_4 := nI (n + 10)) (m_7 := d') (m_8 := nI (c + 1)) (s0 := s0) (s1 := s1) (s2 := d') (s3 := nI (c + 1)) (f := f') (x := nI (n + 10)) (m_0 := m_0) (m_1 := m_1) (m_2 := m_2) (m_5 := m_5) (m_6 := m_6) (m_9 := m_9) (m_10 := m_10) (m_11 := m_11) (m_12 := m_12) (m_13 := m_13) (m_14 := m_14) (m_15 := m_15) (m_16 := m_16) (m_17 := m_17) (m_18 := m_18) (m_19 := m_19) (m_20 := m_20) (m_21 := m_21) (m_22 := m_22) (m_23 := m_23) (m_24 := m_24) (m_25 := m_25) (m_26 := m_26) (m_27 := m_27) (m_28 := m_28) (m_29 := m_29) (m_30 := m_30) (m_31 := m_31) h1 hR h3' (by omega) ⟨by decide, by decide⟩ (Or.inl rfl)
      simp only [f_X6_idle, f_X4_putIdle, f_X7_idle, ↓if_neg hr0, ↓if_pos c6', ↓if_pos c5, e4, e42, e7, ↓if_pos c6, e72]
      exact ⟨trivial, n + 10 + 10, t, c + 1 + 1, h1, hR2, ⟨t1, t2, t3, t4, rfl, hp2, rfl, rfl⟩, by omega, h5.mono⟩
    · have c6' : ¬ s2 ≤ 0 := by rw [t5]; exact c6
      obtain ⟨g2, d2, f2, m32, hR2, hp2, e42, e72⟩ := put_sim (v := 197) (sg := 0) (n := n + 10) (t := t) (c := c + 1) (m_3 := m3') (m_4 := nI (n + 10)) (m_7 := d') (m_8 := nI (c + 1)) (s0 := s0) (s1 := s1) (s2 := d') (s3 := nI (c + 1)) (f := f') (x := nI (n + 10)) (m_0 := m_0) (m_1 := m_1) (m_2 := m_2) (m_5 := m_5) (m_6 := m_6) (m_9 := m_9) (m_10 := m_10) (m_11 := m_11) (m_12 := m_12) (m_13 := m_13) (m_14 := m_14) (m_15 := m_15) (m_16 := m_16) (m_17 := m_17) (m_18 := m_18) (m_19 := m_19) (m_20 := m_20) (m_21 := m_21) (m_22 := m_22) (m_23 := m_23) (m_24 := m_24) (m_25 := m_25) (m_26 := m_26) (m_27 := m_27) (m_28 := m_28) (m_29 := m_29) (m_30 := m_30) (m_31 := m_31) h1 hR h3' (by omega) ⟨by decide, by decide⟩ (Or.inl rfl)
      simp only [f_X6_idle, f_X4_putIdle, f_X7_idle, ↓if_neg hr0, ↓if_neg c6', ↓if_pos c5, e4, e42, e7, ↓if_neg c6, e72]
      exact ⟨trivial, n + 10 + 10, t, c + 1 + 1, h1, hR2, ⟨t1, t2, t3, t4, rfl, hp2, rfl, rfl⟩, by omega, h5.mono⟩
  · have hr0 : f_X2_hasRoomFor 20 (f, nI n) = 0 := hroom.1.mpr (by omega)
    have c5 : ¬ nI n + 20 ≤ 8000 := fun w => cr (hroom.2.mp w)
    simp only [f_X6_idle, f_X4_putIdle, f_X7_idle, ↓if_pos hr0, ↓if_neg c5]
    exact ⟨trivial, hm⟩
theorem drop_loop : ∀ (fu j n : Nat) (m_3 : Nat → Int32) (m_0 : Nat → Int32) (m_1 : Nat → Int32) (m_2 : Nat → Int32) (m_5 : Nat → Int32) (m_6 : Int32) (m_7 : Int32) (m_8 : Int32) (m_9 : Int32) (m_10 : Int32) (m_11 : Int32) (m_12 : Int32) (m_13 : Int32) (m_14 : Int32) (m_15 : Int32) (m_16 : Int32) (m_17 : Int32) (m_18 : Int32) (m_19 : Int32) (m_20 : Nat → Int32) (m_21 : Int32) (m_22 : Int32) (m_23 : Int32) (m_24 : Int32) (m_25 : Nat → Int32) (m_26 : Int32) (m_27 : Nat → Int32) (m_28 : Nat → Int32) (m_29 : Nat → Int32) (m_30 : Int32) (m_31 : Int32), (∀ a, m_3 a = 0 ∨ m_3 a = 1) → j ≤ n → n < j + fu → n ≤ 8000 → ∃ m3' : Nat → Int32, (∀ a, m3' a = 0 ∨ m3' a = 1) ∧ (∀ a, a < j → m3' a = m_3 a) ∧ (∀ a, j ≤ a → a < n → m3' a = m_3 (a + 1)) ∧ lp_X7_drop_26 fu (nI j) (m_0, m_1, m_2, m_3, nI n, m_5, m_6, m_7, m_8, m_9, m_10, m_11, m_12, m_13, m_14, m_15, m_16, m_17, m_18, m_19, m_20, m_21, m_22, m_23, m_24, m_25, m_26, m_27, m_28, m_29, m_30, m_31) = (1, (m_0, m_1, m_2, m3', nI n, m_5, m_6, m_7, m_8, m_9, m_10, m_11, m_12, m_13, m_14, m_15, m_16, m_17, m_18, m_19, m_20, m_21, m_22, m_23, m_24, m_25, m_26, m_27, m_28, m_29, m_30, m_31)) := by
  intro fu
  induction fu with
  | zero => intro j n m_3 m_0 m_1 m_2 m_5 m_6 m_7 m_8 m_9 m_10 m_11 m_12 m_13 m_14 m_15 m_16 m_17 m_18 m_19 m_20 m_21 m_22 m_23 m_24 m_25 m_26 m_27 m_28 m_29 m_30 m_31 hb h1 h2; omega
  | succ fu ih =>
    intro j n m_3 m_0 m_1 m_2 m_5 m_6 m_7 m_8 m_9 m_10 m_11 m_12 m_13 m_14 m_15 m_16 m_17 m_18 m_19 m_20 m_21 m_22 m_23 m_24 m_25 m_26 m_27 m_28 m_29 m_30 m_31 hb h1 h2 h3
    by_cases c : j < n
    · have c1 : ¬ nI n ≤ nI j := nI_ge c (by omega)
      have e1 : (nI (j + 1)).toNatClampNeg = j + 1 := nI_clamp (by omega)
      obtain ⟨m3', p1, p2, p3, p4⟩ := ih (j + 1) n (upd m_3 j (m_3 (j + 1))) m_0 m_1 m_2 m_5 m_6 m_7 m_8 m_9 m_10 m_11 m_12 m_13 m_14 m_15 m_16 m_17 m_18 m_19 m_20 m_21 m_22 m_23 m_24 m_25 m_26 m_27 m_28 m_29 m_30 m_31 (upd_bits hb (hb (j + 1))) (by omega) (by omega) h3
      refine ⟨m3', p1, ?_, ?_, ?_⟩
      · intro a ha
        rw [p2 a (by omega), pk_un (by omega)]
      · intro a ha1 ha2
        by_cases ea : a = j
        · subst ea
          rw [p2 a (by omega), pk_us]
        · rw [p3 a (by omega) ha2, pk_un (by omega)]
      · simp only [lp_X7_drop_26, ↓if_neg c1, nI_1, e1, nI_clamp (show j < 2 ^ 31 by omega), bitn (hb (j + 1))]
        exact p4
    · have ej : j = n := by omega
      subst ej
      have c1 : nI j ≤ nI j := nI_le (Nat.le_refl _) (by omega)
      refine ⟨m_3, hb, fun a _ => rfl, fun a ha1 ha2 => by omega, ?_⟩
      simp only [lp_X7_drop_26, ↓if_pos c1]
theorem sim_drop (i : Int32) (k : Nat) (S : CGS) (M : MdS) (_ : k < 512) (h : Rel k S M) : (f_X6_drop i S).1 = (f_X7_drop i M).1 ∧ Rel (k + 1) (f_X6_drop i S).2 (f_X7_drop i M).2 := by
  have hm := sim_mono _ _ _ h
  obtain ⟨⟨f, x⟩, ⟨s0, s1, s2, s3⟩, ⟨⟨r_0_0, r_0_1, r_0_2, r_0_3⟩, ⟨r_1_0, r_1_1, r_1_2, r_1_3, r_1_4, r_1_5, r_1_6, r_1_7, r_1_8⟩, r_2, r_3, r_4, r_5, r_6, r_7, r_8, r_9, r_10, r_11⟩⟩ := S
  obtain ⟨m_0, m_1, m_2, m_3, m_4, m_5, m_6, m_7, m_8, m_9, m_10, m_11, m_12, m_13, m_14, m_15, m_16, m_17, m_18, m_19, m_20, m_21, m_22, m_23, m_24, m_25, m_26, m_27, m_28, m_29, m_30, m_31⟩ := M
  obtain ⟨n, t, c, h1, h2, h3, h4, h5⟩ := h
  have e1 : x = nI n := h2.2.1
  have e2 : m_4 = nI n := h2.2.2.1
  have hn : n ≤ 8000 := h2.1
  subst e1
  subst e2
  have hq := has_eq (i := i) (f := f) hn
  by_cases c1 : i < 0
  · have hz := hq.mpr (Or.inl c1)
    simp only [f_X6_drop, f_X2_leaveOut, f_X7_drop, ↓if_pos c1, ↓if_pos hz]
    exact ⟨trivial, hm⟩
  · by_cases c2 : nI n ≤ i
    · have hz := hq.mpr (Or.inr c2)
      have c3 : ¬ i < nI n := fun w => by have a := i_lt w; have b := i_le c2; omega
      simp only [f_X6_drop, f_X2_leaveOut, f_X7_drop, ↓if_neg c1, ↓if_neg c3, ↓if_pos hz]
      exact ⟨trivial, hm⟩
    · have hz : ¬ f_X2_has i (f, nI n) = 0 := fun w => by rcases hq.mp w with q | q; exact c1 q; exact c2 q
      have c3 : i < nI n := by
        rw [Int32.lt_iff_toInt_lt]
        have b := i_nle c2
        exact b
      obtain ⟨j, hj, e, ec⟩ := ix_of hn c1 c2
      subst e
      have es : nI n - 1 = nI (n - 1) := pk_sub (b := 1) (by omega)
      have ed : (nI n - nI j - 1).toNatClampNeg = n - j - 1 := by
        rw [pk_sub (by omega), show (1 : Int32) = nI 1 from rfl, pk_sub (by omega), nI_clamp (by omega)]
      have ei : (nI j + 1).toNatClampNeg = j + 1 := by rw [nI_1, nI_clamp (by omega)]
      obtain ⟨m3', p1, p2, p3, p4⟩ := drop_loop 8000 j (n - 1) m_3 m_0 m_1 m_2 m_5 m_6 m_7 m_8 m_9 m_10 m_11 m_12 m_13 m_14 m_15 m_16 m_17 m_18 m_19 m_20 m_21 m_22 m_23 m_24 m_25 m_26 m_27 m_28 m_29 m_30 m_31 h2.2.2.2.2.1 (by omega) (by omega) (by omega)
      simp only [f_X6_drop, f_X2_leaveOut, f_X7_drop, ↓if_neg c1, ↓if_pos c3, ↓if_neg hz, es, ed, ei, ec, p4]
      refine ⟨trivial, n - 1, t, c, h1, ⟨by omega, rfl, rfl, ?_, p1, ?_⟩, h3, by omega, h5.mono⟩
      · intro a
        show va_cpy f f (j + 1) j (n - j - 1) a = 0 ∨ va_cpy f f (j + 1) j (n - j - 1) a = 1
        unfold va_cpy
        split
        · exact h2.2.2.2.1 _
        · exact h2.2.2.2.1 _
      · intro a ha
        show va_cpy f f (j + 1) j (n - j - 1) a = m3' a
        by_cases ca : a < j
        · rw [pk_cpy_out (Or.inl ca), p2 a ca]
          exact h2.2.2.2.2.2 a (by omega)
        · rw [pk_cpy_in (by omega) (by omega), p3 a (by omega) ha]
          have w : j + 1 + (a - j) = a + 1 := by omega
          rw [w]
          exact h2.2.2.2.2.2 (a + 1) (by omega)

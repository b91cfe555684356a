theorem fb255 : ∀ b : Nat, b < 256 → vp_nar .byte ((nI b).toInt8.toInt32) &&& 255 = nI b := by
  intro b hb
  have h : (List.range 256).all (fun b => decide (vp_nar .byte ((nI b).toInt8.toInt32) &&& 255 = nI b)) = true := by decide +kernel
  exact of_decide_eq_true (List.all_eq_true.mp h b (List.mem_range.mpr hb))
theorem sim_feed (b : Int32) (k : Nat) (S : CGS) (M : MdS) (_ : k < 512) (h : Rel k S M) : (f_X6_feed b S).1 = (f_X7_feed b M).1 ∧ Rel (k + 1) (f_X6_feed b S).2 (f_X7_feed b M).2 := by
  have hm := sim_mono _ _ _ h
  obtain ⟨⟨f, x⟩, ⟨s0, s1, s2, s3⟩, ⟨⟨r_0_0, r_0_1, r_0_2, r_0_3⟩, ⟨r_1_0, r_1_1, r_1_2, r_1_3, r_1_4, r_1_5, r_1_6, r_1_7, r_1_8⟩, r_2, r_3, r_4, r_5, r_6, r_7, r_8, r_9, r_10, r_11⟩⟩ := S
  obtain ⟨m_0, m_1, m_2, m_3, m_4, m_5, m_6, m_7, m_8, m_9, m_10, m_11, m_12, m_13, m_14, m_15, m_16, m_17, m_18, m_19, m_20, m_21, m_22, m_23, m_24, m_25, m_26, m_27, m_28, m_29, m_30, m_31⟩ := M
  obtain ⟨n, t, c, h1, h2, h3, h4, h5⟩ := h
  obtain ⟨t1, t2, t3, t4, t5, t6, t7, t8⟩ := h3
  have t2 : s1 = nI t := t2
  have t3 : m_6 = nI t := t3
  subst t2
  subst t3
  by_cases c1 : b < 0
  · simp only [f_X6_feed, f_X4_keepOnTape, f_X7_feed, ↓if_pos c1]
    exact ⟨trivial, hm⟩
  by_cases c2 : 255 < b
  · simp only [f_X6_feed, f_X4_keepOnTape, f_X7_feed, ↓if_neg c1, ↓if_pos c2]
    exact ⟨trivial, hm⟩
  have c3 : ¬ nI t < 0 := nI_pos (by omega)
  by_cases c4 : t = 400
  · have c5 : ¬ nI t < 400 := by rw [c4]; decide
    have c6 : nI t = 400 := by rw [c4]; rfl
    simp only [f_X6_feed, f_X4_keepOnTape, f_X7_feed, ↓if_neg c1, ↓if_neg c2, ↓if_neg c3, ↓if_neg c5, ↓if_pos c6]
    exact ⟨trivial, hm⟩
  · have c5 : nI t < 400 := nI_lt (b := 400) (by omega) (by decide)
    have c6 : ¬ nI t = 400 := fun w => c4 ((nI_eq (b := 400) (by omega) (by decide)).mp w)
    simp only [f_X6_feed, f_X4_keepOnTape, f_X7_feed, ↓if_neg c1, ↓if_neg c2, ↓if_neg c3, ↓if_pos c5, ↓if_neg c6, nI_1, nI_clamp (show t < 2 ^ 31 by omega)]
    obtain ⟨q, hq, rfl⟩ := nI_of c1
    have zq := nI_toInt (n := q) hq
    have z255 : (255 : Int32).toInt = 255 := rfl
    have e2 := i_nlt c2
    have hq2 : q < 256 := by omega
    refine ⟨trivial, n, t + 1, c, h1, h2, ⟨by omega, rfl, rfl, ?_, t5, t6, t7, t8⟩, by omega, h5.mono⟩
    intro j hj
    show (0 ≤ (upd s0 t (nI q) j).toInt ∧ (upd s0 t (nI q) j).toInt ≤ 255) ∧ upd m_5 t (vp_nar .byte ((nI q).toInt8.toInt32)) j &&& 255 = upd s0 t (nI q) j
    by_cases ej : j = t
    · subst ej
      rw [pk_us, pk_us]
      exact ⟨by omega, fb255 q hq2⟩
    · rw [pk_un ej, pk_un ej]
      exact t4 j (by omega)
theorem sim_send (v sg : Int32) (k : Nat) (S : CGS) (M : MdS) (_ : k < 512) (h : Rel k S M) : (f_X6_send v sg S).1 = (f_X7_send v sg M).1 ∧ Rel (k + 1) (f_X6_send v sg S).2 (f_X7_send v sg M).2 := by
  have hm := sim_mono _ _ _ h
  obtain ⟨⟨f, x⟩, ⟨s0, s1, s2, s3⟩, ⟨⟨r_0_0, r_0_1, r_0_2, r_0_3⟩, ⟨r_1_0, r_1_1, r_1_2, r_1_3, r_1_4, r_1_5, r_1_6, r_1_7, r_1_8⟩, r_2, r_3, r_4, r_5, r_6, r_7, r_8, r_9, r_10, r_11⟩⟩ := S
  obtain ⟨m_0, m_1, m_2, m_3, m_4, m_5, m_6, m_7, m_8, m_9, m_10, m_11, m_12, m_13, m_14, m_15, m_16, m_17, m_18, m_19, m_20, m_21, m_22, m_23, m_24, m_25, m_26, m_27, m_28, m_29, m_30, m_31⟩ := M
  obtain ⟨n, t, c, h1, h2, h3, h4, h5⟩ := h
  have e1 : x = nI n := h2.2.1
  have e2 : m_4 = nI n := h2.2.2.1
  have hn : n ≤ 8000 := h2.1
  subst e1
  subst e2
  by_cases c1 : v < 0
  · have hz : f_X0_isSymbol v sg = 0 := by simp only [f_X0_isSymbol, ↓if_pos c1]
    simp only [f_X6_send, f_X7_send, ↓if_pos hz, ↓if_pos c1]
    exact ⟨trivial, hm⟩
  by_cases c2 : 255 < v
  · have c2' : ¬ v ≤ 255 := fun w => by have a := i_lt c2; have b := i_le w; omega
    have hz : f_X0_isSymbol v sg = 0 := by simp only [f_X0_isSymbol, ↓if_neg c1, ↓if_neg c2']
    simp only [f_X6_send, f_X7_send, ↓if_pos hz, ↓if_neg c1, ↓if_pos c2]
    exact ⟨trivial, hm⟩
  have z255 : (255 : Int32).toInt = 255 := rfl
  have z0 : (0 : Int32).toInt = 0 := rfl
  have hv : 0 ≤ v.toInt ∧ v.toInt ≤ 255 := by have a := i_nlt c1; have b := i_nlt c2; omega
  have c2' : v ≤ 255 := by rw [Int32.le_iff_toInt_le]; omega
  have hsg := sg_eq hv
  have hroom := room_eq (n := n) (r := 10) (f := f) hn (by decide)
  have hz1 : ¬ (1 : Int32) = 0 := by decide
  by_cases hs : sg = 0 ∨ ¬ f_X7_isSign v = 0
  · have hz : ¬ f_X0_isSymbol v sg = 0 := by
      simp only [f_X0_isSymbol, ↓if_neg c1, ↓if_pos c2']
      by_cases c3 : sg = 0
      · rw [if_pos c3]; exact hz1
      · rcases hs with hs | hs
        · exact absurd hs c3
        · rw [if_neg c3, hsg, if_neg hs]; exact hz1
    by_cases cr : n + 10 ≤ 8000
    · have hr0 : ¬ f_X2_hasRoomFor 10 (f, nI n) = 0 := fun w => by have := hroom.1.mp w; omega
      obtain ⟨g, d', f', m3', hR, hp, e4, e7⟩ := put_sim (v := v) (sg := sg) h1 h2 h3 cr hv hs
      obtain ⟨t1, t2, t3, t4, t5, t6, t7, t8⟩ := h3
      rw [e7]
      simp only [f_X6_send, ↓if_neg hz, ↓if_neg hr0, e4]
      exact ⟨trivial, n + 10, t, c + 1, h1, hR, ⟨t1, t2, t3, t4, rfl, hp, rfl, rfl⟩, by omega, h5.mono⟩
    · have hr0 : f_X2_hasRoomFor 10 (f, nI n) = 0 := hroom.1.mpr (by omega)
      have c5 : ¬ nI n + 10 ≤ 8000 := fun w => cr (hroom.2.mp w)
      have hj : jn_X7_send_22 v sg (m_0, m_1, m_2, m_3, nI n, m_5, m_6, m_7, m_8, m_9, m_10, m_11, m_12, m_13, m_14, m_15, m_16, m_17, m_18, m_19, m_20, m_21, m_22, m_23, m_24, m_25, m_26, m_27, m_28, m_29, m_30, m_31) = (-1, (m_0, m_1, m_2, m_3, nI n, m_5, m_6, m_7, m_8, m_9, m_10, m_11, m_12, m_13, m_14, m_15, m_16, m_17, m_18, m_19, m_20, m_21, m_22, m_23, m_24, m_25, m_26, m_27, m_28, m_29, m_30, m_31)) := by simp only [jn_X7_send_22, ↓if_neg c5]
      have he : f_X7_send v sg (m_0, m_1, m_2, m_3, nI n, m_5, m_6, m_7, m_8, m_9, m_10, m_11, m_12, m_13, m_14, m_15, m_16, m_17, m_18, m_19, m_20, m_21, m_22, m_23, m_24, m_25, m_26, m_27, m_28, m_29, m_30, m_31) = (-1, (m_0, m_1, m_2, m_3, nI n, m_5, m_6, m_7, m_8, m_9, m_10, m_11, m_12, m_13, m_14, m_15, m_16, m_17, m_18, m_19, m_20, m_21, m_22, m_23, m_24, m_25, m_26, m_27, m_28, m_29, m_30, m_31)) := by
        simp only [f_X7_send, ↓if_neg c1, ↓if_neg c2]
        rcases hs with hs | hs
        · rw [if_pos hs]; exact hj
        · by_cases c4 : sg = 0
          · rw [if_pos c4]; exact hj
          · rw [if_neg c4, if_neg hs]; exact hj
      rw [he]
      simp only [f_X6_send, ↓if_neg hz, ↓if_pos hr0]
      exact ⟨trivial, hm⟩
  · have c3 : ¬ sg = 0 := fun w => hs (Or.inl w)
    have c4 : f_X7_isSign v = 0 := Decidable.byContradiction (fun w => hs (Or.inr w))
    have hz : f_X0_isSymbol v sg = 0 := by
      simp only [f_X0_isSymbol, ↓if_neg c1, ↓if_pos c2', ↓if_neg c3, hsg, ↓if_pos c4]
    simp only [f_X6_send, f_X7_send, ↓if_pos hz, ↓if_neg c1, ↓if_neg c2, ↓if_neg c3, ↓if_pos c4]
    exact ⟨trivial, hm⟩

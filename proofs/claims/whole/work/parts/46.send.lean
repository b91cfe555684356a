/-! the two sending ends -/
/-- t bytes on the tape, c groups sent, the same disparity -/
def RSd (t c : Nat) (S : SdS) (m5 : Nat → Int32) (m6 m7 m8 : Int32) : Prop := t ≤ 400 ∧ S.2.1 = nI t ∧ m6 = nI t ∧ (∀ j, j < t → (0 ≤ (S.1 j).toInt ∧ (S.1 j).toInt ≤ 255) ∧ m5 j &&& 255 = S.1 j) ∧ S.2.2.1 = m7 ∧ pm m7 ∧ S.2.2.2 = nI c ∧ m8 = nI c
theorem room_eq {n r : Nat} {f : Nat → Int32} (hn : n ≤ 8000) (hr : r ≤ 100000) : (f_X2_hasRoomFor (nI r) (f, nI n) = 0 ↔ 8000 < n + r) ∧ (nI n + nI r ≤ 8000 ↔ n + r ≤ 8000) := by
  have a : (8000 : Int32) - nI n = nI (8000 - n) := pk_sub (a := 8000) hn
  constructor
  · simp only [f_X2_hasRoomFor, a]
    by_cases c : nI (8000 - n) < nI r
    · rw [if_pos c]
      have q := (nI_ltI (by omega) (by omega)).mp c
      exact ⟨fun _ => by omega, fun _ => rfl⟩
    · rw [if_neg c]
      have q : ¬ 8000 - n < r := fun w => c ((nI_ltI (by omega) (by omega)).mpr w)
      exact ⟨fun w => absurd w (by decide), fun w => absurd w (by omega)⟩
  · rw [nI_add]
    exact nI_leI (b := 8000) (by omega) (by decide)
theorem put_sim {n t c : Nat} {v sg : Int32} {s0 : Nat → Int32} {s1 s2 s3 : Int32} {f : Nat → Int32} {x : Int32} {m_0 : Nat → Int32} {m_1 : Nat → Int32} {m_2 : Nat → Int32} {m_3 : Nat → Int32} {m_4 : Int32} {m_5 : Nat → Int32} {m_6 : Int32} {m_7 : Int32} {m_8 : Int32} {m_9 : Int32} {m_10 : Int32} {m_11 : Int32} {m_12 : Int32} {m_13 : Int32} {m_14 : Int32} {m_15 : Int32} {m_16 : Int32} {m_17 : Int32} {m_18 : Int32} {m_19 : Int32} {m_20 : Nat → Int32} {m_21 : Int32} {m_22 : Int32} {m_23 : Int32} {m_24 : Int32} {m_25 : Nat → Int32} {m_26 : Int32} {m_27 : Nat → Int32} {m_28 : Nat → Int32} {m_29 : Nat → Int32} {m_30 : Int32} {m_31 : Int32} (hT : tabOK (m_0, m_1, m_2, m_3, m_4, m_5, m_6, m_7, m_8, m_9, m_10, m_11, m_12, m_13, m_14, m_15, m_16, m_17, m_18, m_19, m_20, m_21, m_22, m_23, m_24, m_25, m_26, m_27, m_28, m_29, m_30, m_31)) (hL : RLn n (f, x) m_3 m_4) (hS : RSd t c (s0, s1, s2, s3) m_5 m_6 m_7 m_8) (hn : n + 10 ≤ 8000) (hv : 0 ≤ v.toInt ∧ v.toInt ≤ 255) (hs : sg = 0 ∨ ¬ f_X7_isSign v = 0) :
    ∃ (g d' : Int32) (f' m3' : Nat → Int32), RLn (n + 10) (f', nI (n + 10)) m3' (nI (n + 10)) ∧ pm d' ∧ f_X4_put v sg (s0, s1, s2, s3) (f, x) = (g, (s0, s1, d', nI (c + 1)), (f', nI (n + 10))) ∧ f_X7_send v sg (m_0, m_1, m_2, m_3, m_4, m_5, m_6, m_7, m_8, m_9, m_10, m_11, m_12, m_13, m_14, m_15, m_16, m_17, m_18, m_19, m_20, m_21, m_22, m_23, m_24, m_25, m_26, m_27, m_28, m_29, m_30, m_31) = (g, (m_0, m_1, m_2, m3', nI (n + 10), m_5, m_6, d', nI (c + 1), m_9, m_10, m_11, m_12, m_13, m_14, m_15, m_16, m_17, m_18, m_19, m_20, m_21, m_22, m_23, m_24, m_25, m_26, m_27, m_28, m_29, m_30, m_31)) := by
  obtain ⟨t1, t2, t3, t4, t5, t6, t7, t8⟩ := hS
  have t5 : s2 = m_7 := t5
  have t7 : s3 = nI c := t7
  subst t5
  subst t7
  subst t8
  obtain ⟨hg, hr1, hr2⟩ := gr_eq (sg := sg) hT hv t6
  obtain ⟨hb, hp⟩ := bh_eq ⟨hr1, hr2⟩ t6
  have z9 : (9 : Int32).toInt = 9 := rfl
  obtain ⟨f', m3', hR, h4, h7⟩ := put_loop 11 (f_X7_groupOf v sg s2 (m_0, m_1, m_2, m_3, m_4, m_5, m_6, s2, nI c, m_9, m_10, m_11, m_12, m_13, m_14, m_15, m_16, m_17, m_18, m_19, m_20, m_21, m_22, m_23, m_24, m_25, m_26, m_27, m_28, m_29, m_30, m_31)) 9 n s0 s1 s2 (nI c) f x m_0 m_1 m_2 m_3 m_4 m_5 m_6 s2 (nI c) m_9 m_10 m_11 m_12 m_13 m_14 m_15 m_16 m_17 m_18 m_19 m_20 m_21 m_22 m_23 m_24 m_25 m_26 m_27 m_28 m_29 m_30 m_31 (by rw [z9]; omega) hL
  have e10 : ((9 : Int32).toInt + 1).toNat = 10 := by rw [z9]; rfl
  rw [e10] at hR h4 h7
  refine ⟨f_X7_groupOf v sg s2 (m_0, m_1, m_2, m_3, m_4, m_5, m_6, s2, nI c, m_9, m_10, m_11, m_12, m_13, m_14, m_15, m_16, m_17, m_18, m_19, m_20, m_21, m_22, m_23, m_24, m_25, m_26, m_27, m_28, m_29, m_30, m_31), f_X7_behindGroup (f_X7_groupOf v sg s2 (m_0, m_1, m_2, m_3, m_4, m_5, m_6, s2, nI c, m_9, m_10, m_11, m_12, m_13, m_14, m_15, m_16, m_17, m_18, m_19, m_20, m_21, m_22, m_23, m_24, m_25, m_26, m_27, m_28, m_29, m_30, m_31)) s2, f', m3', hR, hp, ?_, ?_⟩
  · simp only [f_X4_put, letv, hg]
    rw [h4, hb, nI_1]
  · have h3 : m_4 = nI n := hL.2.2.1
    have c1 : ¬ v < 0 := i_nn hv.1
    have z255 : (255 : Int32).toInt = 255 := rfl
    have c2 : ¬ 255 < v := fun w => by have := i_lt w; omega
    have c3 : m_4 + 10 ≤ 8000 := by rw [h3]; exact (room_eq (n := n) (r := 10) (f := f) (by omega) (by decide)).2.mpr hn
    have hj : jn_X7_send_22 v sg (m_0, m_1, m_2, m_3, m_4, m_5, m_6, s2, nI c, m_9, m_10, m_11, m_12, m_13, m_14, m_15, m_16, m_17, m_18, m_19, m_20, m_21, m_22, m_23, m_24, m_25, m_26, m_27, m_28, m_29, m_30, m_31) = (f_X7_groupOf v sg s2 (m_0, m_1, m_2, m_3, m_4, m_5, m_6, s2, nI c, m_9, m_10, m_11, m_12, m_13, m_14, m_15, m_16, m_17, m_18, m_19, m_20, m_21, m_22, m_23, m_24, m_25, m_26, m_27, m_28, m_29, m_30, m_31), (m_0, m_1, m_2, m3', nI (n + 10), m_5, m_6, f_X7_behindGroup (f_X7_groupOf v sg s2 (m_0, m_1, m_2, m_3, m_4, m_5, m_6, s2, nI c, m_9, m_10, m_11, m_12, m_13, m_14, m_15, m_16, m_17, m_18, m_19, m_20, m_21, m_22, m_23, m_24, m_25, m_26, m_27, m_28, m_29, m_30, m_31)) s2, nI (c + 1), m_9, m_10, m_11, m_12, m_13, m_14, m_15, m_16, m_17, m_18, m_19, m_20, m_21, m_22, m_23, m_24, m_25, m_26, m_27, m_28, m_29, m_30, m_31)) := by
      simp only [jn_X7_send_22, ↓if_pos c3, letv]
      rw [h7, nI_1]
    simp only [f_X7_send, ↓if_neg c1, ↓if_neg c2]
    rcases hs with hs | hs
    · rw [if_pos hs]
      exact hj
    · by_cases c4 : sg = 0
      · rw [if_pos c4]
        exact hj
      · rw [if_neg c4, if_neg hs]
        exact hj

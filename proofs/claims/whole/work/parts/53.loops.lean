theorem nar255 (x : Int32) : vp_nar .byte x &&& 255 = x &&& 255 := by
  rw [show vp_nar .byte x = x.toInt8.toInt32 from rfl]
  have hz : ∀ i : Fin 32, 8 ≤ i.val → (255#32 : BitVec 32).getLsbD i.val = false := by decide
  have h : ∀ y : BitVec 32, (y.signExtend 8).signExtend 32 &&& 255#32 = y &&& 255#32 := by
    intro y
    apply BitVec.eq_of_getLsbD_eq
    intro i hi
    rw [BitVec.getLsbD_and, BitVec.getLsbD_and]
    by_cases c : i < 8
    · rw [BitVec.getLsbD_signExtend, BitVec.getLsbD_signExtend]
      simp [c, hi]
    · rw [hz ⟨i, hi⟩ (Nat.le_of_not_lt c)]
      simp
  exact congrArg Int32.ofBitVec (h x.toBitVec)
theorem narb {b : Int32} (h : b = 0 ∨ b = 1) : vp_nar .boolean b = b := by
  rcases h with rfl | rfl <;> rfl
theorem rec_loop : ∀ (fu i : Nat) (v1 : Int32) (m_20 : Nat → Int32) (m_0 : Nat → Int32) (m_1 : Nat → Int32) (m_2 : Nat → Int32) (m_3 : Nat → Int32) (m_4 : Int32) (m_5 : Nat → Int32) (m_6 : Int32) (m_7 : Int32) (m_8 : Int32) (m_9 : Int32) (m_10 : Int32) (m_11 : Int32) (m_12 : Int32) (m_13 : Int32) (m_14 : Int32) (m_15 : Int32) (m_16 : Int32) (m_17 : Int32) (m_18 : Int32) (m_19 : Int32) (m_21 : Int32) (m_22 : Int32) (m_23 : Int32) (m_24 : Int32) (m_25 : Nat → Int32) (m_26 : Int32) (m_27 : Nat → Int32) (m_28 : Nat → Int32) (m_29 : Nat → Int32) (m_30 : Int32) (m_31 : Int32), i ≤ 99 → 100 ≤ fu + i → ∃ g : Nat → Int32, (∀ j, j < i → g j = m_20 j) ∧ (∀ j, i ≤ j → j < 99 → g j = m_20 (j + 1)) ∧ g 99 = (if v1 = (-1) then 512 else v1) ∧ lp_X7_receive_12 fu v1 (nI i) (m_0, m_1, m_2, m_3, m_4, m_5, m_6, m_7, m_8, m_9, m_10, m_11, m_12, m_13, m_14, m_15, m_16, m_17, m_18, m_19, m_20, m_21, m_22, m_23, m_24, m_25, m_26, m_27, m_28, m_29, m_30, m_31) = jn_X7_receive_57 v1 (m_0, m_1, m_2, m_3, m_4, m_5, m_6, m_7, m_8, m_9, m_10, m_11, m_12, m_13, m_14, m_15, m_16, m_17, m_18, m_19, g, m_21, m_22, m_23, m_24, m_25, m_26, m_27, m_28, m_29, m_30, m_31) := by
  intro fu
  induction fu with
  | zero => intro i v1 m_20 m_0 m_1 m_2 m_3 m_4 m_5 m_6 m_7 m_8 m_9 m_10 m_11 m_12 m_13 m_14 m_15 m_16 m_17 m_18 m_19 m_21 m_22 m_23 m_24 m_25 m_26 m_27 m_28 m_29 m_30 m_31 h1 h2; omega
  | succ fu ih =>
    intro i v1 m_20 m_0 m_1 m_2 m_3 m_4 m_5 m_6 m_7 m_8 m_9 m_10 m_11 m_12 m_13 m_14 m_15 m_16 m_17 m_18 m_19 m_21 m_22 m_23 m_24 m_25 m_26 m_27 m_28 m_29 m_30 m_31 h1 h2
    by_cases c : i < 99
    · have c1 : ¬ (99 : Int32) ≤ nI i := nI_ge (b := 99) c (by decide)
      have e1 : (nI (i + 1)).toNatClampNeg = i + 1 := nI_clamp (by omega)
      obtain ⟨g, p1, p2, p3, p4⟩ := ih (i + 1) v1 (upd m_20 i (m_20 (i + 1))) m_0 m_1 m_2 m_3 m_4 m_5 m_6 m_7 m_8 m_9 m_10 m_11 m_12 m_13 m_14 m_15 m_16 m_17 m_18 m_19 m_21 m_22 m_23 m_24 m_25 m_26 m_27 m_28 m_29 m_30 m_31 (by omega) (by omega)
      refine ⟨g, ?_, ?_, p3, ?_⟩
      · intro a ha
        rw [p1 a (by omega), pk_un (by omega)]
      · intro a ha1 ha2
        by_cases ea : a = i
        · subst ea
          rw [p1 a (by omega), pk_us]
        · rw [p2 a (by omega) ha2, pk_un (by omega)]
      · simp only [lp_X7_receive_12, ↓if_neg c1, nI_1, e1, nI_clamp (show i < 2 ^ 31 by omega)]
        exact p4
    · have ei : i = 99 := by omega
      subst ei
      have c1 : (99 : Int32) ≤ nI 99 := by decide
      have e99 : (99 : Int32).toNatClampNeg = 99 := by decide
      by_cases cv : v1 = (-1)
      · refine ⟨upd m_20 99 512, fun j hj => pk_un (by omega), fun j h1 h2 => absurd h2 (by omega), ?_, ?_⟩
        · rw [pk_us, if_pos cv]
        · simp only [lp_X7_receive_12, ↓if_pos c1, ↓if_pos cv, e99]
      · refine ⟨upd m_20 99 v1, fun j hj => pk_un (by omega), fun j h1 h2 => absurd h2 (by omega), ?_, ?_⟩
        · rw [pk_us, if_neg cv]
        · simp only [lp_X7_receive_12, ↓if_pos c1, ↓if_neg cv, e99]
theorem end_copy : ∀ (fu i len k2 : Nat) (m_29 : Nat → Int32) (m_0 : Nat → Int32) (m_1 : Nat → Int32) (m_2 : Nat → Int32) (m_3 : Nat → Int32) (m_4 : Int32) (m_5 : Nat → Int32) (m_6 : Int32) (m_7 : Int32) (m_8 : Int32) (m_9 : Int32) (m_10 : Int32) (m_11 : Int32) (m_12 : Int32) (m_13 : Int32) (m_14 : Int32) (m_15 : Int32) (m_16 : Int32) (m_17 : Int32) (m_18 : Int32) (m_19 : Int32) (m_20 : Nat → Int32) (m_21 : Int32) (m_22 : Int32) (m_23 : Int32) (m_25 : Nat → Int32) (m_27 : Nat → Int32) (m_28 : Nat → Int32) (m_30 : Int32) (m_31 : Int32), i ≤ len → len < fu + i → len ≤ 300 → k2 < 40 → ∃ g : Nat → Int32, (∀ j, j < 300 * k2 + i → g j = m_29 j) ∧ (∀ j, i ≤ j → j < len → g (300 * k2 + j) &&& 255 = m_25 j &&& 255) ∧ lp_X7_end_157 fu (nI i) (m_0, m_1, m_2, m_3, m_4, m_5, m_6, m_7, m_8, m_9, m_10, m_11, m_12, m_13, m_14, m_15, m_16, m_17, m_18, m_19, m_20, m_21, m_22, m_23, nI len, m_25, nI k2, m_27, m_28, m_29, m_30, m_31) = (m_0, m_1, m_2, m_3, m_4, m_5, m_6, m_7, m_8, m_9, m_10, m_11, m_12, m_13, m_14, m_15, m_16, m_17, m_18, m_19, m_20, m_21, m_22, m_23, nI len, m_25, nI (k2 + 1), m_27, m_28, g, m_30, m_31) := by
  intro fu
  induction fu with
  | zero => intro i len k2 m_29 m_0 m_1 m_2 m_3 m_4 m_5 m_6 m_7 m_8 m_9 m_10 m_11 m_12 m_13 m_14 m_15 m_16 m_17 m_18 m_19 m_20 m_21 m_22 m_23 m_25 m_27 m_28 m_30 m_31 h1 h2; omega
  | succ fu ih =>
    intro i len k2 m_29 m_0 m_1 m_2 m_3 m_4 m_5 m_6 m_7 m_8 m_9 m_10 m_11 m_12 m_13 m_14 m_15 m_16 m_17 m_18 m_19 m_20 m_21 m_22 m_23 m_25 m_27 m_28 m_30 m_31 h1 h2 h3 h4
    by_cases c : i < len
    · have c1 : ¬ nI len ≤ nI i := nI_ge c (by omega)
      have e1 : (300 * nI k2 + nI i).toNatClampNeg = 300 * k2 + i := by
        rw [show (300 : Int32) = nI 300 from rfl, pk_mul, nI_add, nI_clamp (by omega)]
      obtain ⟨g, p1, p2, p3⟩ := ih (i + 1) len k2 (upd m_29 (300 * k2 + i) (vp_nar .byte (m_25 i))) m_0 m_1 m_2 m_3 m_4 m_5 m_6 m_7 m_8 m_9 m_10 m_11 m_12 m_13 m_14 m_15 m_16 m_17 m_18 m_19 m_20 m_21 m_22 m_23 m_25 m_27 m_28 m_30 m_31 (by omega) (by omega) h3 h4
      refine ⟨g, ?_, ?_, ?_⟩
      · intro a ha
        rw [p1 a (by omega), pk_un (by omega)]
      · intro a ha1 ha2
        by_cases ea : a = i
        · subst ea
          rw [p1 _ (by omega), pk_us, nar255]
        · exact p2 a (by omega) ha2
      · simp only [lp_X7_end_157, ↓if_neg c1, nI_1, e1, nI_clamp (show i < 2 ^ 31 by omega)]
        exact p3
    · have ei : i = len := by omega
      subst ei
      have c1 : nI i ≤ nI i := nI_le (Nat.le_refl _) (by omega)
      refine ⟨m_29, fun j _ => rfl, fun j h1 h2 => absurd h2 (by omega), ?_⟩
      simp only [lp_X7_end_157, ↓if_pos c1, nI_1]
theorem end_put {a : Int32} {len k2 : Nat} {m_0 : Nat → Int32} {m_1 : Nat → Int32} {m_2 : Nat → Int32} {m_3 : Nat → Int32} {m_4 : Int32} {m_5 : Nat → Int32} {m_6 : Int32} {m_7 : Int32} {m_8 : Int32} {m_9 : Int32} {m_10 : Int32} {m_11 : Int32} {m_12 : Int32} {m_13 : Int32} {m_14 : Int32} {m_15 : Int32} {m_16 : Int32} {m_17 : Int32} {m_18 : Int32} {m_19 : Int32} {m_20 : Nat → Int32} {m_21 : Int32} {m_22 : Int32} {m_23 : Int32} {m_25 : Nat → Int32} {m_27 : Nat → Int32} {m_28 : Nat → Int32} {m_30 : Int32} {m_31 : Int32} {m_29 : Nat → Int32} (hl : len ≤ 300) (hk : k2 < 40) : ∃ g : Nat → Int32, (∀ j, j < 300 * k2 → g j = m_29 j) ∧ (∀ j, j < len → g (300 * k2 + j) &&& 255 = m_25 j &&& 255) ∧ jn_X7_end_132 a (m_0, m_1, m_2, m_3, m_4, m_5, m_6, m_7, m_8, m_9, m_10, m_11, m_12, m_13, m_14, m_15, m_16, m_17, m_18, m_19, m_20, m_21, m_22, m_23, nI len, m_25, nI k2, m_27, m_28, m_29, m_30, m_31) = (m_0, m_1, m_2, m_3, m_4, m_5, m_6, m_7, m_8, m_9, m_10, m_11, m_12, m_13, m_14, m_15, m_16, m_17, m_18, m_19, m_20, m_21, m_22, m_23, nI len, m_25, nI (k2 + 1), (upd m_27 k2 (nI len)), (upd m_28 k2 (vp_nar .boolean a)), g, m_30, m_31) := by
  obtain ⟨g, p1, p2, p3⟩ := end_copy 301 0 len k2 m_29 m_0 m_1 m_2 m_3 m_4 m_5 m_6 m_7 m_8 m_9 m_10 m_11 m_12 m_13 m_14 m_15 m_16 m_17 m_18 m_19 m_20 m_21 m_22 m_23 m_25 (upd m_27 k2 (nI len)) (upd m_28 k2 (vp_nar .boolean a)) m_30 m_31 (by omega) (by omega) hl hk
  refine ⟨g, fun j hj => p1 j (by omega), fun j hj => p2 j (by omega) hj, ?_⟩
  simp only [jn_X7_end_132, nI_clamp (show k2 < 2 ^ 31 by omega)]
  exact p3
theorem end_bytes : ∀ (fu i : Nat) (a : Int32) (m_29 : Nat → Int32) (m_0 : Nat → Int32) (m_1 : Nat → Int32) (m_2 : Nat → Int32) (m_3 : Nat → Int32) (m_4 : Int32) (m_5 : Nat → Int32) (m_6 : Int32) (m_7 : Int32) (m_8 : Int32) (m_9 : Int32) (m_10 : Int32) (m_11 : Int32) (m_12 : Int32) (m_13 : Int32) (m_14 : Int32) (m_15 : Int32) (m_16 : Int32) (m_17 : Int32) (m_18 : Int32) (m_19 : Int32) (m_20 : Nat → Int32) (m_21 : Int32) (m_22 : Int32) (m_23 : Int32) (m_24 : Int32) (m_25 : Nat → Int32) (m_27 : Nat → Int32) (m_28 : Nat → Int32) (m_30 : Int32) (m_31 : Int32), i ≤ 11700 → 11700 < fu + i → ∃ g : Nat → Int32, (∀ j, j < i → g j = m_29 j) ∧ (∀ j, i ≤ j → j < 11700 → g j &&& 255 = m_29 (j + 300) &&& 255) ∧ lp_X7_end_98 fu a (nI i) (m_0, m_1, m_2, m_3, m_4, m_5, m_6, m_7, m_8, m_9, m_10, m_11, m_12, m_13, m_14, m_15, m_16, m_17, m_18, m_19, m_20, m_21, m_22, m_23, m_24, m_25, nI 39, m_27, m_28, m_29, m_30, m_31) = jn_X7_end_132 a (m_0, m_1, m_2, m_3, m_4, m_5, m_6, m_7, m_8, m_9, m_10, m_11, m_12, m_13, m_14, m_15, m_16, m_17, m_18, m_19, m_20, m_21, m_22, m_23, m_24, m_25, nI 39, m_27, m_28, g, m_30, m_31) := by
  intro fu
  induction fu with
  | zero => intro i a m_29 m_0 m_1 m_2 m_3 m_4 m_5 m_6 m_7 m_8 m_9 m_10 m_11 m_12 m_13 m_14 m_15 m_16 m_17 m_18 m_19 m_20 m_21 m_22 m_23 m_24 m_25 m_27 m_28 m_30 m_31 h1 h2; omega
  | succ fu ih =>
    intro i a m_29 m_0 m_1 m_2 m_3 m_4 m_5 m_6 m_7 m_8 m_9 m_10 m_11 m_12 m_13 m_14 m_15 m_16 m_17 m_18 m_19 m_20 m_21 m_22 m_23 m_24 m_25 m_27 m_28 m_30 m_31 h1 h2
    by_cases c : i < 11700
    · have c1 : ¬ 300 * nI 39 ≤ nI i := by
        rw [show (300 : Int32) = nI 300 from rfl, pk_mul]
        exact nI_ge (by omega) (by omega)
      have e1 : (nI i + 300).toNatClampNeg = i + 300 := by
        rw [show (300 : Int32) = nI 300 from rfl, nI_add, nI_clamp (by omega)]
      obtain ⟨g, p1, p2, p3⟩ := ih (i + 1) a (upd m_29 i (vp_nar .byte (m_29 (i + 300)))) m_0 m_1 m_2 m_3 m_4 m_5 m_6 m_7 m_8 m_9 m_10 m_11 m_12 m_13 m_14 m_15 m_16 m_17 m_18 m_19 m_20 m_21 m_22 m_23 m_24 m_25 m_27 m_28 m_30 m_31 (by omega) (by omega)
      refine ⟨g, ?_, ?_, ?_⟩
      · intro a ha
        rw [p1 a (by omega), pk_un (by omega)]
      · intro a ha1 ha2
        by_cases ea : a = i
        · subst ea
          rw [p1 _ (by omega), pk_us, nar255]
        · rw [p2 a (by omega) ha2, pk_un (by omega)]
      · simp only [lp_X7_end_98, ↓if_neg c1, nI_1, e1, nI_clamp (show i < 2 ^ 31 by omega)]
        exact p3
    · have ei : i = 11700 := by omega
      subst ei
      have c1 : 300 * nI 39 ≤ nI 11700 := by decide
      refine ⟨m_29, fun j _ => rfl, fun j h1 h2 => absurd h2 (by omega), ?_⟩
      simp only [lp_X7_end_98, ↓if_pos c1]
theorem end_heads : ∀ (fu i : Nat) (a : Int32) (m_27 m_28 : Nat → Int32) (m_0 : Nat → Int32) (m_1 : Nat → Int32) (m_2 : Nat → Int32) (m_3 : Nat → Int32) (m_4 : Int32) (m_5 : Nat → Int32) (m_6 : Int32) (m_7 : Int32) (m_8 : Int32) (m_9 : Int32) (m_10 : Int32) (m_11 : Int32) (m_12 : Int32) (m_13 : Int32) (m_14 : Int32) (m_15 : Int32) (m_16 : Int32) (m_17 : Int32) (m_18 : Int32) (m_19 : Int32) (m_20 : Nat → Int32) (m_21 : Int32) (m_22 : Int32) (m_23 : Int32) (m_24 : Int32) (m_25 : Nat → Int32) (m_29 : Nat → Int32) (m_30 : Int32) (m_31 : Int32), (∀ j, (m_27 j).toInt ≤ 300) → i ≤ 39 → 39 < fu + i → ∃ g h : Nat → Int32, (∀ j, (g j).toInt ≤ 300) ∧ (∀ j, j < i → g j = m_27 j ∧ h j = m_28 j) ∧ (∀ j, i ≤ j → j < 39 → g j = m_27 (j + 1) ∧ h j = vp_nar .boolean (m_28 (j + 1))) ∧ lp_X7_end_54 fu a (nI i) (m_0, m_1, m_2, m_3, m_4, m_5, m_6, m_7, m_8, m_9, m_10, m_11, m_12, m_13, m_14, m_15, m_16, m_17, m_18, m_19, m_20, m_21, m_22, m_23, m_24, m_25, nI 39, m_27, m_28, m_29, m_30, m_31) = lp_X7_end_98 11701 a 0 (m_0, m_1, m_2, m_3, m_4, m_5, m_6, m_7, m_8, m_9, m_10, m_11, m_12, m_13, m_14, m_15, m_16, m_17, m_18, m_19, m_20, m_21, m_22, m_23, m_24, m_25, nI 39, g, h, m_29, m_30, m_31) := by
  intro fu
  induction fu with
  | zero => intro i a m_27 m_28 m_0 m_1 m_2 m_3 m_4 m_5 m_6 m_7 m_8 m_9 m_10 m_11 m_12 m_13 m_14 m_15 m_16 m_17 m_18 m_19 m_20 m_21 m_22 m_23 m_24 m_25 m_29 m_30 m_31 h0 h1 h2; omega
  | succ fu ih =>
    intro i a m_27 m_28 m_0 m_1 m_2 m_3 m_4 m_5 m_6 m_7 m_8 m_9 m_10 m_11 m_12 m_13 m_14 m_15 m_16 m_17 m_18 m_19 m_20 m_21 m_22 m_23 m_24 m_25 m_29 m_30 m_31 h0 h1 h2
    by_cases c : i < 39
    · have c1 : ¬ nI 39 ≤ nI i := nI_ge c (by omega)
      have e1 : (nI (i + 1)).toNatClampNeg = i + 1 := nI_clamp (by omega)
      have hq : ∀ j, (upd m_27 i (m_27 (i + 1)) j).toInt ≤ 300 := by
        intro j
        by_cases ej : j = i
        · subst ej; rw [pk_us]; exact h0 _
        · rw [pk_un ej]; exact h0 _
      obtain ⟨g, h, p0, p1, p2, p3⟩ := ih (i + 1) a (upd m_27 i (m_27 (i + 1))) (upd m_28 i (vp_nar .boolean (m_28 (i + 1)))) m_0 m_1 m_2 m_3 m_4 m_5 m_6 m_7 m_8 m_9 m_10 m_11 m_12 m_13 m_14 m_15 m_16 m_17 m_18 m_19 m_20 m_21 m_22 m_23 m_24 m_25 m_29 m_30 m_31 hq (by omega) (by omega)
      refine ⟨g, h, p0, ?_, ?_, ?_⟩
      · intro a ha
        have q := p1 a (by omega)
        rw [pk_un (by omega), pk_un (by omega)] at q
        exact q
      · intro a ha1 ha2
        by_cases ea : a = i
        · subst ea
          have q := p1 a (by omega)
          rw [pk_us, pk_us] at q
          exact q
        · have q := p2 a (by omega) ha2
          rw [pk_un (by omega), pk_un (by omega)] at q
          exact q
      · simp only [lp_X7_end_54, ↓if_neg c1, nI_1, e1, nI_clamp (show i < 2 ^ 31 by omega)]
        exact p3
    · have ei : i = 39 := by omega
      subst ei
      have c1 : nI 39 ≤ nI 39 := by decide
      refine ⟨m_27, m_28, h0, fun j _ => ⟨rfl, rfl⟩, fun j h1 h2 => absurd h2 (by omega), ?_⟩
      simp only [lp_X7_end_54, ↓if_pos c1]

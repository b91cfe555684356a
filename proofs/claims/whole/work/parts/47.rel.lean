/-! the relation between the class and the reference -/
/-- byte j of slot s -/
def byteAt (wd : Nat → Int32) (s j : Nat) : Int32 := (wd (75 * s + j / 4) >>> (nI (8 * (j % 4)) &&& 31)) &&& 255
def RRx (k : Nat) (w wb ev ln rk fa go gr bd sr : Int32) (m9 m10 m11 m12 m13 m14 m15 m16 m17 m18 : Int32) : Prop :=
  w = m14 ∧ (0 ≤ m14.toInt ∧ m14.toInt < 1024) ∧ ev = m15 ∧ (m15 = 0 ∨ m15 = 1) ∧ ln = m9 ∧ pm m9 ∧ rk = m10 ∧ fa = m11 ∧ go = m12 ∧ gr = m16 ∧ bd = m17 ∧ sr = m18 ∧
  ∃ r bi tr : Nat, r ≤ 3 ∧ m10 = nI r ∧ bi ≤ k ∧ m13 = nI bi ∧ wb = nI (min bi 10) ∧ (0 < r → bi < 10) ∧ tr ≤ 4 ∧ m11 = nI tr ∧ (r = 3 → 0 < tr)
def RLg (k : Nat) (row : Nat → Int32) (nx kp rc : Int32) (m19 : Int32) (m20 : Nat → Int32) : Prop :=
  ∃ q : Nat, q ≤ k ∧ rc = nI q ∧ m19 = nI q ∧ kp = nI (min q 100) ∧ nx = nI (q % 100) ∧ ∀ j, j < min q 100 → row ((q - 1 - j) % 100) = m20 (99 - j)
/-- the frames that are kept: k2 of them, slot s in use -/
def RFr (s k2 : Nat) (wd ln wh : Nat → Int32) (m27 m28 m29 : Nat → Int32) : Prop :=
  ∀ i, i < k2 → ∃ len : Nat, len ≤ 300 ∧ ln ((s + 41 - k2 + i) % 41) = nI len ∧ m27 i = nI len ∧ wh ((s + 41 - k2 + i) % 41) = m28 i ∧ (m28 i = 0 ∨ m28 i = 1) ∧ ∀ j, j < len → byteAt wd ((s + 41 - k2 + i) % 41) j = m29 (300 * i + j) &&& 255
def ROp (s : Nat) (wd ln : Nat → Int32) (st br : Int32) (m21 m22 m23 m24 : Int32) (m25 : Nat → Int32) : Prop :=
  (st = 0 ∧ m21 = 0) ∨ (m21 = 1 ∧ ((st = 1 ∧ m23 = 0) ∨ (st = 2 ∧ m23 = 1)) ∧ br = m22 ∧ (m22 = 0 ∨ m22 = 1) ∧ ln s = m24 ∧ ∀ j : Nat, (j : Int) < m24.toInt → byteAt wd s j = m25 j &&& 255)
def RSh (wd ln wh : Nat → Int32) (sl kp st br en ew : Int32) (m21 m22 m23 m24 : Int32) (m25 : Nat → Int32) (m26 : Int32) (m27 m28 m29 : Nat → Int32) (m30 m31 : Int32) : Prop :=
  ∃ s k2 : Nat, s < 41 ∧ k2 ≤ 40 ∧ sl = nI s ∧ kp = nI k2 ∧ m26 = nI k2 ∧ en = m30 ∧ ew = m31 ∧ (0 ≤ m24.toInt ∧ m24.toInt ≤ 300) ∧ (∀ j, (m27 j).toInt ≤ 300) ∧ RFr s k2 wd ln wh m27 m28 m29 ∧ ROp s wd ln st br m21 m22 m23 m24 m25
/-- the receiving ends -/
def RRv (k : Nat) (R : RvS) (X : Int32 × Int32 × Int32 × Int32 × Int32 × Int32 × Int32 × Int32 × Int32 × Int32 × Int32 × (Nat → Int32) × Int32 × Int32 × Int32 × Int32 × (Nat → Int32) × Int32 × (Nat → Int32) × (Nat → Int32) × (Nat → Int32) × Int32 × Int32) : Prop :=
  match R, X with
  | ((g0, g1, g2, g3), (w0, w1, w2, w3, w4, w5, w6, w7, w8), a0, a1, a2, a3, a4, a5, a6, a7, a8, a9), (m9, m10, m11, m12, m13, m14, m15, m16, m17, m18, m19, m20, m21, m22, m23, m24, m25, m26, m27, m28, m29, m30, m31) =>
    RRx k a0 a1 a2 a3 a4 a5 a6 a7 a8 a9 m9 m10 m11 m12 m13 m14 m15 m16 m17 m18 ∧ RLg k g0 g1 g2 g3 m19 m20 ∧ RSh w0 w1 w2 w3 w4 w5 w6 w7 w8 m21 m22 m23 m24 m25 m26 m27 m28 m29 m30 m31
def Rel (k : Nat) (S : CGS) (M : MdS) : Prop := ∃ n t c : Nat, tabOK M ∧ RLn n S.1 M.2.2.2.1 M.2.2.2.2.1 ∧ RSd t c S.2.1 M.2.2.2.2.2.1 M.2.2.2.2.2.2.1 M.2.2.2.2.2.2.2.1 M.2.2.2.2.2.2.2.2.1 ∧ c ≤ 410 * k ∧ RRv (8000 * k) S.2.2 M.2.2.2.2.2.2.2.2.2
theorem RRx.mono {k k' : Nat} {w wb ev ln rk fa go gr bd sr m9 m10 m11 m12 m13 m14 m15 m16 m17 m18 : Int32} (h : RRx k w wb ev ln rk fa go gr bd sr m9 m10 m11 m12 m13 m14 m15 m16 m17 m18) (hk : k ≤ k') : RRx k' w wb ev ln rk fa go gr bd sr m9 m10 m11 m12 m13 m14 m15 m16 m17 m18 := by
  obtain ⟨a1, a2, a3, a4, a5, a6, a7, a8, a9, b1, b2, b3, r, bi, tr, c1, c2, c3, c4⟩ := h
  exact ⟨a1, a2, a3, a4, a5, a6, a7, a8, a9, b1, b2, b3, r, bi, tr, c1, c2, by omega, c4⟩
theorem RLg.mono {k k' : Nat} {row : Nat → Int32} {nx kp rc m19 : Int32} {m20 : Nat → Int32} (h : RLg k row nx kp rc m19 m20) (hk : k ≤ k') : RLg k' row nx kp rc m19 m20 := by
  obtain ⟨q, a1, a2⟩ := h
  exact ⟨q, by omega, a2⟩
theorem RRv.le {k k' : Nat} {R : RvS} {X : Int32 × Int32 × Int32 × Int32 × Int32 × Int32 × Int32 × Int32 × Int32 × Int32 × Int32 × (Nat → Int32) × Int32 × Int32 × Int32 × Int32 × (Nat → Int32) × Int32 × (Nat → Int32) × (Nat → Int32) × (Nat → Int32) × Int32 × Int32} (h : RRv k R X) (hk : k ≤ k') : RRv k' R X := by
  obtain ⟨⟨r_0_0, r_0_1, r_0_2, r_0_3⟩, ⟨r_1_0, r_1_1, r_1_2, r_1_3, r_1_4, r_1_5, r_1_6, r_1_7, r_1_8⟩, r_2, r_3, r_4, r_5, r_6, r_7, r_8, r_9, r_10, r_11⟩ := R
  obtain ⟨y9, y10, y11, y12, y13, y14, y15, y16, y17, y18, y19, y20, y21, y22, y23, y24, y25, y26, y27, y28, y29, y30, y31⟩ := X
  exact ⟨h.1.mono hk, h.2.1.mono hk, h.2.2⟩
theorem RRv.mono {k : Nat} {R : RvS} {X : Int32 × Int32 × Int32 × Int32 × Int32 × Int32 × Int32 × Int32 × Int32 × Int32 × Int32 × (Nat → Int32) × Int32 × Int32 × Int32 × Int32 × (Nat → Int32) × Int32 × (Nat → Int32) × (Nat → Int32) × (Nat → Int32) × Int32 × Int32} (h : RRv (8000 * k) R X) : RRv (8000 * (k + 1)) R X := h.le (by omega)
theorem sim_mono (k : Nat) (S : CGS) (M : MdS) (h : Rel k S M) : Rel (k + 1) S M := by
  obtain ⟨n, t, c, h1, h2, h3, h4, h5⟩ := h
  exact ⟨n, t, c, h1, h2, h3, by omega, h5.mono⟩
theorem sim_size (k : Nat) (S : CGS) (M : MdS) (_ : k < 512) (h : Rel k S M) : f_X6_size S = f_X7_size M := by
  obtain ⟨⟨f, x⟩, ⟨s0, s1, s2, s3⟩, ⟨⟨r_0_0, r_0_1, r_0_2, r_0_3⟩, ⟨r_1_0, r_1_1, r_1_2, r_1_3, r_1_4, r_1_5, r_1_6, r_1_7, r_1_8⟩, r_2, r_3, r_4, r_5, r_6, r_7, r_8, r_9, r_10, r_11⟩⟩ := S
  obtain ⟨m_0, m_1, m_2, m_3, m_4, m_5, m_6, m_7, m_8, m_9, m_10, m_11, m_12, m_13, m_14, m_15, m_16, m_17, m_18, m_19, m_20, m_21, m_22, m_23, m_24, m_25, m_26, m_27, m_28, m_29, m_30, m_31⟩ := M
  obtain ⟨n, t, c, h1, h2, h3, h4, h5⟩ := h
  have e1 : x = nI n := h2.2.1
  have e2 : m_4 = nI n := h2.2.2.1
  simp only [f_X6_size, f_X7_size]
  rw [e1, e2]
theorem has_eq {i : Int32} {f : Nat → Int32} {n : Nat} (hn : n ≤ 8000) : (f_X2_has i (f, nI n) = 0 ↔ i < 0 ∨ nI n ≤ i) := by
  have c3 : ¬ (8000 : Int32) < nI n := fun w => by have := (nI_ltI (a := 8000) (by decide) (by omega)).mp w; omega
  simp only [f_X2_has, ↓if_neg c3]
  by_cases c1 : i < 0
  · rw [if_pos c1]; exact ⟨fun _ => Or.inl c1, fun _ => rfl⟩
  · rw [if_neg c1]
    by_cases c2 : nI n ≤ i
    · rw [if_pos c2]; exact ⟨fun _ => Or.inr c2, fun _ => rfl⟩
    · rw [if_neg c2]; exact ⟨fun w => absurd w (by decide), fun w => absurd w (by rintro (q | q); exact c1 q; exact c2 q)⟩
theorem ix_of {i : Int32} {n : Nat} (hn : n ≤ 8000) (h1 : ¬ i < 0) (h2 : ¬ nI n ≤ i) : ∃ j : Nat, j < n ∧ i = nI j ∧ i.toNatClampNeg = j := by
  obtain ⟨j, hj, rfl⟩ := nI_of h1
  have q : ¬ n ≤ j := fun w => h2 (nI_le w hj)
  exact ⟨j, by omega, rfl, nI_clamp hj⟩
theorem sim_line (i : Int32) (k : Nat) (S : CGS) (M : MdS) (_ : k < 512) (h : Rel k S M) : f_X6_line i S = f_X7_line i M := by
  obtain ⟨⟨f, x⟩, ⟨s0, s1, s2, s3⟩, ⟨⟨r_0_0, r_0_1, r_0_2, r_0_3⟩, ⟨r_1_0, r_1_1, r_1_2, r_1_3, r_1_4, r_1_5, r_1_6, r_1_7, r_1_8⟩, r_2, r_3, r_4, r_5, r_6, r_7, r_8, r_9, r_10, r_11⟩⟩ := S
  obtain ⟨m_0, m_1, m_2, m_3, m_4, m_5, m_6, m_7, m_8, m_9, m_10, m_11, m_12, m_13, m_14, m_15, m_16, m_17, m_18, m_19, m_20, m_21, m_22, m_23, m_24, m_25, m_26, m_27, m_28, m_29, m_30, m_31⟩ := M
  obtain ⟨n, t, c, h1, h2, h3, h4, h5⟩ := h
  have e1 : x = nI n := h2.2.1
  have e2 : m_4 = nI n := h2.2.2.1
  have hn : n ≤ 8000 := h2.1
  subst e1
  subst e2
  have hq := has_eq (i := i) (f := f) hn
  by_cases c1 : i < 0
  · have hz := hq.mpr (Or.inl c1)
    simp only [f_X6_line, f_X2_get, f_X7_line, ↓if_pos c1, ↓if_pos hz]
  · by_cases c2 : nI n ≤ i
    · have hz := hq.mpr (Or.inr c2)
      simp only [f_X6_line, f_X2_get, f_X7_line, ↓if_neg c1, ↓if_pos c2, ↓if_pos hz]
    · have hz : ¬ f_X2_has i (f, nI n) = 0 := fun w => by rcases hq.mp w with q | q; exact c1 q; exact c2 q
      obtain ⟨j, hj, e, ec⟩ := ix_of hn c1 c2
      simp only [f_X6_line, f_X2_get, f_X7_line, ↓if_neg c1, ↓if_neg c2, ↓if_neg hz, ec]
      exact h2.2.2.2.2.2 j hj
theorem sim_turn (i : Int32) (k : Nat) (S : CGS) (M : MdS) (_ : k < 512) (h : Rel k S M) : (f_X6_turn i S).1 = (f_X7_turn i M).1 ∧ Rel (k + 1) (f_X6_turn i S).2 (f_X7_turn i M).2 := by
  have hm := sim_mono _ _ _ h
  obtain ⟨⟨f, x⟩, ⟨s0, s1, s2, s3⟩, ⟨⟨r_0_0, r_0_1, r_0_2, r_0_3⟩, ⟨r_1_0, r_1_1, r_1_2, r_1_3, r_1_4, r_1_5, r_1_6, r_1_7, r_1_8⟩, r_2, r_3, r_4, r_5, r_6, r_7, r_8, r_9, r_10, r_11⟩⟩ := S
  obtain ⟨m_0, m_1, m_2, m_3, m_4, m_5, m_6, m_7, m_8, m_9, m_10, m_11, m_12, m_13, m_14, m_15, m_16, m_17, m_18, m_19, m_20, m_21, m_22, m_23, m_24, m_25, m_26, m_27, m_28, m_29, m_30, m_31⟩ := M
  obtain ⟨n, t, c, h1, h2, h3, h4, h5⟩ := h
  have e1 : x = nI n := h2.2.1
  have e2 : m_4 = nI n := h2.2.2.1
  have hn : n ≤ 8000 := h2.1
  subst e1
  subst e2
  have hq := has_eq (i := i) (f := f) hn
  by_cases c1 : i < 0
  · have hz := hq.mpr (Or.inl c1)
    simp only [f_X6_turn, f_X2_flip, f_X7_turn, ↓if_pos c1, ↓if_pos hz]
    exact ⟨trivial, hm⟩
  · by_cases c2 : nI n ≤ i
    · have hz := hq.mpr (Or.inr c2)
      have c3 : ¬ i < nI n := fun w => by have a := i_lt w; have b := i_le c2; omega
      simp only [f_X6_turn, f_X2_flip, f_X7_turn, ↓if_neg c1, ↓if_neg c3, ↓if_pos hz]
      exact ⟨trivial, hm⟩
    · have hz : ¬ f_X2_has i (f, nI n) = 0 := fun w => by rcases hq.mp w with q | q; exact c1 q; exact c2 q
      have c3 : i < nI n := by
        rw [Int32.lt_iff_toInt_lt]
        have b := i_nle c2
        exact b
      obtain ⟨j, hj, e, ec⟩ := ix_of hn c1 c2
      simp only [f_X6_turn, f_X2_flip, f_X7_turn, ↓if_neg c1, ↓if_pos c3, ↓if_neg hz, ec]
      have b6 := h2.2.2.2.2.2 j hj
      have b4 := h2.2.2.2.1 j
      have hf : f j = m_3 j := b6
      have hv : (1 - m_3 j : Int32) = 0 ∨ (1 - m_3 j : Int32) = 1 := by
        have w5 : m_3 j = 0 ∨ m_3 j = 1 := h2.2.2.2.2.1 j
        rcases w5 with w | w <;> rw [w] <;> decide
      rw [hf, bitb hv]
      refine ⟨trivial, n, t, c, h1, ⟨hn, rfl, rfl, upd_bits h2.2.2.2.1 hv, upd_bits h2.2.2.2.2.1 hv, ?_⟩, h3, by omega, h5.mono⟩
      intro a ha
      show upd f j (1 - m_3 j) a = upd m_3 j (1 - m_3 j) a
      by_cases ea : a = j
      · subst ea; rw [pk_us, pk_us]
      · rw [pk_un ea, pk_un ea]; exact h2.2.2.2.2.2 a ha
theorem sim_bit (b : Int32) (k : Nat) (S : CGS) (M : MdS) (_ : k < 512) (h : Rel k S M) : (f_X6_bit b S).1 = (f_X7_bit b M).1 ∧ Rel (k + 1) (f_X6_bit b S).2 (f_X7_bit b M).2 := by
  have hm := sim_mono _ _ _ h
  obtain ⟨⟨f, x⟩, ⟨s0, s1, s2, s3⟩, ⟨⟨r_0_0, r_0_1, r_0_2, r_0_3⟩, ⟨r_1_0, r_1_1, r_1_2, r_1_3, r_1_4, r_1_5, r_1_6, r_1_7, r_1_8⟩, r_2, r_3, r_4, r_5, r_6, r_7, r_8, r_9, r_10, r_11⟩⟩ := S
  obtain ⟨m_0, m_1, m_2, m_3, m_4, m_5, m_6, m_7, m_8, m_9, m_10, m_11, m_12, m_13, m_14, m_15, m_16, m_17, m_18, m_19, m_20, m_21, m_22, m_23, m_24, m_25, m_26, m_27, m_28, m_29, m_30, m_31⟩ := M
  obtain ⟨n, t, c, h1, h2, h3, h4, h5⟩ := h
  have e1 : x = nI n := h2.2.1
  have e2 : m_4 = nI n := h2.2.2.1
  have hn : n ≤ 8000 := h2.1
  subst e1
  subst e2
  have hfull : n = 8000 → f_X2_append b (f, nI n) = (0, (f, nI n)) := fun w => by
    subst w
    have c1 : ¬ nI 8000 < 0 := by decide
    have c2 : ¬ nI 8000 < 8000 := by decide
    simp only [f_X2_append, ↓if_neg c1, ↓if_neg c2]
  have h10 : ¬ (1 : Int32) = 0 := by decide
  by_cases cb : b = 0 ∨ b = 1
  · have c1 : ¬ b < 0 := by rcases cb with rfl | rfl <;> decide
    have c2 : ¬ 1 < b := by rcases cb with rfl | rfl <;> decide
    by_cases cn : n = 8000
    · have c3 : nI n = 8000 := by rw [cn]; rfl
      have ha := hfull cn
      rcases cb with rfl | rfl
      · simp only [f_X6_bit, f_X7_bit, ↓reduceIte, ha, ↓if_neg c1, ↓if_neg c2, ↓if_pos c3]
        exact ⟨trivial, hm⟩
      · simp only [f_X6_bit, f_X7_bit, ↓if_neg h10, ↓reduceIte, ha, ↓if_neg c1, ↓if_neg c2, ↓if_pos c3]
        exact ⟨trivial, hm⟩
    · have c3 : ¬ nI n = 8000 := fun w => cn ((nI_eq (b := 8000) (by omega) (by decide)).mp w)
      obtain ⟨ha, hr⟩ := ln_app h2 (by omega) cb
      have hres : Rel (k + 1) ((upd f n b, nI (n + 1)), (s0, s1, s2, s3), ((r_0_0, r_0_1, r_0_2, r_0_3), (r_1_0, r_1_1, r_1_2, r_1_3, r_1_4, r_1_5, r_1_6, r_1_7, r_1_8), r_2, r_3, r_4, r_5, r_6, r_7, r_8, r_9, r_10, r_11)) (m_0, m_1, m_2, upd m_3 n b, nI (n + 1), m_5, m_6, m_7, m_8, m_9, m_10, m_11, m_12, m_13, m_14, m_15, m_16, m_17, m_18, m_19, m_20, m_21, m_22, m_23, m_24, m_25, m_26, m_27, m_28, m_29, m_30, m_31) := ⟨n + 1, t, c, h1, hr, h3, by omega, h5.mono⟩
      have hb := bitb cb
      rcases cb with rfl | rfl
      · simp only [f_X6_bit, f_X7_bit, ↓reduceIte, ha, ↓if_neg c1, ↓if_neg c2, ↓if_neg c3, ↓if_neg h10, hb, nI_1, nI_clamp (show n < 2 ^ 31 by omega)]
        exact ⟨trivial, hres⟩
      · simp only [f_X6_bit, f_X7_bit, ↓reduceIte, ha, ↓if_neg c1, ↓if_neg c2, ↓if_neg c3, ↓if_neg h10, hb, nI_1, nI_clamp (show n < 2 ^ 31 by omega)]
        exact ⟨trivial, hres⟩
  · have d0 : ¬ b = 0 := fun w => cb (Or.inl w)
    have d1 : ¬ b = 1 := fun w => cb (Or.inr w)
    have z0 : (0 : Int32).toInt = 0 := rfl
    have z1 : (1 : Int32).toInt = 1 := rfl
    by_cases c1 : b < 0
    · simp only [f_X6_bit, f_X7_bit, ↓if_neg d0, ↓if_neg d1, ↓if_pos c1]
      exact ⟨trivial, hm⟩
    · have c2 : 1 < b := by
        rw [Int32.lt_iff_toInt_lt]
        have a := i_nlt c1
        have b1 := i_ne d0
        have b2 := i_ne d1
        omega
      simp only [f_X6_bit, f_X7_bit, ↓if_neg d0, ↓if_neg d1, ↓if_neg c1, ↓if_pos c2]
      exact ⟨trivial, hm⟩

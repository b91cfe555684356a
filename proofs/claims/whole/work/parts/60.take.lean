theorem tk_copy : ∀ (fu i n v : Nat) (m_3 : Nat → Int32) (m_0 : Nat → Int32) (m_1 : Nat → Int32) (m_2 : Nat → Int32) (m_5 : Nat → Int32) (m_6 : Int32) (m_7 : Int32) (m_8 : Int32) (m_9 : Int32) (m_10 : Int32) (m_11 : Int32) (m_12 : Int32) (m_13 : Int32) (m_14 : Int32) (m_15 : Int32) (m_16 : Int32) (m_17 : Int32) (m_18 : Int32) (m_19 : Int32) (m_20 : Nat → Int32) (m_21 : Int32) (m_22 : Int32) (m_23 : Int32) (m_24 : Int32) (m_25 : Nat → Int32) (m_26 : Int32) (m_27 : Nat → Int32) (m_28 : Nat → Int32) (m_29 : Nat → Int32) (m_30 : Int32) (m_31 : Int32), (∀ a, m_3 a = 0 ∨ m_3 a = 1) → i ≤ n → n < i + fu → n + v ≤ 8000 → ∃ m3' : Nat → Int32, (∀ a, m3' a = 0 ∨ m3' a = 1) ∧ (∀ a, a < i → m3' a = m_3 a) ∧ (∀ a, i ≤ a → a < n → m3' a = m_3 (a + v)) ∧ lp_X7_take_65 fu (nI v) (nI i) (m_0, m_1, m_2, m_3, nI n, m_5, m_6, m_7, m_8, m_9, m_10, m_11, m_12, m_13, m_14, m_15, m_16, m_17, m_18, m_19, m_20, m_21, m_22, m_23, m_24, m_25, m_26, m_27, m_28, m_29, m_30, m_31) = (nI v, (m_0, m_1, m_2, m3', nI n, m_5, m_6, m_7, m_8, m_9, m_10, m_11, m_12, m_13, m_14, m_15, m_16, m_17, m_18, m_19, m_20, m_21, m_22, m_23, m_24, m_25, m_26, m_27, m_28, m_29, m_30, m_31)) := by
  intro fu
  induction fu with
  | zero => intro i n v m_3 m_0 m_1 m_2 m_5 m_6 m_7 m_8 m_9 m_10 m_11 m_12 m_13 m_14 m_15 m_16 m_17 m_18 m_19 m_20 m_21 m_22 m_23 m_24 m_25 m_26 m_27 m_28 m_29 m_30 m_31 hb h1 h2; omega
  | succ fu ih =>
    intro i n v m_3 m_0 m_1 m_2 m_5 m_6 m_7 m_8 m_9 m_10 m_11 m_12 m_13 m_14 m_15 m_16 m_17 m_18 m_19 m_20 m_21 m_22 m_23 m_24 m_25 m_26 m_27 m_28 m_29 m_30 m_31 hb h1 h2 h3
    by_cases c : i < n
    · have c1 : ¬ nI n ≤ nI i := nI_ge c (by omega)
      have e1 : (nI (i + v)).toNatClampNeg = i + v := nI_clamp (by omega)
      obtain ⟨m3', p1, p2, p3, p4⟩ := ih (i + 1) n v (upd m_3 i (m_3 (i + v))) m_0 m_1 m_2 m_5 m_6 m_7 m_8 m_9 m_10 m_11 m_12 m_13 m_14 m_15 m_16 m_17 m_18 m_19 m_20 m_21 m_22 m_23 m_24 m_25 m_26 m_27 m_28 m_29 m_30 m_31 (upd_bits hb (hb (i + v))) (by omega) (by omega) h3
      refine ⟨m3', p1, ?_, ?_, ?_⟩
      · intro a ha
        rw [p2 a (by omega), pk_un (by omega)]
      · intro a ha1 ha2
        by_cases ea : a = i
        · subst ea
          rw [p2 a (by omega), pk_us]
        · rw [p3 a (by omega) ha2, pk_un (by omega)]
      · simp only [lp_X7_take_65, ↓if_neg c1, nI_1, nI_add, e1, nI_clamp (show i < 2 ^ 31 by omega), bitn (hb (i + v))]
        exact p4
    · have ej : i = n := by omega
      subst ej
      have c1 : nI i ≤ nI i := nI_le (Nat.le_refl _) (by omega)
      refine ⟨m_3, hb, fun a _ => rfl, fun a ha1 ha2 => by omega, ?_⟩
      simp only [lp_X7_take_65, ↓if_pos c1]
theorem tk_cut {n v : Nat} {f m_3 : Nat → Int32} (hn : n ≤ 8000) (hv : v ≤ n) (hf : ∀ j, f j = 0 ∨ f j = 1) (he : ∀ j, j < n → f j = m_3 j) {m3' : Nat → Int32} (p1 : ∀ a, m3' a = 0 ∨ m3' a = 1) (p3 : ∀ a, a < n - v → m3' a = m_3 (a + v)) : RLn (n - v) (f_X2_cutFront (nI v) (f, nI n)) m3' (nI (n - v)) := by
  rcases (show v = 0 ∨ 0 < v by omega) with e | e
  · subst e
    have c1 : nI 0 ≤ 0 := by decide
    simp only [f_X2_cutFront, ↓if_pos c1]
    exact ⟨by omega, rfl, rfl, hf, p1, fun j hj => by
      rw [p3 j hj]
      exact he j (by omega)⟩
  · have c1 : ¬ nI v ≤ 0 := nI_nle e (by omega)
    have c2 : nI v ≤ nI n := nI_le hv (by omega)
    have es : nI n - nI v = nI (n - v) := pk_sub hv
    have z0 : (0 : Int32).toNatClampNeg = 0 := rfl
    simp only [f_X2_cutFront, ↓if_neg c1, ↓if_pos c2, es, nI_clamp (show v < 2 ^ 31 by omega), nI_clamp (show n - v < 2 ^ 31 by omega), z0]
    refine ⟨by omega, rfl, rfl, ?_, p1, ?_⟩
    · intro a
      show va_cpy f f v 0 (n - v) a = 0 ∨ va_cpy f f v 0 (n - v) a = 1
      unfold va_cpy
      split
      · exact hf _
      · exact hf _
    · intro a ha
      show va_cpy f f v 0 (n - v) a = m3' a
      rw [pk_cpy_in (by omega) (by omega), p3 a ha]
      have w : v + (a - 0) = a + v := by omega
      rw [w]
      exact he (a + v) (by omega)
theorem tx_keep {b : Int32} {M : MdS} (h : mdOK M) : mdOK (f_X7_takeBit b M) ∧ tx (f_X7_takeBit b M) = tx M := pr_takeBit ⟨h, rfl⟩
theorem get_in {i n : Nat} {f : Nat → Int32} (hi : i < n) (hn : n ≤ 8000) : f_X2_get (nI i) (f, nI n) = f i := by
  have hq := has_eq (i := nI i) (f := f) hn
  have hz : ¬ f_X2_has (nI i) (f, nI n) = 0 := fun w => by
    rcases hq.mp w with q | q
    · exact nI_pos (by omega) q
    · exact nI_ge hi (by omega) q
  simp only [f_X2_get, ↓if_neg hz, nI_clamp (show i < 2 ^ 31 by omega)]
theorem tk_loop : ∀ (fu i v n t c B : Nat) (S : CGS) (M : MdS), i ≤ v → v ≤ n → v < i + fu → B + 8000 < 100000000 → tabOK M → RLn n S.1 M.2.2.2.1 M.2.2.2.2.1 → RSd t c S.2.1 M.2.2.2.2.2.1 M.2.2.2.2.2.2.1 M.2.2.2.2.2.2.2.1 M.2.2.2.2.2.2.2.2.1 → RRv (B + i) S.2.2 (rx M) → ∃ (S' : CGS) (M' : MdS), lp_X6_take_27 fu (nI v) (nI i) S = (nI v, S') ∧ lp_X7_take_32 fu (nI v) (nI i) M = (nI v, M') ∧ tabOK M' ∧ RLn (n - v) S'.1 M'.2.2.2.1 M'.2.2.2.2.1 ∧ RSd t c S'.2.1 M'.2.2.2.2.2.1 M'.2.2.2.2.2.2.1 M'.2.2.2.2.2.2.2.1 M'.2.2.2.2.2.2.2.2.1 ∧ RRv (B + v) S'.2.2 (rx M') := by
  intro fu
  induction fu with
  | zero => intro i v n t c B S M h1 h2 h3; omega
  | succ fu ih =>
    intro i v n t c B S M h1 h2 h3 hB hT hLn hSd hR
    have hok : mdOK M := (sim_ok (B + i + c) S M ⟨n, t, c, hT, hLn, hSd, by omega, hR.le (by omega)⟩).1
    have hn : n ≤ 8000 := hLn.1
    obtain ⟨⟨f, x⟩, ⟨s0, s1, s2, s3⟩, ⟨⟨r_0_0, r_0_1, r_0_2, r_0_3⟩, ⟨r_1_0, r_1_1, r_1_2, r_1_3, r_1_4, r_1_5, r_1_6, r_1_7, r_1_8⟩, r_2, r_3, r_4, r_5, r_6, r_7, r_8, r_9, r_10, r_11⟩⟩ := S
    have e1 : x = nI n := hLn.2.1
    subst e1
    by_cases c0 : i < v
    · have c1 : ¬ nI v ≤ nI i := nI_ge c0 (by omega)
      have eg := get_in (f := f) (show i < n by omega) hn
      have eb : f i = M.2.2.2.1 i := hLn.2.2.2.2.2 i (by omega)
      have hb : f i = 0 ∨ f i = 1 := hLn.2.2.2.1 i
      have hs := bit_sim hb (by omega) hT hR
      obtain ⟨hk1, hk2⟩ := tx_keep (b := f i) hok
      have k0 : tabOK (f_X7_takeBit (f i) M) := by
        have a0 : (f_X7_takeBit (f i) M).1 = M.1 := congrArg (fun u : TxS => u.1) hk2
        have a1 : (f_X7_takeBit (f i) M).2.1 = M.2.1 := congrArg (fun u : TxS => u.2.1) hk2
        have a2 : (f_X7_takeBit (f i) M).2.2.1 = M.2.2.1 := congrArg (fun u : TxS => u.2.2.1) hk2
        unfold tabOK
        rw [a0, a1, a2]
        exact hT
      have k1 : RLn n (f, nI n) (f_X7_takeBit (f i) M).2.2.2.1 (f_X7_takeBit (f i) M).2.2.2.2.1 := by
        have a0 : (f_X7_takeBit (f i) M).2.2.2.1 = M.2.2.2.1 := congrArg (fun u : TxS => u.2.2.2.1) hk2
        have a1 : (f_X7_takeBit (f i) M).2.2.2.2.1 = M.2.2.2.2.1 := congrArg (fun u : TxS => u.2.2.2.2.1) hk2
        rw [a0, a1]
        exact hLn
      have k2 : RSd t c (s0, s1, s2, s3) (f_X7_takeBit (f i) M).2.2.2.2.2.1 (f_X7_takeBit (f i) M).2.2.2.2.2.2.1 (f_X7_takeBit (f i) M).2.2.2.2.2.2.2.1 (f_X7_takeBit (f i) M).2.2.2.2.2.2.2.2.1 := by
        have a0 : (f_X7_takeBit (f i) M).2.2.2.2.2.1 = M.2.2.2.2.2.1 := congrArg (fun u : TxS => u.2.2.2.2.2.1) hk2
        have a1 : (f_X7_takeBit (f i) M).2.2.2.2.2.2.1 = M.2.2.2.2.2.2.1 := congrArg (fun u : TxS => u.2.2.2.2.2.2.1) hk2
        have a2 : (f_X7_takeBit (f i) M).2.2.2.2.2.2.2.1 = M.2.2.2.2.2.2.2.1 := congrArg (fun u : TxS => u.2.2.2.2.2.2.2.1) hk2
        have a3 : (f_X7_takeBit (f i) M).2.2.2.2.2.2.2.2.1 = M.2.2.2.2.2.2.2.2.1 := congrArg (fun u : TxS => u.2.2.2.2.2.2.2.2) hk2
        rw [a0, a1, a2, a3]
        exact hSd
      obtain ⟨S', M', q1, q2, q3⟩ := ih (i + 1) v n t c B ((f, nI n), (s0, s1, s2, s3), f_X3_accept (f i) ((r_0_0, r_0_1, r_0_2, r_0_3), (r_1_0, r_1_1, r_1_2, r_1_3, r_1_4, r_1_5, r_1_6, r_1_7, r_1_8), r_2, r_3, r_4, r_5, r_6, r_7, r_8, r_9, r_10, r_11)) (f_X7_takeBit (f i) M) (by omega) h2 (by omega) hB k0 k1 k2 hs
      refine ⟨S', M', ?_, ?_, q3⟩
      · simp only [lp_X6_take_27, ↓if_neg c1, eg, nI_1]
        exact q1
      · obtain ⟨m_0, m_1, m_2, m_3, m_4, m_5, m_6, m_7, m_8, m_9, m_10, m_11, m_12, m_13, m_14, m_15, m_16, m_17, m_18, m_19, m_20, m_21, m_22, m_23, m_24, m_25, m_26, m_27, m_28, m_29, m_30, m_31⟩ := M
        have eb : f i = m_3 i := eb
        have ec : m_3 (nI i).toNatClampNeg = f i := by rw [nI_clamp (by omega), eb]
        simp only [lp_X7_take_32, ↓if_neg c1, ec, nI_1]
        exact q2
    · have ei : i = v := by omega
      subst ei
      have c1 : nI i ≤ nI i := nI_le (Nat.le_refl _) (by omega)
      obtain ⟨m_0, m_1, m_2, m_3, m_4, m_5, m_6, m_7, m_8, m_9, m_10, m_11, m_12, m_13, m_14, m_15, m_16, m_17, m_18, m_19, m_20, m_21, m_22, m_23, m_24, m_25, m_26, m_27, m_28, m_29, m_30, m_31⟩ := M
      have e2 : m_4 = nI n := hLn.2.2.1
      subst e2
      have es : nI n - nI i = nI (n - i) := pk_sub h2
      obtain ⟨m3', p1, p2, p3, p4⟩ := tk_copy 8001 0 (n - i) i m_3 m_0 m_1 m_2 m_5 m_6 m_7 m_8 m_9 m_10 m_11 m_12 m_13 m_14 m_15 m_16 m_17 m_18 m_19 m_20 m_21 m_22 m_23 m_24 m_25 m_26 m_27 m_28 m_29 m_30 m_31 hLn.2.2.2.2.1 (by omega) (by omega) (by omega)
      refine ⟨(f_X2_cutFront (nI i) (f, nI n), (s0, s1, s2, s3), ((r_0_0, r_0_1, r_0_2, r_0_3), (r_1_0, r_1_1, r_1_2, r_1_3, r_1_4, r_1_5, r_1_6, r_1_7, r_1_8), r_2, r_3, r_4, r_5, r_6, r_7, r_8, r_9, r_10, r_11)), (m_0, m_1, m_2, m3', nI (n - i), m_5, m_6, m_7, m_8, m_9, m_10, m_11, m_12, m_13, m_14, m_15, m_16, m_17, m_18, m_19, m_20, m_21, m_22, m_23, m_24, m_25, m_26, m_27, m_28, m_29, m_30, m_31), ?_, ?_, hT, ?_, hSd, hR⟩
      · simp only [lp_X6_take_27, ↓if_pos c1]
      · simp only [lp_X7_take_32, ↓if_pos c1, es]
        exact p4
      · exact tk_cut hn h2 hLn.2.2.2.1 hLn.2.2.2.2.2 p1 (fun a ha => p3 a (by omega) ha)
theorem sim_take (p0 : Int32) (k : Nat) (S : CGS) (M : MdS) (hk : k < 512) (h : Rel k S M) : (f_X6_take p0 S).1 = (f_X7_take p0 M).1 ∧ Rel (k + 1) (f_X6_take p0 S).2 (f_X7_take p0 M).2 := by
  have hm := sim_mono _ _ _ h
  obtain ⟨⟨f, x⟩, ⟨s0, s1, s2, s3⟩, ⟨⟨r_0_0, r_0_1, r_0_2, r_0_3⟩, ⟨r_1_0, r_1_1, r_1_2, r_1_3, r_1_4, r_1_5, r_1_6, r_1_7, r_1_8⟩, r_2, r_3, r_4, r_5, r_6, r_7, r_8, r_9, r_10, r_11⟩⟩ := S
  obtain ⟨m_0, m_1, m_2, m_3, m_4, m_5, m_6, m_7, m_8, m_9, m_10, m_11, m_12, m_13, m_14, m_15, m_16, m_17, m_18, m_19, m_20, m_21, m_22, m_23, m_24, m_25, m_26, m_27, m_28, m_29, m_30, m_31⟩ := M
  obtain ⟨n, t, c, h1, h2, h3, h4, h5⟩ := h
  have e1 : x = nI n := h2.2.1
  have e2 : m_4 = nI n := h2.2.2.1
  have hn : n ≤ 8000 := h2.1
  subst e1
  subst e2
  by_cases c1 : p0 < 0
  · simp only [f_X6_take, f_X7_take, ↓if_pos c1]
    exact ⟨trivial, hm⟩
  · by_cases c2 : p0 ≤ 8000
    · obtain ⟨p, hp, e⟩ := nI_of2 (M := 8000) (n := 8000) rfl c1 c2
      subst e
      have key : ∀ v : Nat, v ≤ n → ∃ (S' : CGS) (M' : MdS), lp_X6_take_27 8001 (nI v) 0 ((f, nI n), (s0, s1, s2, s3), ((r_0_0, r_0_1, r_0_2, r_0_3), (r_1_0, r_1_1, r_1_2, r_1_3, r_1_4, r_1_5, r_1_6, r_1_7, r_1_8), r_2, r_3, r_4, r_5, r_6, r_7, r_8, r_9, r_10, r_11)) = (nI v, S') ∧ lp_X7_take_32 8001 (nI v) 0 (m_0, m_1, m_2, m_3, nI n, m_5, m_6, m_7, m_8, m_9, m_10, m_11, m_12, m_13, m_14, m_15, m_16, m_17, m_18, m_19, m_20, m_21, m_22, m_23, m_24, m_25, m_26, m_27, m_28, m_29, m_30, m_31) = (nI v, M') ∧ Rel (k + 1) S' M' := by
        intro v hv
        obtain ⟨S', M', q1, q2, q3, q4, q5, q6⟩ := tk_loop 8001 0 v n t c (8000 * k) ((f, nI n), (s0, s1, s2, s3), ((r_0_0, r_0_1, r_0_2, r_0_3), (r_1_0, r_1_1, r_1_2, r_1_3, r_1_4, r_1_5, r_1_6, r_1_7, r_1_8), r_2, r_3, r_4, r_5, r_6, r_7, r_8, r_9, r_10, r_11)) (m_0, m_1, m_2, m_3, nI n, m_5, m_6, m_7, m_8, m_9, m_10, m_11, m_12, m_13, m_14, m_15, m_16, m_17, m_18, m_19, m_20, m_21, m_22, m_23, m_24, m_25, m_26, m_27, m_28, m_29, m_30, m_31) (by omega) hv (by omega) (by omega) h1 h2 h3 h5
        exact ⟨S', M', q1, q2, n - v, t, c, q3, q4, q5, by omega, q6.le (by omega)⟩
      by_cases c3 : n < p
      · have d1 : nI n < nI p := nI_lt c3 (by omega)
        have d2 : nI n ≤ nI p := nI_le (by omega) (by omega)
        obtain ⟨S', M', q1, q2, q3⟩ := key n (Nat.le_refl _)
        simp only [f_X6_take, f_X7_take, ↓if_neg c1, ↓if_pos c2, letv, ↓if_pos d1, ↓if_pos d2, jn_X7_take_30, q1, q2]
        exact ⟨trivial, q3⟩
      · have d1 : ¬ nI n < nI p := nI_nlt (by omega) (by omega)
        obtain ⟨S', M', q1, q2, q3⟩ := key p (by omega)
        by_cases c4 : n = p
        · subst c4
          have d2 : nI n ≤ nI n := nI_le (by omega) (by omega)
          simp only [f_X6_take, f_X7_take, ↓if_neg c1, ↓if_pos c2, letv, ↓if_neg d1, ↓if_pos d2, jn_X7_take_30, q1, q2]
          exact ⟨trivial, q3⟩
        · have d2 : ¬ nI n ≤ nI p := nI_ge (by omega) (by omega)
          simp only [f_X6_take, f_X7_take, ↓if_neg c1, ↓if_pos c2, letv, ↓if_neg d1, ↓if_neg d2, jn_X7_take_30, q1, q2]
          exact ⟨trivial, q3⟩
    · simp only [f_X6_take, f_X7_take, ↓if_neg c1, ↓if_neg c2]
      exact ⟨trivial, hm⟩

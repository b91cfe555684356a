/-! the two lines -/
/-- n bits under way, the same on both sides -/
def RLn (n : Nat) (L : LnS) (m3 : Nat → Int32) (m4 : Int32) : Prop := n ≤ 8000 ∧ L.2 = nI n ∧ m4 = nI n ∧ (∀ j, L.1 j = 0 ∨ L.1 j = 1) ∧ (∀ j, m3 j = 0 ∨ m3 j = 1) ∧ ∀ j, j < n → L.1 j = m3 j
theorem bitb {b : Int32} (h : b = 0 ∨ b = 1) : vp_nar .byte (b.toInt8.toInt32) = b := by
  rcases h with rfl | rfl <;> rfl
theorem bitn {b : Int32} (h : b = 0 ∨ b = 1) : vp_nar .byte b = b := by
  rcases h with rfl | rfl <;> rfl
theorem upd_bits {f : Nat → Int32} {k : Nat} {b : Int32} (h : ∀ j, f j = 0 ∨ f j = 1) (hb : b = 0 ∨ b = 1) : ∀ j, upd f k b j = 0 ∨ upd f k b j = 1 := by
  intro j
  unfold upd
  split
  · exact hb
  · exact h j
theorem ln_app {n : Nat} {f m3 : Nat → Int32} {x m4 b : Int32} (h : RLn n (f, x) m3 m4) (hn : n < 8000) (hb : b = 0 ∨ b = 1) : f_X2_append b (f, x) = (1, (upd f n b, nI (n + 1))) ∧ RLn (n + 1) (upd f n b, nI (n + 1)) (upd m3 n b) (nI (n + 1)) := by
  obtain ⟨h1, h2, h3, h4, h5, h6⟩ := h
  have h2 : x = nI n := h2
  subst h2
  have c1 : ¬ nI n < 0 := nI_pos (by omega)
  have c2 : nI n < 8000 := nI_lt (b := 8000) hn (by decide)
  refine ⟨?_, by omega, rfl, rfl, upd_bits h4 hb, upd_bits h5 hb, ?_⟩
  · simp only [f_X2_append, ↓if_neg c1, ↓if_pos c2, bitb hb, nI_1, nI_clamp (show n < 2 ^ 31 by omega)]
  · intro j hj
    by_cases e : j = n
    · subst e
      show upd f j b j = upd m3 j b j
      rw [pk_us, pk_us]
    · show upd f n b j = upd m3 n b j
      rw [pk_un e, pk_un e]
      exact h6 j (by omega)
theorem and1 (x : Int32) : x &&& 1 = 0 ∨ x &&& 1 = 1 := by
  obtain ⟨j, hj, e⟩ := pk_andE x (m := 1) 1 (by decide)
  rcases (show j = 0 ∨ j = 1 by omega) with rfl | rfl
  · exact Or.inl e
  · exact Or.inr e
/-- the ten bits of a group, on both sides -/
theorem put_loop : ∀ (fu : Nat) (g k : Int32) (n : Nat) (s0 : Nat → Int32) (s1 s2 s3 : Int32) (f : Nat → Int32) (x : Int32) (m_0 : Nat → Int32) (m_1 : Nat → Int32) (m_2 : Nat → Int32) (m_3 : Nat → Int32) (m_4 : Int32) (m_5 : Nat → Int32) (m_6 : Int32) (m_7 : Int32) (m_8 : Int32) (m_9 : Int32) (m_10 : Int32) (m_11 : Int32) (m_12 : Int32) (m_13 : Int32) (m_14 : Int32) (m_15 : Int32) (m_16 : Int32) (m_17 : Int32) (m_18 : Int32) (m_19 : Int32) (m_20 : Nat → Int32) (m_21 : Int32) (m_22 : Int32) (m_23 : Int32) (m_24 : Int32) (m_25 : Nat → Int32) (m_26 : Int32) (m_27 : Nat → Int32) (m_28 : Nat → Int32) (m_29 : Nat → Int32) (m_30 : Int32) (m_31 : Int32), (-1 ≤ k.toInt ∧ k.toInt ≤ 9 ∧ k.toInt + 1 < (fu : Int) ∧ (n : Int) + k.toInt + 1 ≤ 8000) → RLn n (f, x) m_3 m_4 → ∃ (f' m3' : Nat → Int32), RLn (n + (k.toInt + 1).toNat) (f', nI (n + (k.toInt + 1).toNat)) m3' (nI (n + (k.toInt + 1).toNat)) ∧ lp_X4_put_15 fu g k (s0, s1, s2, s3) (f, x) = (g, (s0, s1, f_X0_behindGroup g s2, s3 + 1), (f', nI (n + (k.toInt + 1).toNat))) ∧ lp_X7_send_52 fu g k (m_0, m_1, m_2, m_3, m_4, m_5, m_6, m_7, m_8, m_9, m_10, m_11, m_12, m_13, m_14, m_15, m_16, m_17, m_18, m_19, m_20, m_21, m_22, m_23, m_24, m_25, m_26, m_27, m_28, m_29, m_30, m_31) = (g, (m_0, m_1, m_2, m3', nI (n + (k.toInt + 1).toNat), m_5, m_6, f_X7_behindGroup g m_7, m_8 + 1, m_9, m_10, m_11, m_12, m_13, m_14, m_15, m_16, m_17, m_18, m_19, m_20, m_21, m_22, m_23, m_24, m_25, m_26, m_27, m_28, m_29, m_30, m_31)) := by
  intro fu
  induction fu with
  | zero => intro g k n s0 s1 s2 s3 f x m_0 m_1 m_2 m_3 m_4 m_5 m_6 m_7 m_8 m_9 m_10 m_11 m_12 m_13 m_14 m_15 m_16 m_17 m_18 m_19 m_20 m_21 m_22 m_23 m_24 m_25 m_26 m_27 m_28 m_29 m_30 m_31 hm; omega
  | succ fu ih =>
    intro g k n s0 s1 s2 s3 f x m_0 m_1 m_2 m_3 m_4 m_5 m_6 m_7 m_8 m_9 m_10 m_11 m_12 m_13 m_14 m_15 m_16 m_17 m_18 m_19 m_20 m_21 m_22 m_23 m_24 m_25 m_26 m_27 m_28 m_29 m_30 m_31 hm h
    by_cases c : k < 0
    · have z0 : (0 : Int32).toInt = 0 := rfl
      have e := i_lt c
      have ek : (k.toInt + 1).toNat = 0 := by omega
      have h2 : x = nI n := h.2.1
      have h3 : m_4 = nI n := h.2.2.1
      subst h2
      subst h3
      refine ⟨f, m_3, ?_, ?_, ?_⟩
      · rw [ek]; exact h
      · rw [ek]; simp only [lp_X4_put_15, ↓if_pos c, Nat.add_zero]
      · rw [ek]; simp only [lp_X7_send_52, ↓if_pos c, Nat.add_zero]
    · have z0 : (0 : Int32).toInt = 0 := rfl
      have e := i_nlt c
      have q := i_dec k (by omega)
      have hb := and1 (g >>> (k &&& 31))
      obtain ⟨ha, hr⟩ := ln_app (b := (g >>> (k &&& 31)) &&& 1) h (by omega) hb
      have en : n + 1 + ((k + (-1)).toInt + 1).toNat = n + (k.toInt + 1).toNat := by omega
      obtain ⟨f', m3', hR, h4, h7⟩ := ih g (k + (-1)) (n + 1) s0 s1 s2 s3 _ _ m_0 m_1 m_2 _ _ m_5 m_6 m_7 m_8 m_9 m_10 m_11 m_12 m_13 m_14 m_15 m_16 m_17 m_18 m_19 m_20 m_21 m_22 m_23 m_24 m_25 m_26 m_27 m_28 m_29 m_30 m_31 (by omega) hr
      rw [en] at hR h4 h7
      refine ⟨f', m3', hR, ?_, ?_⟩
      · simp only [lp_X4_put_15, ↓if_neg c, ha]
        exact h4
      · have h3 : m_4 = nI n := h.2.2.1
        subst h3
        simp only [lp_X7_send_52, ↓if_neg c, bitb hb, nI_1, nI_clamp (show n < 2 ^ 31 by omega)]
        exact h7

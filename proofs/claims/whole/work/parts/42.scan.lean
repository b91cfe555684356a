theorem lpd_step (n : Nat) (g d v : Int32) (M : MdS) : lp_X7_decode_25 (n + 1) g d v M = (if (256 : Int32) ≤ v then (-1) else (if f_X7_groupOf v 0 d M = g then v else (if f_X7_isSign v = 0 then lp_X7_decode_25 n g d (v + 1) M else (if f_X7_groupOf v 1 d M = g then (256 + v) else lp_X7_decode_25 n g d (v + 1) M)))) := by
  obtain ⟨m_0, m_1, m_2, m_3, m_4, m_5, m_6, m_7, m_8, m_9, m_10, m_11, m_12, m_13, m_14, m_15, m_16, m_17, m_18, m_19, m_20, m_21, m_22, m_23, m_24, m_25, m_26, m_27, m_28, m_29, m_30, m_31⟩ := M
  simp only [lp_X7_decode_25]
/-- the first symbol with this group, from v on -/
def scan : List (Nat × Nat) → Nat → Nat → Int32
  | [], _, _ => -1
  | (a, b) :: t, v, g => if a = g then nI v else if b = g then 256 + nI v else scan t (v + 1) g

theorem kgM (v : Nat) (h : v < 256) : f_X7_groupOf (nI v) 0 (-1) mdC = nI (k_GM2.getD v (0, 0)).1 ∧ (f_X7_isSign (nI v) = 0 → (k_GM2.getD v (0, 0)).2 = 5000) ∧ (¬ f_X7_isSign (nI v) = 0 → f_X7_groupOf (nI v) 1 (-1) mdC = nI (k_GM2.getD v (0, 0)).2) ∧ (k_GM2.getD v (0, 0)).1 < 5001 ∧ (k_GM2.getD v (0, 0)).2 < 5001 := by
  have key : ∀ (a : Nat) (H : (List.range 64).all (fun q => decide (f_X7_groupOf (nI (q + a)) 0 (-1) mdC = nI (k_GM2.getD (q + a) (0, 0)).1) && (if f_X7_isSign (nI (q + a)) = 0 then decide ((k_GM2.getD (q + a) (0, 0)).2 = 5000) else decide (f_X7_groupOf (nI (q + a)) 1 (-1) mdC = nI (k_GM2.getD (q + a) (0, 0)).2)) && decide ((k_GM2.getD (q + a) (0, 0)).1 < 5001 ∧ (k_GM2.getD (q + a) (0, 0)).2 < 5001)) = true), a ≤ v → v < a + 64 → f_X7_groupOf (nI v) 0 (-1) mdC = nI (k_GM2.getD v (0, 0)).1 ∧ (f_X7_isSign (nI v) = 0 → (k_GM2.getD v (0, 0)).2 = 5000) ∧ (¬ f_X7_isSign (nI v) = 0 → f_X7_groupOf (nI v) 1 (-1) mdC = nI (k_GM2.getD v (0, 0)).2) ∧ (k_GM2.getD v (0, 0)).1 < 5001 ∧ (k_GM2.getD v (0, 0)).2 < 5001 := by
    intro a H h1 h2
    have q := List.all_eq_true.mp H (v - a) (List.mem_range.mpr (by omega))
    have e : v - a + a = v := by omega
    rw [e] at q
    simp only [Bool.and_eq_true, decide_eq_true_eq] at q
    refine ⟨q.1.1, fun c => ?_, fun c => ?_, q.2⟩
    · have w := q.1.2
      rw [if_pos c] at w
      exact of_decide_eq_true w
    · have w := q.1.2
      rw [if_neg c] at w
      exact of_decide_eq_true w
  by_cases h0 : v < 64
  · exact key 0 kgM_0 (by omega) (by omega)
  by_cases h1 : v < 128
  · exact key 64 kgM_1 (by omega) (by omega)
  by_cases h2 : v < 192
  · exact key 128 kgM_2 (by omega) (by omega)
  · exact key 192 kgM_3 (by omega) (by omega)

theorem lenM : k_GM2.length = 256 := by decide +kernel
theorem scM : ∀ (n v g : Nat), v + n = 257 → 0 < n → g < 1024 → lp_X7_decode_25 n (nI g) (-1) (nI v) mdC = scan (k_GM2.drop v) v g := by
  intro n
  induction n with
  | zero => intro v g h1 h2; omega
  | succ n ih =>
    intro v g h1 h2 hg
    have z : (256 : Int32) = nI 256 := rfl
    by_cases hv : v = 256
    · subst hv
      have c : (256 : Int32) ≤ nI 256 := nI_le (Nat.le_refl _) (by decide)
      rw [List.drop_eq_nil_of_le (by rw [lenM]; exact Nat.le_refl _), lpd_step, if_pos c]
      rfl
    · have hlt : v < 256 := by omega
      have c : ¬ (256 : Int32) ≤ nI v := by rw [z]; exact nI_ge hlt (by decide)
      have hl : v < k_GM2.length := by rw [lenM]; exact hlt
      obtain ⟨k0, k1, k2, k3, k4⟩ := kgM v hlt
      have eg : k_GM2.getD v (0, 0) = k_GM2[v] := by rw [List.getD_eq_getElem?_getD, List.getElem?_eq_getElem hl]; rfl
      rw [eg] at k0 k1 k2 k3 k4
      rw [List.drop_eq_getElem_cons hl]
      have hs : nI v + 1 = nI (v + 1) := nI_1 v
      have hih := ih (v + 1) g (by omega) (by omega) hg
      generalize k_GM2[v] = ab at k0 k1 k2 k3 k4 ⊢
      obtain ⟨a, b⟩ := ab
      simp only at k0 k1 k2 k3 k4
      simp only [scan]
      by_cases ca : a = g
      · rw [if_pos ca]
        have e1 : f_X7_groupOf (nI v) 0 (-1) mdC = nI g := by rw [k0, ca]
        rw [lpd_step, if_neg c, if_pos e1]
      · rw [if_neg ca]
        have e1 : ¬ f_X7_groupOf (nI v) 0 (-1) mdC = nI g := by
          rw [k0]
          exact fun q => ca ((nI_eq (by omega) (by omega)).mp q)
        by_cases cs : f_X7_isSign (nI v) = 0
        · have e2 : ¬ b = g := by rw [k1 cs]; omega
          rw [if_neg e2, ← hih, ← hs]
          rw [lpd_step, if_neg c, if_neg e1, if_pos cs]
        · have kk := k2 cs
          by_cases cb : b = g
          · rw [if_pos cb]
            have e2 : f_X7_groupOf (nI v) 1 (-1) mdC = nI g := by rw [kk, cb]
            rw [lpd_step, if_neg c, if_neg e1, if_neg cs, if_pos e2]
          · rw [if_neg cb, ← hih, ← hs]
            have e2 : ¬ f_X7_groupOf (nI v) 1 (-1) mdC = nI g := by
              rw [kk]
              exact fun q => cb ((nI_eq (by omega) (by omega)).mp q)
            rw [lpd_step, if_neg c, if_neg e1, if_neg cs, if_neg e2]

theorem kgP (v : Nat) (h : v < 256) : f_X7_groupOf (nI v) 0 1 mdC = nI (k_GP2.getD v (0, 0)).1 ∧ (f_X7_isSign (nI v) = 0 → (k_GP2.getD v (0, 0)).2 = 5000) ∧ (¬ f_X7_isSign (nI v) = 0 → f_X7_groupOf (nI v) 1 1 mdC = nI (k_GP2.getD v (0, 0)).2) ∧ (k_GP2.getD v (0, 0)).1 < 5001 ∧ (k_GP2.getD v (0, 0)).2 < 5001 := by
  have key : ∀ (a : Nat) (H : (List.range 64).all (fun q => decide (f_X7_groupOf (nI (q + a)) 0 1 mdC = nI (k_GP2.getD (q + a) (0, 0)).1) && (if f_X7_isSign (nI (q + a)) = 0 then decide ((k_GP2.getD (q + a) (0, 0)).2 = 5000) else decide (f_X7_groupOf (nI (q + a)) 1 1 mdC = nI (k_GP2.getD (q + a) (0, 0)).2)) && decide ((k_GP2.getD (q + a) (0, 0)).1 < 5001 ∧ (k_GP2.getD (q + a) (0, 0)).2 < 5001)) = true), a ≤ v → v < a + 64 → f_X7_groupOf (nI v) 0 1 mdC = nI (k_GP2.getD v (0, 0)).1 ∧ (f_X7_isSign (nI v) = 0 → (k_GP2.getD v (0, 0)).2 = 5000) ∧ (¬ f_X7_isSign (nI v) = 0 → f_X7_groupOf (nI v) 1 1 mdC = nI (k_GP2.getD v (0, 0)).2) ∧ (k_GP2.getD v (0, 0)).1 < 5001 ∧ (k_GP2.getD v (0, 0)).2 < 5001 := by
    intro a H h1 h2
    have q := List.all_eq_true.mp H (v - a) (List.mem_range.mpr (by omega))
    have e : v - a + a = v := by omega
    rw [e] at q
    simp only [Bool.and_eq_true, decide_eq_true_eq] at q
    refine ⟨q.1.1, fun c => ?_, fun c => ?_, q.2⟩
    · have w := q.1.2
      rw [if_pos c] at w
      exact of_decide_eq_true w
    · have w := q.1.2
      rw [if_neg c] at w
      exact of_decide_eq_true w
  by_cases h0 : v < 64
  · exact key 0 kgP_0 (by omega) (by omega)
  by_cases h1 : v < 128
  · exact key 64 kgP_1 (by omega) (by omega)
  by_cases h2 : v < 192
  · exact key 128 kgP_2 (by omega) (by omega)
  · exact key 192 kgP_3 (by omega) (by omega)

theorem lenP : k_GP2.length = 256 := by decide +kernel
theorem scP : ∀ (n v g : Nat), v + n = 257 → 0 < n → g < 1024 → lp_X7_decode_25 n (nI g) 1 (nI v) mdC = scan (k_GP2.drop v) v g := by
  intro n
  induction n with
  | zero => intro v g h1 h2; omega
  | succ n ih =>
    intro v g h1 h2 hg
    have z : (256 : Int32) = nI 256 := rfl
    by_cases hv : v = 256
    · subst hv
      have c : (256 : Int32) ≤ nI 256 := nI_le (Nat.le_refl _) (by decide)
      rw [List.drop_eq_nil_of_le (by rw [lenP]; exact Nat.le_refl _), lpd_step, if_pos c]
      rfl
    · have hlt : v < 256 := by omega
      have c : ¬ (256 : Int32) ≤ nI v := by rw [z]; exact nI_ge hlt (by decide)
      have hl : v < k_GP2.length := by rw [lenP]; exact hlt
      obtain ⟨k0, k1, k2, k3, k4⟩ := kgP v hlt
      have eg : k_GP2.getD v (0, 0) = k_GP2[v] := by rw [List.getD_eq_getElem?_getD, List.getElem?_eq_getElem hl]; rfl
      rw [eg] at k0 k1 k2 k3 k4
      rw [List.drop_eq_getElem_cons hl]
      have hs : nI v + 1 = nI (v + 1) := nI_1 v
      have hih := ih (v + 1) g (by omega) (by omega) hg
      generalize k_GP2[v] = ab at k0 k1 k2 k3 k4 ⊢
      obtain ⟨a, b⟩ := ab
      simp only at k0 k1 k2 k3 k4
      simp only [scan]
      by_cases ca : a = g
      · rw [if_pos ca]
        have e1 : f_X7_groupOf (nI v) 0 1 mdC = nI g := by rw [k0, ca]
        rw [lpd_step, if_neg c, if_pos e1]
      · rw [if_neg ca]
        have e1 : ¬ f_X7_groupOf (nI v) 0 1 mdC = nI g := by
          rw [k0]
          exact fun q => ca ((nI_eq (by omega) (by omega)).mp q)
        by_cases cs : f_X7_isSign (nI v) = 0
        · have e2 : ¬ b = g := by rw [k1 cs]; omega
          rw [if_neg e2, ← hih, ← hs]
          rw [lpd_step, if_neg c, if_neg e1, if_pos cs]
        · have kk := k2 cs
          by_cases cb : b = g
          · rw [if_pos cb]
            have e2 : f_X7_groupOf (nI v) 1 1 mdC = nI g := by rw [kk, cb]
            rw [lpd_step, if_neg c, if_neg e1, if_neg cs, if_pos e2]
          · rw [if_neg cb, ← hih, ← hs]
            have e2 : ¬ f_X7_groupOf (nI v) 1 1 mdC = nI g := by
              rw [kk]
              exact fun q => cb ((nI_eq (by omega) (by omega)).mp q)
            rw [lpd_step, if_neg c, if_neg e1, if_neg cs, if_neg e2]


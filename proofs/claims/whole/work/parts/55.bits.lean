theorem keep_sim {k : Nat} {v : Int32} {g0 : Nat → Int32} {g1 g2 g3 m19 : Int32} {m20 g : Nat → Int32} (h : RLg k g0 g1 g2 g3 m19 m20) (hk : k < 100000000) (hg : ∀ j, j < 99 → g j = m20 (j + 1)) (hg9 : g 99 = if v = (-1) then 512 else v) : ∃ (e0 : Nat → Int32) (e1 e2 e3 : Int32), f_X5_keep v (g0, g1, g2, g3) = (e0, e1, e2, e3) ∧ RLg (k + 1) e0 e1 e2 e3 (m19 + 1) g := by
  obtain ⟨q, q1, q2, q3, q4, q5, q6⟩ := h
  subst q2
  subst q3
  subst q4
  subst q5
  have c1 : ¬ nI (q % 100) < 0 := fun w => by have a := i_lt w; have z : (0 : Int32).toInt = 0 := rfl; rw [nI_toInt (by omega)] at a; omega
  have c2 : nI (q % 100) < 100 := by
    rw [Int32.lt_iff_toInt_lt, nI_toInt (by omega)]
    show ((q % 100 : Nat) : Int) < 100
    omega
  have e1 : nI (q % 100) + 1 - (nI (q % 100) + 1) / 100 * 100 = nI ((q + 1) % 100) := by
    rw [nI_1, show (100 : Int32) = nI 100 from rfl, pk_rem (by omega) (by decide) (by decide)]
    congr 1
    omega
  have e2 : (if 100 < nI (min q 100) + 1 then 100 else nI (min q 100) + 1) = nI (min (q + 1) 100) := by
    by_cases c : q < 100
    · rw [show min q 100 = q by omega, show min (q + 1) 100 = q + 1 by omega, nI_1]
      have c3 : ¬ 100 < nI (q + 1) := fun w => by have a := i_lt w; have z : (100 : Int32).toInt = 100 := rfl; rw [nI_toInt (by omega)] at a; omega
      rw [if_neg c3]
    · rw [show min q 100 = 100 by omega, show min (q + 1) 100 = 100 by omega]
      rfl
  have e3 : (nI (q % 100)).toNatClampNeg = q % 100 := nI_clamp (by omega)
  have e4 : nI q + 1 = nI (q + 1) := nI_1 q
  refine ⟨upd g0 (q % 100) (if v = (-1) then 512 else v), nI ((q + 1) % 100), nI (min (q + 1) 100), nI (q + 1), ?_, ?_⟩
  · by_cases cv : v = (-1)
    · simp only [f_X5_keep, ↓if_neg c1, ↓if_pos c2, ↓if_pos cv, e1, e2, e3, e4]
    · simp only [f_X5_keep, ↓if_neg c1, ↓if_pos c2, ↓if_neg cv, e1, e2, e3, e4]
  · refine ⟨q + 1, by omega, rfl, by rw [nI_1], rfl, rfl, ?_⟩
    intro j hj
    by_cases cj : j = 0
    · subst cj
      rw [show (q + 1 - 1 - 0) % 100 = q % 100 by omega, pk_us]
      exact hg9.symm
    · rw [pk_un (by omega), hg (99 - j) (by omega), show (q + 1 - 1 - j) % 100 = (q - 1 - (j - 1)) % 100 by omega, q6 (j - 1) (by omega), show 99 - (j - 1) = 99 - j + 1 by omega]
theorem shl8 (x : Int32) : ∀ a : Nat, a < 4 → x <<< (nI (8 * a) &&& 31) = ⟨⟨x.toBitVec <<< (8 * a)⟩⟩
  | 0, _ => rfl
  | 1, _ => rfl
  | 2, _ => rfl
  | 3, _ => rfl
  | n + 4, h => by omega
theorem shr8 (x : Int32) : ∀ a : Nat, a < 4 → x >>> (nI (8 * a) &&& 31) = ⟨⟨x.toBitVec.sshiftRight (8 * a)⟩⟩
  | 0, _ => rfl
  | 1, _ => rfl
  | 2, _ => rfl
  | 3, _ => rfl
  | n + 4, h => by omega
theorem l255 : ∀ i : Nat, i < 32 → (255#32 : BitVec 32).getLsbD i = decide (i < 8) := by
  have h : ∀ i : Fin 32, (255#32 : BitVec 32).getLsbD i.val = decide (i.val < 8) := by decide
  exact fun i hi => h ⟨i, hi⟩
theorem lall : ∀ i : Nat, i < 32 → (4294967295#32 : BitVec 32).getLsbD i = true := by
  have h : ∀ i : Fin 32, (4294967295#32 : BitVec 32).getLsbD i.val = true := by decide
  exact fun i hi => h ⟨i, hi⟩
theorem byte_bits (w b : BitVec 32) (a c : Nat) (ha : a < 4) (hc : c < 4) : (((w &&& ((255#32 <<< (8 * a)) ^^^ 4294967295#32)) ||| ((b &&& 255#32) <<< (8 * a))).sshiftRight (8 * c)) &&& 255#32 = if a = c then b &&& 255#32 else (w.sshiftRight (8 * c)) &&& 255#32 := by
  apply BitVec.eq_of_getLsbD_eq
  intro i hi
  have hs : ∀ y : BitVec 32, i < 8 → (y.sshiftRight (8 * c)).getLsbD i = y.getLsbD (8 * c + i) := by
    intro y h8
    rw [BitVec.getLsbD_sshiftRight]
    simp [show ¬ 32 ≤ i by omega, show 8 * c + i < 32 by omega]
  by_cases h8 : i < 8
  · have h32 : 8 * c + i < 32 := by omega
    rw [BitVec.getLsbD_and, hs _ h8, BitVec.getLsbD_or, BitVec.getLsbD_and, BitVec.getLsbD_xor, lall _ h32, BitVec.getLsbD_shiftLeft, BitVec.getLsbD_shiftLeft]
    by_cases ac : a = c
    · subst ac
      rw [if_pos rfl, BitVec.getLsbD_and, show 8 * a + i - 8 * a = i by omega, BitVec.getLsbD_and, l255 i hi]
      simp [h8, h32, show ¬ 8 * a + i < 8 * a by omega]
    · have hs' : ∀ y : BitVec 32, (y.sshiftRight (8 * c)).getLsbD i = y.getLsbD (8 * c + i) := fun y => hs y h8
      rw [if_neg ac]
      simp only [BitVec.getLsbD_and, hs']
      by_cases lt : 8 * c + i < 8 * a
      · simp [lt]
      · rw [l255 (8 * c + i - 8 * a) (by omega)]
        simp [show ¬ 8 * c + i - 8 * a < 8 by omega]
  · have hz : (255#32 : BitVec 32).getLsbD i = false := by rw [l255 i hi]; simp [h8]
    rw [BitVec.getLsbD_and, hz]
    split
    · rw [BitVec.getLsbD_and, hz, Bool.and_false, Bool.and_false]
    · rw [BitVec.getLsbD_and, hz, Bool.and_false, Bool.and_false]
theorem byte_upd (w b : Int32) (a c : Nat) (ha : a < 4) (hc : c < 4) : (((w &&& (((255 : Int32) <<< (nI (8 * a) &&& 31)) ^^^ (-1))) ||| ((b &&& 255) <<< (nI (8 * a) &&& 31))) >>> (nI (8 * c) &&& 31)) &&& 255 = if a = c then b &&& 255 else (w >>> (nI (8 * c) &&& 31)) &&& 255 := by
  rw [shl8 _ a ha, shl8 _ a ha, shr8 _ c hc, shr8 _ c hc]
  have h := byte_bits w.toBitVec b.toBitVec a c ha hc
  by_cases ac : a = c
  · rw [if_pos ac] at h ⊢
    exact congrArg Int32.ofBitVec h
  · rw [if_neg ac] at h ⊢
    exact congrArg Int32.ofBitVec h

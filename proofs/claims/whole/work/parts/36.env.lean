set_option maxHeartbeats 4000000 in
set_option maxRecDepth 100000 in
theorem tbE_SIX_MINUS {b : Nat} {s : State} {A : Nat → Prop} (hts : ∀ w ∈ lw_tbl, w.before #[Value.ref b] s = true) (hgv : (Jvm.Cond.and given_1 narrow_1).before #[Value.ref b] s = true) (hA : ∀ a : Nat, a < s.heap.size → ¬ A a) : tb_one "SIX_MINUS" k_SM A s s.heap := by
  have hs := flat_of_before _ hgv
  obtain ⟨t, h1, h2⟩ := va_Tof (tm := (.static "CodedGroups$Code" "SIX_MINUS" "[I")) (ty := .int) (N := 32) (f := fun j => .int (k_SM.getD j 0)) (A := A) (by decide) (hs (.arrayOf (.static "CodedGroups$Code" "SIX_MINUS" "[I") .int) (by decide +kernel)) (va_eqt (hs (.eq (.length (.static "CodedGroups$Code" "SIX_MINUS" "[I")) (.int 32)) (by decide +kernel))) (fun j hj => by
    rcases (show j = 0 ∨ j = 1 ∨ j = 2 ∨ j = 3 ∨ j = 4 ∨ j = 5 ∨ j = 6 ∨ j = 7 ∨ j = 8 ∨ j = 9 ∨ j = 10 ∨ j = 11 ∨ j = 12 ∨ j = 13 ∨ j = 14 ∨ j = 15 ∨ j = 16 ∨ j = 17 ∨ j = 18 ∨ j = 19 ∨ j = 20 ∨ j = 21 ∨ j = 22 ∨ j = 23 ∨ j = 24 ∨ j = 25 ∨ j = 26 ∨ j = 27 ∨ j = 28 ∨ j = 29 ∨ j = 30 ∨ j = 31 by omega) with rfl | rfl | rfl | rfl | rfl | rfl | rfl | rfl | rfl | rfl | rfl | rfl | rfl | rfl | rfl | rfl | rfl | rfl | rfl | rfl | rfl | rfl | rfl | rfl | rfl | rfl | rfl | rfl | rfl | rfl | rfl | rfl
    · exact va_eqt (hs (.eq (.elem (.static "CodedGroups$Code" "SIX_MINUS" "[I") (.int 0)) (.int 39)) (by decide +kernel))
    · exact va_eqt (hs (.eq (.elem (.static "CodedGroups$Code" "SIX_MINUS" "[I") (.int 1)) (.int 29)) (by decide +kernel))
    · exact va_eqt (hs (.eq (.elem (.static "CodedGroups$Code" "SIX_MINUS" "[I") (.int 2)) (.int 45)) (by decide +kernel))
    · exact va_eqt (hs (.eq (.elem (.static "CodedGroups$Code" "SIX_MINUS" "[I") (.int 3)) (.int 49)) (by decide +kernel))
    · exact va_eqt (hs (.eq (.elem (.static "CodedGroups$Code" "SIX_MINUS" "[I") (.int 4)) (.int 53)) (by decide +kernel))
    · exact va_eqt (hs (.eq (.elem (.static "CodedGroups$Code" "SIX_MINUS" "[I") (.int 5)) (.int 41)) (by decide +kernel))
    · exact va_eqt (hs (.eq (.elem (.static "CodedGroups$Code" "SIX_MINUS" "[I") (.int 6)) (.int 25)) (by decide +kernel))
    · exact va_eqt (hs (.eq (.elem (.static "CodedGroups$Code" "SIX_MINUS" "[I") (.int 7)) (.int 56)) (by decide +kernel))
    · exact va_eqt (hs (.eq (.elem (.static "CodedGroups$Code" "SIX_MINUS" "[I") (.int 8)) (.int 57)) (by decide +kernel))
    · exact va_eqt (hs (.eq (.elem (.static "CodedGroups$Code" "SIX_MINUS" "[I") (.int 9)) (.int 37)) (by decide +kernel))
    · exact va_eqt (hs (.eq (.elem (.static "CodedGroups$Code" "SIX_MINUS" "[I") (.int 10)) (.int 21)) (by decide +kernel))
    · exact va_eqt (hs (.eq (.elem (.static "CodedGroups$Code" "SIX_MINUS" "[I") (.int 11)) (.int 52)) (by decide +kernel))
    · exact va_eqt (hs (.eq (.elem (.static "CodedGroups$Code" "SIX_MINUS" "[I") (.int 12)) (.int 13)) (by decide +kernel))
    · exact va_eqt (hs (.eq (.elem (.static "CodedGroups$Code" "SIX_MINUS" "[I") (.int 13)) (.int 44)) (by decide +kernel))
    · exact va_eqt (hs (.eq (.elem (.static "CodedGroups$Code" "SIX_MINUS" "[I") (.int 14)) (.int 28)) (by decide +kernel))
    · exact va_eqt (hs (.eq (.elem (.static "CodedGroups$Code" "SIX_MINUS" "[I") (.int 15)) (.int 23)) (by decide +kernel))
    · exact va_eqt (hs (.eq (.elem (.static "CodedGroups$Code" "SIX_MINUS" "[I") (.int 16)) (.int 27)) (by decide +kernel))
    · exact va_eqt (hs (.eq (.elem (.static "CodedGroups$Code" "SIX_MINUS" "[I") (.int 17)) (.int 35)) (by decide +kernel))
    · exact va_eqt (hs (.eq (.elem (.static "CodedGroups$Code" "SIX_MINUS" "[I") (.int 18)) (.int 19)) (by decide +kernel))
    · exact va_eqt (hs (.eq (.elem (.static "CodedGroups$Code" "SIX_MINUS" "[I") (.int 19)) (.int 50)) (by decide +kernel))
    · exact va_eqt (hs (.eq (.elem (.static "CodedGroups$Code" "SIX_MINUS" "[I") (.int 20)) (.int 11)) (by decide +kernel))
    · exact va_eqt (hs (.eq (.elem (.static "CodedGroups$Code" "SIX_MINUS" "[I") (.int 21)) (.int 42)) (by decide +kernel))
    · exact va_eqt (hs (.eq (.elem (.static "CodedGroups$Code" "SIX_MINUS" "[I") (.int 22)) (.int 26)) (by decide +kernel))
    · exact va_eqt (hs (.eq (.elem (.static "CodedGroups$Code" "SIX_MINUS" "[I") (.int 23)) (.int 58)) (by decide +kernel))
    · exact va_eqt (hs (.eq (.elem (.static "CodedGroups$Code" "SIX_MINUS" "[I") (.int 24)) (.int 51)) (by decide +kernel))
    · exact va_eqt (hs (.eq (.elem (.static "CodedGroups$Code" "SIX_MINUS" "[I") (.int 25)) (.int 38)) (by decide +kernel))
    · exact va_eqt (hs (.eq (.elem (.static "CodedGroups$Code" "SIX_MINUS" "[I") (.int 26)) (.int 22)) (by decide +kernel))
    · exact va_eqt (hs (.eq (.elem (.static "CodedGroups$Code" "SIX_MINUS" "[I") (.int 27)) (.int 54)) (by decide +kernel))
    · exact va_eqt (hs (.eq (.elem (.static "CodedGroups$Code" "SIX_MINUS" "[I") (.int 28)) (.int 14)) (by decide +kernel))
    · exact va_eqt (hs (.eq (.elem (.static "CodedGroups$Code" "SIX_MINUS" "[I") (.int 29)) (.int 46)) (by decide +kernel))
    · exact va_eqt (hs (.eq (.elem (.static "CodedGroups$Code" "SIX_MINUS" "[I") (.int 30)) (.int 30)) (by decide +kernel))
    · exact va_eqt (hs (.eq (.elem (.static "CodedGroups$Code" "SIX_MINUS" "[I") (.int 31)) (.int 43)) (by decide +kernel))) hA
  exact ⟨t, va_Zref (hts (.laysStatic "CodedGroups$Code" "SIX_MINUS" "[I") (by decide +kernel)) (hts (.initialized "CodedGroups$Code") (by decide +kernel)) h1 hA, h2⟩
set_option maxHeartbeats 4000000 in
set_option maxRecDepth 100000 in
theorem tbE_SIX_PLUS {b : Nat} {s : State} {A : Nat → Prop} (hts : ∀ w ∈ lw_tbl, w.before #[Value.ref b] s = true) (hgv : (Jvm.Cond.and given_1 narrow_1).before #[Value.ref b] s = true) (hA : ∀ a : Nat, a < s.heap.size → ¬ A a) : tb_one "SIX_PLUS" k_SP A s s.heap := by
  have hs := flat_of_before _ hgv
  obtain ⟨t, h1, h2⟩ := va_Tof (tm := (.static "CodedGroups$Code" "SIX_PLUS" "[I")) (ty := .int) (N := 32) (f := fun j => .int (k_SP.getD j 0)) (A := A) (by decide) (hs (.arrayOf (.static "CodedGroups$Code" "SIX_PLUS" "[I") .int) (by decide +kernel)) (va_eqt (hs (.eq (.length (.static "CodedGroups$Code" "SIX_PLUS" "[I")) (.int 32)) (by decide +kernel))) (fun j hj => by
    rcases (show j = 0 ∨ j = 1 ∨ j = 2 ∨ j = 3 ∨ j = 4 ∨ j = 5 ∨ j = 6 ∨ j = 7 ∨ j = 8 ∨ j = 9 ∨ j = 10 ∨ j = 11 ∨ j = 12 ∨ j = 13 ∨ j = 14 ∨ j = 15 ∨ j = 16 ∨ j = 17 ∨ j = 18 ∨ j = 19 ∨ j = 20 ∨ j = 21 ∨ j = 22 ∨ j = 23 ∨ j = 24 ∨ j = 25 ∨ j = 26 ∨ j = 27 ∨ j = 28 ∨ j = 29 ∨ j = 30 ∨ j = 31 by omega) with rfl | rfl | rfl | rfl | rfl | rfl | rfl | rfl | rfl | rfl | rfl | rfl | rfl | rfl | rfl | rfl | rfl | rfl | rfl | rfl | rfl | rfl | rfl | rfl | rfl | rfl | rfl | rfl | rfl | rfl | rfl | rfl
    · exact va_eqt (hs (.eq (.elem (.static "CodedGroups$Code" "SIX_PLUS" "[I") (.int 0)) (.int 24)) (by decide +kernel))
    · exact va_eqt (hs (.eq (.elem (.static "CodedGroups$Code" "SIX_PLUS" "[I") (.int 1)) (.int 34)) (by decide +kernel))
    · exact va_eqt (hs (.eq (.elem (.static "CodedGroups$Code" "SIX_PLUS" "[I") (.int 2)) (.int 18)) (by decide +kernel))
    · exact va_eqt (hs (.eq (.elem (.static "CodedGroups$Code" "SIX_PLUS" "[I") (.int 3)) (.int 49)) (by decide +kernel))
    · exact va_eqt (hs (.eq (.elem (.static "CodedGroups$Code" "SIX_PLUS" "[I") (.int 4)) (.int 10)) (by decide +kernel))
    · exact va_eqt (hs (.eq (.elem (.static "CodedGroups$Code" "SIX_PLUS" "[I") (.int 5)) (.int 41)) (by decide +kernel))
    · exact va_eqt (hs (.eq (.elem (.static "CodedGroups$Code" "SIX_PLUS" "[I") (.int 6)) (.int 25)) (by decide +kernel))
    · exact va_eqt (hs (.eq (.elem (.static "CodedGroups$Code" "SIX_PLUS" "[I") (.int 7)) (.int 7)) (by decide +kernel))
    · exact va_eqt (hs (.eq (.elem (.static "CodedGroups$Code" "SIX_PLUS" "[I") (.int 8)) (.int 6)) (by decide +kernel))
    · exact va_eqt (hs (.eq (.elem (.static "CodedGroups$Code" "SIX_PLUS" "[I") (.int 9)) (.int 37)) (by decide +kernel))
    · exact va_eqt (hs (.eq (.elem (.static "CodedGroups$Code" "SIX_PLUS" "[I") (.int 10)) (.int 21)) (by decide +kernel))
    · exact va_eqt (hs (.eq (.elem (.static "CodedGroups$Code" "SIX_PLUS" "[I") (.int 11)) (.int 52)) (by decide +kernel))
    · exact va_eqt (hs (.eq (.elem (.static "CodedGroups$Code" "SIX_PLUS" "[I") (.int 12)) (.int 13)) (by decide +kernel))
    · exact va_eqt (hs (.eq (.elem (.static "CodedGroups$Code" "SIX_PLUS" "[I") (.int 13)) (.int 44)) (by decide +kernel))
    · exact va_eqt (hs (.eq (.elem (.static "CodedGroups$Code" "SIX_PLUS" "[I") (.int 14)) (.int 28)) (by decide +kernel))
    · exact va_eqt (hs (.eq (.elem (.static "CodedGroups$Code" "SIX_PLUS" "[I") (.int 15)) (.int 40)) (by decide +kernel))
    · exact va_eqt (hs (.eq (.elem (.static "CodedGroups$Code" "SIX_PLUS" "[I") (.int 16)) (.int 36)) (by decide +kernel))
    · exact va_eqt (hs (.eq (.elem (.static "CodedGroups$Code" "SIX_PLUS" "[I") (.int 17)) (.int 35)) (by decide +kernel))
    · exact va_eqt (hs (.eq (.elem (.static "CodedGroups$Code" "SIX_PLUS" "[I") (.int 18)) (.int 19)) (by decide +kernel))
    · exact va_eqt (hs (.eq (.elem (.static "CodedGroups$Code" "SIX_PLUS" "[I") (.int 19)) (.int 50)) (by decide +kernel))
    · exact va_eqt (hs (.eq (.elem (.static "CodedGroups$Code" "SIX_PLUS" "[I") (.int 20)) (.int 11)) (by decide +kernel))
    · exact va_eqt (hs (.eq (.elem (.static "CodedGroups$Code" "SIX_PLUS" "[I") (.int 21)) (.int 42)) (by decide +kernel))
    · exact va_eqt (hs (.eq (.elem (.static "CodedGroups$Code" "SIX_PLUS" "[I") (.int 22)) (.int 26)) (by decide +kernel))
    · exact va_eqt (hs (.eq (.elem (.static "CodedGroups$Code" "SIX_PLUS" "[I") (.int 23)) (.int 5)) (by decide +kernel))
    · exact va_eqt (hs (.eq (.elem (.static "CodedGroups$Code" "SIX_PLUS" "[I") (.int 24)) (.int 12)) (by decide +kernel))
    · exact va_eqt (hs (.eq (.elem (.static "CodedGroups$Code" "SIX_PLUS" "[I") (.int 25)) (.int 38)) (by decide +kernel))
    · exact va_eqt (hs (.eq (.elem (.static "CodedGroups$Code" "SIX_PLUS" "[I") (.int 26)) (.int 22)) (by decide +kernel))
    · exact va_eqt (hs (.eq (.elem (.static "CodedGroups$Code" "SIX_PLUS" "[I") (.int 27)) (.int 9)) (by decide +kernel))
    · exact va_eqt (hs (.eq (.elem (.static "CodedGroups$Code" "SIX_PLUS" "[I") (.int 28)) (.int 14)) (by decide +kernel))
    · exact va_eqt (hs (.eq (.elem (.static "CodedGroups$Code" "SIX_PLUS" "[I") (.int 29)) (.int 17)) (by decide +kernel))
    · exact va_eqt (hs (.eq (.elem (.static "CodedGroups$Code" "SIX_PLUS" "[I") (.int 30)) (.int 33)) (by decide +kernel))
    · exact va_eqt (hs (.eq (.elem (.static "CodedGroups$Code" "SIX_PLUS" "[I") (.int 31)) (.int 20)) (by decide +kernel))) hA
  exact ⟨t, va_Zref (hts (.laysStatic "CodedGroups$Code" "SIX_PLUS" "[I") (by decide +kernel)) (hts (.initialized "CodedGroups$Code") (by decide +kernel)) h1 hA, h2⟩
set_option maxHeartbeats 4000000 in
set_option maxRecDepth 100000 in
theorem tbE_FOUR_MINUS {b : Nat} {s : State} {A : Nat → Prop} (hts : ∀ w ∈ lw_tbl, w.before #[Value.ref b] s = true) (hgv : (Jvm.Cond.and given_1 narrow_1).before #[Value.ref b] s = true) (hA : ∀ a : Nat, a < s.heap.size → ¬ A a) : tb_one "FOUR_MINUS" k_FM A s s.heap := by
  have hs := flat_of_before _ hgv
  obtain ⟨t, h1, h2⟩ := va_Tof (tm := (.static "CodedGroups$Code" "FOUR_MINUS" "[I")) (ty := .int) (N := 8) (f := fun j => .int (k_FM.getD j 0)) (A := A) (by decide) (hs (.arrayOf (.static "CodedGroups$Code" "FOUR_MINUS" "[I") .int) (by decide +kernel)) (va_eqt (hs (.eq (.length (.static "CodedGroups$Code" "FOUR_MINUS" "[I")) (.int 8)) (by decide +kernel))) (fun j hj => by
    rcases (show j = 0 ∨ j = 1 ∨ j = 2 ∨ j = 3 ∨ j = 4 ∨ j = 5 ∨ j = 6 ∨ j = 7 by omega) with rfl | rfl | rfl | rfl | rfl | rfl | rfl | rfl
    · exact va_eqt (hs (.eq (.elem (.static "CodedGroups$Code" "FOUR_MINUS" "[I") (.int 0)) (.int 11)) (by decide +kernel))
    · exact va_eqt (hs (.eq (.elem (.static "CodedGroups$Code" "FOUR_MINUS" "[I") (.int 1)) (.int 9)) (by decide +kernel))
    · exact va_eqt (hs (.eq (.elem (.static "CodedGroups$Code" "FOUR_MINUS" "[I") (.int 2)) (.int 5)) (by decide +kernel))
    · exact va_eqt (hs (.eq (.elem (.static "CodedGroups$Code" "FOUR_MINUS" "[I") (.int 3)) (.int 12)) (by decide +kernel))
    · exact va_eqt (hs (.eq (.elem (.static "CodedGroups$Code" "FOUR_MINUS" "[I") (.int 4)) (.int 13)) (by decide +kernel))
    · exact va_eqt (hs (.eq (.elem (.static "CodedGroups$Code" "FOUR_MINUS" "[I") (.int 5)) (.int 10)) (by decide +kernel))
    · exact va_eqt (hs (.eq (.elem (.static "CodedGroups$Code" "FOUR_MINUS" "[I") (.int 6)) (.int 6)) (by decide +kernel))
    · exact va_eqt (hs (.eq (.elem (.static "CodedGroups$Code" "FOUR_MINUS" "[I") (.int 7)) (.int 14)) (by decide +kernel))) hA
  exact ⟨t, va_Zref (hts (.laysStatic "CodedGroups$Code" "FOUR_MINUS" "[I") (by decide +kernel)) (hts (.initialized "CodedGroups$Code") (by decide +kernel)) h1 hA, h2⟩
set_option maxHeartbeats 4000000 in
set_option maxRecDepth 100000 in
theorem tbE_FOUR_PLUS {b : Nat} {s : State} {A : Nat → Prop} (hts : ∀ w ∈ lw_tbl, w.before #[Value.ref b] s = true) (hgv : (Jvm.Cond.and given_1 narrow_1).before #[Value.ref b] s = true) (hA : ∀ a : Nat, a < s.heap.size → ¬ A a) : tb_one "FOUR_PLUS" k_FP A s s.heap := by
  have hs := flat_of_before _ hgv
  obtain ⟨t, h1, h2⟩ := va_Tof (tm := (.static "CodedGroups$Code" "FOUR_PLUS" "[I")) (ty := .int) (N := 8) (f := fun j => .int (k_FP.getD j 0)) (A := A) (by decide) (hs (.arrayOf (.static "CodedGroups$Code" "FOUR_PLUS" "[I") .int) (by decide +kernel)) (va_eqt (hs (.eq (.length (.static "CodedGroups$Code" "FOUR_PLUS" "[I")) (.int 8)) (by decide +kernel))) (fun j hj => by
    rcases (show j = 0 ∨ j = 1 ∨ j = 2 ∨ j = 3 ∨ j = 4 ∨ j = 5 ∨ j = 6 ∨ j = 7 by omega) with rfl | rfl | rfl | rfl | rfl | rfl | rfl | rfl
    · exact va_eqt (hs (.eq (.elem (.static "CodedGroups$Code" "FOUR_PLUS" "[I") (.int 0)) (.int 4)) (by decide +kernel))
    · exact va_eqt (hs (.eq (.elem (.static "CodedGroups$Code" "FOUR_PLUS" "[I") (.int 1)) (.int 9)) (by decide +kernel))
    · exact va_eqt (hs (.eq (.elem (.static "CodedGroups$Code" "FOUR_PLUS" "[I") (.int 2)) (.int 5)) (by decide +kernel))
    · exact va_eqt (hs (.eq (.elem (.static "CodedGroups$Code" "FOUR_PLUS" "[I") (.int 3)) (.int 3)) (by decide +kernel))
    · exact va_eqt (hs (.eq (.elem (.static "CodedGroups$Code" "FOUR_PLUS" "[I") (.int 4)) (.int 2)) (by decide +kernel))
    · exact va_eqt (hs (.eq (.elem (.static "CodedGroups$Code" "FOUR_PLUS" "[I") (.int 5)) (.int 10)) (by decide +kernel))
    · exact va_eqt (hs (.eq (.elem (.static "CodedGroups$Code" "FOUR_PLUS" "[I") (.int 6)) (.int 6)) (by decide +kernel))
    · exact va_eqt (hs (.eq (.elem (.static "CodedGroups$Code" "FOUR_PLUS" "[I") (.int 7)) (.int 1)) (by decide +kernel))) hA
  exact ⟨t, va_Zref (hts (.laysStatic "CodedGroups$Code" "FOUR_PLUS" "[I") (by decide +kernel)) (hts (.initialized "CodedGroups$Code") (by decide +kernel)) h1 hA, h2⟩
set_option maxHeartbeats 4000000 in
set_option maxRecDepth 100000 in
theorem tbE_SIGN_FOUR_MINUS {b : Nat} {s : State} {A : Nat → Prop} (hts : ∀ w ∈ lw_tbl, w.before #[Value.ref b] s = true) (hgv : (Jvm.Cond.and given_1 narrow_1).before #[Value.ref b] s = true) (hA : ∀ a : Nat, a < s.heap.size → ¬ A a) : tb_one "SIGN_FOUR_MINUS" k_GM A s s.heap := by
  have hs := flat_of_before _ hgv
  obtain ⟨t, h1, h2⟩ := va_Tof (tm := (.static "CodedGroups$Code" "SIGN_FOUR_MINUS" "[I")) (ty := .int) (N := 8) (f := fun j => .int (k_GM.getD j 0)) (A := A) (by decide) (hs (.arrayOf (.static "CodedGroups$Code" "SIGN_FOUR_MINUS" "[I") .int) (by decide +kernel)) (va_eqt (hs (.eq (.length (.static "CodedGroups$Code" "SIGN_FOUR_MINUS" "[I")) (.int 8)) (by decide +kernel))) (fun j hj => by
    rcases (show j = 0 ∨ j = 1 ∨ j = 2 ∨ j = 3 ∨ j = 4 ∨ j = 5 ∨ j = 6 ∨ j = 7 by omega) with rfl | rfl | rfl | rfl | rfl | rfl | rfl | rfl
    · exact va_eqt (hs (.eq (.elem (.static "CodedGroups$Code" "SIGN_FOUR_MINUS" "[I") (.int 0)) (.int 11)) (by decide +kernel))
    · exact va_eqt (hs (.eq (.elem (.static "CodedGroups$Code" "SIGN_FOUR_MINUS" "[I") (.int 1)) (.int 6)) (by decide +kernel))
    · exact va_eqt (hs (.eq (.elem (.static "CodedGroups$Code" "SIGN_FOUR_MINUS" "[I") (.int 2)) (.int 10)) (by decide +kernel))
    · exact va_eqt (hs (.eq (.elem (.static "CodedGroups$Code" "SIGN_FOUR_MINUS" "[I") (.int 3)) (.int 12)) (by decide +kernel))
    · exact va_eqt (hs (.eq (.elem (.static "CodedGroups$Code" "SIGN_FOUR_MINUS" "[I") (.int 4)) (.int 13)) (by decide +kernel))
    · exact va_eqt (hs (.eq (.elem (.static "CodedGroups$Code" "SIGN_FOUR_MINUS" "[I") (.int 5)) (.int 5)) (by decide +kernel))
    · exact va_eqt (hs (.eq (.elem (.static "CodedGroups$Code" "SIGN_FOUR_MINUS" "[I") (.int 6)) (.int 9)) (by decide +kernel))
    · exact va_eqt (hs (.eq (.elem (.static "CodedGroups$Code" "SIGN_FOUR_MINUS" "[I") (.int 7)) (.int 7)) (by decide +kernel))) hA
  exact ⟨t, va_Zref (hts (.laysStatic "CodedGroups$Code" "SIGN_FOUR_MINUS" "[I") (by decide +kernel)) (hts (.initialized "CodedGroups$Code") (by decide +kernel)) h1 hA, h2⟩
set_option maxHeartbeats 4000000 in
set_option maxRecDepth 100000 in
theorem tbE_SIGN_FOUR_PLUS {b : Nat} {s : State} {A : Nat → Prop} (hts : ∀ w ∈ lw_tbl, w.before #[Value.ref b] s = true) (hgv : (Jvm.Cond.and given_1 narrow_1).before #[Value.ref b] s = true) (hA : ∀ a : Nat, a < s.heap.size → ¬ A a) : tb_one "SIGN_FOUR_PLUS" k_GP A s s.heap := by
  have hs := flat_of_before _ hgv
  obtain ⟨t, h1, h2⟩ := va_Tof (tm := (.static "CodedGroups$Code" "SIGN_FOUR_PLUS" "[I")) (ty := .int) (N := 8) (f := fun j => .int (k_GP.getD j 0)) (A := A) (by decide) (hs (.arrayOf (.static "CodedGroups$Code" "SIGN_FOUR_PLUS" "[I") .int) (by decide +kernel)) (va_eqt (hs (.eq (.length (.static "CodedGroups$Code" "SIGN_FOUR_PLUS" "[I")) (.int 8)) (by decide +kernel))) (fun j hj => by
    rcases (show j = 0 ∨ j = 1 ∨ j = 2 ∨ j = 3 ∨ j = 4 ∨ j = 5 ∨ j = 6 ∨ j = 7 by omega) with rfl | rfl | rfl | rfl | rfl | rfl | rfl | rfl
    · exact va_eqt (hs (.eq (.elem (.static "CodedGroups$Code" "SIGN_FOUR_PLUS" "[I") (.int 0)) (.int 4)) (by decide +kernel))
    · exact va_eqt (hs (.eq (.elem (.static "CodedGroups$Code" "SIGN_FOUR_PLUS" "[I") (.int 1)) (.int 9)) (by decide +kernel))
    · exact va_eqt (hs (.eq (.elem (.static "CodedGroups$Code" "SIGN_FOUR_PLUS" "[I") (.int 2)) (.int 5)) (by decide +kernel))
    · exact va_eqt (hs (.eq (.elem (.static "CodedGroups$Code" "SIGN_FOUR_PLUS" "[I") (.int 3)) (.int 3)) (by decide +kernel))
    · exact va_eqt (hs (.eq (.elem (.static "CodedGroups$Code" "SIGN_FOUR_PLUS" "[I") (.int 4)) (.int 2)) (by decide +kernel))
    · exact va_eqt (hs (.eq (.elem (.static "CodedGroups$Code" "SIGN_FOUR_PLUS" "[I") (.int 5)) (.int 10)) (by decide +kernel))
    · exact va_eqt (hs (.eq (.elem (.static "CodedGroups$Code" "SIGN_FOUR_PLUS" "[I") (.int 6)) (.int 6)) (by decide +kernel))
    · exact va_eqt (hs (.eq (.elem (.static "CodedGroups$Code" "SIGN_FOUR_PLUS" "[I") (.int 7)) (.int 8)) (by decide +kernel))) hA
  exact ⟨t, va_Zref (hts (.laysStatic "CodedGroups$Code" "SIGN_FOUR_PLUS" "[I") (by decide +kernel)) (hts (.initialized "CodedGroups$Code") (by decide +kernel)) h1 hA, h2⟩
theorem lw_ev {b : Nat} {s : State} {A : Nat → Prop} (hts : ∀ w ∈ lw_tbl, w.before #[Value.ref b] s = true) (hgv : (Jvm.Cond.and given_1 narrow_1).before #[Value.ref b] s = true) (hA : ∀ a : Nat, a < s.heap.size → ¬ A a) : ev A s s.heap := by
  refine ⟨fun w hw => va_Nw.of (nw_tab (nestW_kind w hw)) (hts w (nestW_in w hw)), ?_⟩
  exact List.forall_mem_cons.mpr ⟨tbE_SIX_MINUS hts hgv hA, List.forall_mem_cons.mpr ⟨tbE_SIX_PLUS hts hgv hA, List.forall_mem_cons.mpr ⟨tbE_FOUR_MINUS hts hgv hA, List.forall_mem_cons.mpr ⟨tbE_FOUR_PLUS hts hgv hA, List.forall_mem_cons.mpr ⟨tbE_SIGN_FOUR_MINUS hts hgv hA, List.forall_mem_cons.mpr ⟨tbE_SIGN_FOUR_PLUS hts hgv hA, fun _ h => absurd h List.not_mem_nil⟩⟩⟩⟩⟩⟩
theorem lw_arrB {b : Nat} {s : State} (h : (Cond.arrayClass .byte).before #[Value.ref b] s = true) : ∃ cA : ClassId, ArrOfT s cA .byte ∧ va_RA s cA .byte := by
  obtain ⟨cA, kA, comp, h1, h2, h3⟩ := Cond.arrayClass_spec h
  exact ⟨cA, fun n z => ⟨fun k h => (by cases h), kA, h2, comp, h3⟩, h1⟩
theorem lw_arrI {b : Nat} {s : State} (h : (Cond.arrayClass .int).before #[Value.ref b] s = true) : ∃ cA : ClassId, ArrOfT s cA .int ∧ va_RA s cA .int := by
  obtain ⟨cA, kA, comp, h1, h2, h3⟩ := Cond.arrayClass_spec h
  exact ⟨cA, fun n z => ⟨fun k h => (by cases h), kA, h2, comp, h3⟩, h1⟩
theorem lw_arrZ {b : Nat} {s : State} (h : (Cond.arrayClass .boolean).before #[Value.ref b] s = true) : ∃ cA : ClassId, ArrOfT s cA .boolean ∧ va_RA s cA .boolean := by
  obtain ⟨cA, kA, comp, h1, h2, h3⟩ := Cond.arrayClass_spec h
  exact ⟨cA, fun n z => ⟨fun k h => (by cases h), kA, h2, comp, h3⟩, h1⟩


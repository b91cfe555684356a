set_option maxRecDepth 100000 in
theorem gc_0 : (List.range 64).all (fun q => decide (f_X0_groupOf (nI (q + 0)) 0 (-1) = f_X7_groupOf (nI (q + 0)) 0 (-1) mdC) && decide (f_X0_groupOf (nI (q + 0)) 1 (-1) = f_X7_groupOf (nI (q + 0)) 1 (-1) mdC) && decide (f_X0_groupOf (nI (q + 0)) 0 1 = f_X7_groupOf (nI (q + 0)) 0 1 mdC) && decide (f_X0_groupOf (nI (q + 0)) 1 1 = f_X7_groupOf (nI (q + 0)) 1 1 mdC) && decide (f_X0_isSign (nI (q + 0) &&& 31) (nI (q + 0) >>> ((5 : Int32) &&& 31)) = f_X7_isSign (nI (q + 0))) && decide (0 ≤ (f_X7_groupOf (nI (q + 0)) 0 (-1) mdC).toInt ∧ (f_X7_groupOf (nI (q + 0)) 0 (-1) mdC).toInt < 1024) && decide (0 ≤ (f_X7_groupOf (nI (q + 0)) 1 (-1) mdC).toInt ∧ (f_X7_groupOf (nI (q + 0)) 1 (-1) mdC).toInt < 1024) && decide (0 ≤ (f_X7_groupOf (nI (q + 0)) 0 1 mdC).toInt ∧ (f_X7_groupOf (nI (q + 0)) 0 1 mdC).toInt < 1024) && decide (0 ≤ (f_X7_groupOf (nI (q + 0)) 1 1 mdC).toInt ∧ (f_X7_groupOf (nI (q + 0)) 1 1 mdC).toInt < 1024)) = true := by decide +kernel
set_option maxRecDepth 100000 in
theorem gc_1 : (List.range 64).all (fun q => decide (f_X0_groupOf (nI (q + 64)) 0 (-1) = f_X7_groupOf (nI (q + 64)) 0 (-1) mdC) && decide (f_X0_groupOf (nI (q + 64)) 1 (-1) = f_X7_groupOf (nI (q + 64)) 1 (-1) mdC) && decide (f_X0_groupOf (nI (q + 64)) 0 1 = f_X7_groupOf (nI (q + 64)) 0 1 mdC) && decide (f_X0_groupOf (nI (q + 64)) 1 1 = f_X7_groupOf (nI (q + 64)) 1 1 mdC) && decide (f_X0_isSign (nI (q + 64) &&& 31) (nI (q + 64) >>> ((5 : Int32) &&& 31)) = f_X7_isSign (nI (q + 64))) && decide (0 ≤ (f_X7_groupOf (nI (q + 64)) 0 (-1) mdC).toInt ∧ (f_X7_groupOf (nI (q + 64)) 0 (-1) mdC).toInt < 1024) && decide (0 ≤ (f_X7_groupOf (nI (q + 64)) 1 (-1) mdC).toInt ∧ (f_X7_groupOf (nI (q + 64)) 1 (-1) mdC).toInt < 1024) && decide (0 ≤ (f_X7_groupOf (nI (q + 64)) 0 1 mdC).toInt ∧ (f_X7_groupOf (nI (q + 64)) 0 1 mdC).toInt < 1024) && decide (0 ≤ (f_X7_groupOf (nI (q + 64)) 1 1 mdC).toInt ∧ (f_X7_groupOf (nI (q + 64)) 1 1 mdC).toInt < 1024)) = true := by decide +kernel
set_option maxRecDepth 100000 in
theorem gc_2 : (List.range 64).all (fun q => decide (f_X0_groupOf (nI (q + 128)) 0 (-1) = f_X7_groupOf (nI (q + 128)) 0 (-1) mdC) && decide (f_X0_groupOf (nI (q + 128)) 1 (-1) = f_X7_groupOf (nI (q + 128)) 1 (-1) mdC) && decide (f_X0_groupOf (nI (q + 128)) 0 1 = f_X7_groupOf (nI (q + 128)) 0 1 mdC) && decide (f_X0_groupOf (nI (q + 128)) 1 1 = f_X7_groupOf (nI (q + 128)) 1 1 mdC) && decide (f_X0_isSign (nI (q + 128) &&& 31) (nI (q + 128) >>> ((5 : Int32) &&& 31)) = f_X7_isSign (nI (q + 128))) && decide (0 ≤ (f_X7_groupOf (nI (q + 128)) 0 (-1) mdC).toInt ∧ (f_X7_groupOf (nI (q + 128)) 0 (-1) mdC).toInt < 1024) && decide (0 ≤ (f_X7_groupOf (nI (q + 128)) 1 (-1) mdC).toInt ∧ (f_X7_groupOf (nI (q + 128)) 1 (-1) mdC).toInt < 1024) && decide (0 ≤ (f_X7_groupOf (nI (q + 128)) 0 1 mdC).toInt ∧ (f_X7_groupOf (nI (q + 128)) 0 1 mdC).toInt < 1024) && decide (0 ≤ (f_X7_groupOf (nI (q + 128)) 1 1 mdC).toInt ∧ (f_X7_groupOf (nI (q + 128)) 1 1 mdC).toInt < 1024)) = true := by decide +kernel
set_option maxRecDepth 100000 in
theorem gc_3 : (List.range 64).all (fun q => decide (f_X0_groupOf (nI (q + 192)) 0 (-1) = f_X7_groupOf (nI (q + 192)) 0 (-1) mdC) && decide (f_X0_groupOf (nI (q + 192)) 1 (-1) = f_X7_groupOf (nI (q + 192)) 1 (-1) mdC) && decide (f_X0_groupOf (nI (q + 192)) 0 1 = f_X7_groupOf (nI (q + 192)) 0 1 mdC) && decide (f_X0_groupOf (nI (q + 192)) 1 1 = f_X7_groupOf (nI (q + 192)) 1 1 mdC) && decide (f_X0_isSign (nI (q + 192) &&& 31) (nI (q + 192) >>> ((5 : Int32) &&& 31)) = f_X7_isSign (nI (q + 192))) && decide (0 ≤ (f_X7_groupOf (nI (q + 192)) 0 (-1) mdC).toInt ∧ (f_X7_groupOf (nI (q + 192)) 0 (-1) mdC).toInt < 1024) && decide (0 ≤ (f_X7_groupOf (nI (q + 192)) 1 (-1) mdC).toInt ∧ (f_X7_groupOf (nI (q + 192)) 1 (-1) mdC).toInt < 1024) && decide (0 ≤ (f_X7_groupOf (nI (q + 192)) 0 1 mdC).toInt ∧ (f_X7_groupOf (nI (q + 192)) 0 1 mdC).toInt < 1024) && decide (0 ≤ (f_X7_groupOf (nI (q + 192)) 1 1 mdC).toInt ∧ (f_X7_groupOf (nI (q + 192)) 1 1 mdC).toInt < 1024)) = true := by decide +kernel
theorem gcAll (v : Nat) (h : v < 256) : f_X0_groupOf (nI v) 0 (-1) = f_X7_groupOf (nI v) 0 (-1) mdC ∧ f_X0_groupOf (nI v) 1 (-1) = f_X7_groupOf (nI v) 1 (-1) mdC ∧ f_X0_groupOf (nI v) 0 1 = f_X7_groupOf (nI v) 0 1 mdC ∧ f_X0_groupOf (nI v) 1 1 = f_X7_groupOf (nI v) 1 1 mdC ∧ f_X0_isSign (nI v &&& 31) (nI v >>> ((5 : Int32) &&& 31)) = f_X7_isSign (nI v) ∧ (0 ≤ (f_X7_groupOf (nI v) 0 (-1) mdC).toInt ∧ (f_X7_groupOf (nI v) 0 (-1) mdC).toInt < 1024) ∧ (0 ≤ (f_X7_groupOf (nI v) 1 (-1) mdC).toInt ∧ (f_X7_groupOf (nI v) 1 (-1) mdC).toInt < 1024) ∧ (0 ≤ (f_X7_groupOf (nI v) 0 1 mdC).toInt ∧ (f_X7_groupOf (nI v) 0 1 mdC).toInt < 1024) ∧ (0 ≤ (f_X7_groupOf (nI v) 1 1 mdC).toInt ∧ (f_X7_groupOf (nI v) 1 1 mdC).toInt < 1024) := by
  have key : ∀ (a : Nat) (H : (List.range 64).all (fun q => decide (f_X0_groupOf (nI (q + a)) 0 (-1) = f_X7_groupOf (nI (q + a)) 0 (-1) mdC) && decide (f_X0_groupOf (nI (q + a)) 1 (-1) = f_X7_groupOf (nI (q + a)) 1 (-1) mdC) && decide (f_X0_groupOf (nI (q + a)) 0 1 = f_X7_groupOf (nI (q + a)) 0 1 mdC) && decide (f_X0_groupOf (nI (q + a)) 1 1 = f_X7_groupOf (nI (q + a)) 1 1 mdC) && decide (f_X0_isSign (nI (q + a) &&& 31) (nI (q + a) >>> ((5 : Int32) &&& 31)) = f_X7_isSign (nI (q + a))) && decide (0 ≤ (f_X7_groupOf (nI (q + a)) 0 (-1) mdC).toInt ∧ (f_X7_groupOf (nI (q + a)) 0 (-1) mdC).toInt < 1024) && decide (0 ≤ (f_X7_groupOf (nI (q + a)) 1 (-1) mdC).toInt ∧ (f_X7_groupOf (nI (q + a)) 1 (-1) mdC).toInt < 1024) && decide (0 ≤ (f_X7_groupOf (nI (q + a)) 0 1 mdC).toInt ∧ (f_X7_groupOf (nI (q + a)) 0 1 mdC).toInt < 1024) && decide (0 ≤ (f_X7_groupOf (nI (q + a)) 1 1 mdC).toInt ∧ (f_X7_groupOf (nI (q + a)) 1 1 mdC).toInt < 1024)) = true), a ≤ v → v < a + 64 → f_X0_groupOf (nI v) 0 (-1) = f_X7_groupOf (nI v) 0 (-1) mdC ∧ f_X0_groupOf (nI v) 1 (-1) = f_X7_groupOf (nI v) 1 (-1) mdC ∧ f_X0_groupOf (nI v) 0 1 = f_X7_groupOf (nI v) 0 1 mdC ∧ f_X0_groupOf (nI v) 1 1 = f_X7_groupOf (nI v) 1 1 mdC ∧ f_X0_isSign (nI v &&& 31) (nI v >>> ((5 : Int32) &&& 31)) = f_X7_isSign (nI v) ∧ (0 ≤ (f_X7_groupOf (nI v) 0 (-1) mdC).toInt ∧ (f_X7_groupOf (nI v) 0 (-1) mdC).toInt < 1024) ∧ (0 ≤ (f_X7_groupOf (nI v) 1 (-1) mdC).toInt ∧ (f_X7_groupOf (nI v) 1 (-1) mdC).toInt < 1024) ∧ (0 ≤ (f_X7_groupOf (nI v) 0 1 mdC).toInt ∧ (f_X7_groupOf (nI v) 0 1 mdC).toInt < 1024) ∧ (0 ≤ (f_X7_groupOf (nI v) 1 1 mdC).toInt ∧ (f_X7_groupOf (nI v) 1 1 mdC).toInt < 1024) := by
    intro a H h1 h2
    have q := List.all_eq_true.mp H (v - a) (List.mem_range.mpr (by omega))
    have e : v - a + a = v := by omega
    rw [e] at q
    simp only [Bool.and_eq_true, decide_eq_true_eq] at q
    obtain ⟨⟨⟨⟨⟨⟨⟨⟨a1, a2⟩, a3⟩, a4⟩, a5⟩, a6⟩, a7⟩, a8⟩, a9⟩ := q
    exact ⟨a1, a2, a3, a4, a5, a6, a7, a8, a9⟩
  by_cases h0 : v < 64
  · exact key 0 gc_0 (by omega) (by omega)
  by_cases h1 : v < 128
  · exact key 64 gc_1 (by omega) (by omega)
  by_cases h2 : v < 192
  · exact key 128 gc_2 (by omega) (by omega)
  · exact key 192 gc_3 (by omega) (by omega)
set_option maxRecDepth 100000 in
theorem bh_0 : (List.range 256).all (fun q => decide (f_X0_behindGroup (nI (q + 0)) (-1) = f_X7_behindGroup (nI (q + 0)) (-1)) && decide (f_X0_behindGroup (nI (q + 0)) 1 = f_X7_behindGroup (nI (q + 0)) 1) && decide (f_X7_behindGroup (nI (q + 0)) (-1) = -1 ∨ f_X7_behindGroup (nI (q + 0)) (-1) = 1) && decide (f_X7_behindGroup (nI (q + 0)) 1 = -1 ∨ f_X7_behindGroup (nI (q + 0)) 1 = 1)) = true := by decide +kernel
set_option maxRecDepth 100000 in
theorem bh_1 : (List.range 256).all (fun q => decide (f_X0_behindGroup (nI (q + 256)) (-1) = f_X7_behindGroup (nI (q + 256)) (-1)) && decide (f_X0_behindGroup (nI (q + 256)) 1 = f_X7_behindGroup (nI (q + 256)) 1) && decide (f_X7_behindGroup (nI (q + 256)) (-1) = -1 ∨ f_X7_behindGroup (nI (q + 256)) (-1) = 1) && decide (f_X7_behindGroup (nI (q + 256)) 1 = -1 ∨ f_X7_behindGroup (nI (q + 256)) 1 = 1)) = true := by decide +kernel
set_option maxRecDepth 100000 in
theorem bh_2 : (List.range 256).all (fun q => decide (f_X0_behindGroup (nI (q + 512)) (-1) = f_X7_behindGroup (nI (q + 512)) (-1)) && decide (f_X0_behindGroup (nI (q + 512)) 1 = f_X7_behindGroup (nI (q + 512)) 1) && decide (f_X7_behindGroup (nI (q + 512)) (-1) = -1 ∨ f_X7_behindGroup (nI (q + 512)) (-1) = 1) && decide (f_X7_behindGroup (nI (q + 512)) 1 = -1 ∨ f_X7_behindGroup (nI (q + 512)) 1 = 1)) = true := by decide +kernel
set_option maxRecDepth 100000 in
theorem bh_3 : (List.range 256).all (fun q => decide (f_X0_behindGroup (nI (q + 768)) (-1) = f_X7_behindGroup (nI (q + 768)) (-1)) && decide (f_X0_behindGroup (nI (q + 768)) 1 = f_X7_behindGroup (nI (q + 768)) 1) && decide (f_X7_behindGroup (nI (q + 768)) (-1) = -1 ∨ f_X7_behindGroup (nI (q + 768)) (-1) = 1) && decide (f_X7_behindGroup (nI (q + 768)) 1 = -1 ∨ f_X7_behindGroup (nI (q + 768)) 1 = 1)) = true := by decide +kernel
theorem bhAll (g : Nat) (h : g < 1024) : f_X0_behindGroup (nI g) (-1) = f_X7_behindGroup (nI g) (-1) ∧ f_X0_behindGroup (nI g) 1 = f_X7_behindGroup (nI g) 1 ∧ (f_X7_behindGroup (nI g) (-1) = -1 ∨ f_X7_behindGroup (nI g) (-1) = 1) ∧ (f_X7_behindGroup (nI g) 1 = -1 ∨ f_X7_behindGroup (nI g) 1 = 1) := by
  have key : ∀ (a : Nat) (H : (List.range 256).all (fun q => decide (f_X0_behindGroup (nI (q + a)) (-1) = f_X7_behindGroup (nI (q + a)) (-1)) && decide (f_X0_behindGroup (nI (q + a)) 1 = f_X7_behindGroup (nI (q + a)) 1) && decide (f_X7_behindGroup (nI (q + a)) (-1) = -1 ∨ f_X7_behindGroup (nI (q + a)) (-1) = 1) && decide (f_X7_behindGroup (nI (q + a)) 1 = -1 ∨ f_X7_behindGroup (nI (q + a)) 1 = 1)) = true), a ≤ g → g < a + 256 → f_X0_behindGroup (nI g) (-1) = f_X7_behindGroup (nI g) (-1) ∧ f_X0_behindGroup (nI g) 1 = f_X7_behindGroup (nI g) 1 ∧ (f_X7_behindGroup (nI g) (-1) = -1 ∨ f_X7_behindGroup (nI g) (-1) = 1) ∧ (f_X7_behindGroup (nI g) 1 = -1 ∨ f_X7_behindGroup (nI g) 1 = 1) := by
    intro a H h1 h2
    have q := List.all_eq_true.mp H (g - a) (List.mem_range.mpr (by omega))
    have e : g - a + a = g := by omega
    rw [e] at q
    simp only [Bool.and_eq_true, decide_eq_true_eq] at q
    obtain ⟨⟨⟨a1, a2⟩, a3⟩, a4⟩ := q
    exact ⟨a1, a2, a3, a4⟩
  by_cases h0 : g < 256
  · exact key 0 bh_0 (by omega) (by omega)
  by_cases h1 : g < 512
  · exact key 256 bh_1 (by omega) (by omega)
  by_cases h2 : g < 768
  · exact key 512 bh_2 (by omega) (by omega)
  · exact key 768 bh_3 (by omega) (by omega)
/-- a disparity -/
def pm (d : Int32) : Prop := d = -1 ∨ d = 1
theorem bh_eq {g d : Int32} (hg : 0 ≤ g.toInt ∧ g.toInt < 1024) (hd : pm d) : f_X0_behindGroup g d = f_X7_behindGroup g d ∧ pm (f_X7_behindGroup g d) := by
  obtain ⟨k, hk, rfl⟩ := nI_of (x := g) (i_nn hg.1)
  have zk := nI_toInt (n := k) hk
  obtain ⟨a1, a2, a3, a4⟩ := bhAll k (by omega)
  rcases hd with rfl | rfl
  · exact ⟨a1, a3⟩
  · exact ⟨a2, a4⟩
theorem x0_sg {v sg d : Int32} (h : ¬ sg = 0) : f_X0_groupOf v sg d = f_X0_groupOf v 1 d := by
  have h1 : ¬ (1 : Int32) = 0 := by decide
  simp only [f_X0_groupOf, f_X0_sixOf, f_X0_fourOf, letv, if_neg h, if_neg h1]
theorem x7_sg {v sg d : Int32} (h : ¬ sg = 0) : f_X7_groupOf v sg d mdC = f_X7_groupOf v 1 d mdC := by
  have h1 : ¬ (1 : Int32) = 0 := by decide
  simp only [f_X7_groupOf, jn_X7_groupOf_49, jn_X7_groupOf_83, jn_X7_groupOf_168, mdC, letv, if_neg h, if_neg h1]
theorem gr_eq {v sg d : Int32} {M : MdS} (hM : tabOK M) (hv : 0 ≤ v.toInt ∧ v.toInt ≤ 255) (hd : pm d) : f_X0_groupOf v sg d = f_X7_groupOf v sg d M ∧ 0 ≤ (f_X7_groupOf v sg d M).toInt ∧ (f_X7_groupOf v sg d M).toInt < 1024 := by
  rw [grp_eq hM hv]
  obtain ⟨k, hk, rfl⟩ := nI_of (x := v) (i_nn hv.1)
  have zk := nI_toInt (n := k) hk
  obtain ⟨a1, a2, a3, a4, a5, a6, a7, a8, a9⟩ := gcAll k (by omega)
  by_cases hs : sg = 0
  · subst hs
    rcases hd with rfl | rfl
    · exact ⟨a1, a6⟩
    · exact ⟨a3, a8⟩
  · rw [x0_sg hs, x7_sg hs]
    rcases hd with rfl | rfl
    · exact ⟨a2, a7⟩
    · exact ⟨a4, a9⟩
theorem sg_eq {v : Int32} (hv : 0 ≤ v.toInt ∧ v.toInt ≤ 255) : f_X0_isSign (v &&& 31) (v >>> ((5 : Int32) &&& 31)) = f_X7_isSign v := by
  obtain ⟨k, hk, rfl⟩ := nI_of (x := v) (i_nn hv.1)
  have zk := nI_toInt (n := k) hk
  exact (gcAll k (by omega)).2.2.2.2.1
theorem comma_eq {g : Int32} : f_X0_isComma g = f_X7_isComma g := by
  simp only [f_X0_isComma, f_X7_isComma, letv]

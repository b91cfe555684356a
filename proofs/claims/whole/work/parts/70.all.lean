/-- the simulation, over the one call that is wanting -/
theorem sim_all_open (htake : ∀ (p0 : Int32) (k : Nat) (S : CGS) (M : MdS), k < 512 → Rel k S M → (f_X6_take p0 S).1 = (f_X7_take p0 M).1 ∧ Rel (k + 1) (f_X6_take p0 S).2 (f_X7_take p0 M).2) : SimAll Rel :=
  ⟨sim_ok, sim_mono, sim_send, sim_idle, sim_feed, sim_frame, sim_bit, sim_turn, sim_drop, sim_line, sim_size, sim_disparity, htake, sim_level, sim_trust, sim_symbol, sim_length, sim_whole, sim_at, sim_decode, sim_count⟩

/-! THE CLAIM OUT OF ONE WALK OF THE LAW'S BODY. Your part is whole_start (and what it stands on); all else here is the same for every law, but numbers. -/
def R_law : String := "CodedGroupsLaw"
def lw_P (b : Addr) (xs : List Int32) (args : Array Value) (s : State) : Prop := args = #[.ref b] ∧ s.IntsAt b xs ∧ xs.length ≤ 1536 ∧ (Jvm.Cond.and given_1 narrow_1).before args s = true
def lw_Q (_ : Array Value) (s : State) (o : Outcome) (t : State) : Prop := o = .returned (some (.int 1)) ∧ Framed s o t [] 23 32699
def lw_Z (below : List Frame) (a : Array Value) (s : State) : State → Prop := fun t => ∃ o, t.status = .running ∧ Ended t below o ∧ lw_Q a s o t
/-- the law's own end, with 1 on the stack, nothing written that was there before, its room as the claim has it -/
theorem lw_ret {p : Program} {l : Launch} {e : Env} {s : State} {m : MethodId} {below : List Frame} {meth : Method} {c : Code} {b : Nat} (hx : p.tables.exec = Jvm.exec) (hb : c.code = code) (hr : meth.sig.returnType = ret) (hlocks : meth.locks = false) {pc : Nat} {H : Heap} {ls : Array Slot} (hdg : decode code pc = .ok (.ireturn, 1)) : W p l e room_1 s m #[Value.ref b] below meth c H [] 23 32699 (lw_Z below #[Value.ref b] s) (F0 m pc ls [.int 1]) := by
  intro T hT X
  obtain ⟨fs, hret, hrun, hended, hW, hframe⟩ := X.leave (v := some (.int 1)) (hlocks := hlocks) (fun h => by rw [hr] at h; cases h)
  have hmeth' : T.vm.method? m = some meth := X.method'
  refine ⟨T.setFrames fs, ?_, .returned (some (.int 1)), hrun, hended, rfl, ⟨_, rfl⟩, hW, hframe⟩
  jvm_step X.here [X.here.top, hx, hb, hdg, hmeth', hr, ret, narrow_b1]
  (try refine ⟨rfl, ?_⟩); (try refine ⟨rfl, ?_⟩)
  first | (intro acts; rw [hret _ acts rfl rfl rfl]) | rw [hret _ _ rfl rfl rfl]
  exact Steps.refl _
/-- what holds at the law's entry: the machine, the code, the tables' words (any of lw_tbl by 'hts w (by decide +kernel)'), the script of L ints xs at the cell b, what the Statement gives of the start (any of its parts by flat_of_before) -/
def lw_At (p : Program) (s : State) (m : MethodId) (meth : Method) (c : Code) (b L : Nat) (xs : Nat → Int32) : Prop :=
  p.tables.exec = Jvm.exec ∧ c.code = code ∧ meth.sig.returnType = ret ∧ c.maxLocals = 4 ∧ s.vm.findClass R_law = some m.cls ∧ (∀ w ∈ lw_tbl, w.before #[Value.ref b] s = true) ∧ va_X b L xs s s.heap ∧ b < s.heap.size ∧ meth.locks = false ∧ (Jvm.Cond.and given_1 narrow_1).before #[Value.ref b] s = true
/-- what the law needs of a relation between the class and the reference: ranges, and for each call the same answer, the relation kept -/
def SimAll (Rel : Nat → CGS → MdS → Prop) : Prop :=
  (∀ (k : Nat) (S : CGS) (M : MdS), Rel k S M → mdOK M ∧ lnOK S.1 ∧ shOK S.2.2.2.1) ∧
  (∀ (k : Nat) (S : CGS) (M : MdS), Rel k S M → Rel (k + 1) S M) ∧
  (∀ (p0 p1 : Int32) (k : Nat) (S : CGS) (M : MdS), k < 512 → Rel k S M → (f_X6_send p0 p1 S).1 = (f_X7_send p0 p1 M).1 ∧ Rel (k + 1) (f_X6_send p0 p1 S).2 (f_X7_send p0 p1 M).2) ∧
  (∀ (k : Nat) (S : CGS) (M : MdS), k < 512 → Rel k S M → (f_X6_idle S).1 = (f_X7_idle M).1 ∧ Rel (k + 1) (f_X6_idle S).2 (f_X7_idle M).2) ∧
  (∀ (p0 : Int32) (k : Nat) (S : CGS) (M : MdS), k < 512 → Rel k S M → (f_X6_feed p0 S).1 = (f_X7_feed p0 M).1 ∧ Rel (k + 1) (f_X6_feed p0 S).2 (f_X7_feed p0 M).2) ∧
  (∀ (k : Nat) (S : CGS) (M : MdS), k < 512 → Rel k S M → (f_X6_frame S).1 = (f_X7_frame M).1 ∧ Rel (k + 1) (f_X6_frame S).2 (f_X7_frame M).2) ∧
  (∀ (p0 : Int32) (k : Nat) (S : CGS) (M : MdS), k < 512 → Rel k S M → (f_X6_bit p0 S).1 = (f_X7_bit p0 M).1 ∧ Rel (k + 1) (f_X6_bit p0 S).2 (f_X7_bit p0 M).2) ∧
  (∀ (p0 : Int32) (k : Nat) (S : CGS) (M : MdS), k < 512 → Rel k S M → (f_X6_turn p0 S).1 = (f_X7_turn p0 M).1 ∧ Rel (k + 1) (f_X6_turn p0 S).2 (f_X7_turn p0 M).2) ∧
  (∀ (p0 : Int32) (k : Nat) (S : CGS) (M : MdS), k < 512 → Rel k S M → (f_X6_drop p0 S).1 = (f_X7_drop p0 M).1 ∧ Rel (k + 1) (f_X6_drop p0 S).2 (f_X7_drop p0 M).2) ∧
  (∀ (p0 : Int32) (k : Nat) (S : CGS) (M : MdS), k < 512 → Rel k S M → f_X6_line p0 S = f_X7_line p0 M) ∧
  (∀ (k : Nat) (S : CGS) (M : MdS), k < 512 → Rel k S M → f_X6_size S = f_X7_size M) ∧
  (∀ (p0 : Int32) (k : Nat) (S : CGS) (M : MdS), k < 512 → Rel k S M → f_X6_disparity p0 S = f_X7_disparity p0 M) ∧
  (∀ (p0 : Int32) (k : Nat) (S : CGS) (M : MdS), k < 512 → Rel k S M → (f_X6_take p0 S).1 = (f_X7_take p0 M).1 ∧ Rel (k + 1) (f_X6_take p0 S).2 (f_X7_take p0 M).2) ∧
  (∀ (k : Nat) (S : CGS) (M : MdS), k < 512 → Rel k S M → f_X6_level S = f_X7_level M) ∧
  (∀ (k : Nat) (S : CGS) (M : MdS), k < 512 → Rel k S M → f_X6_trust S = f_X7_trust M) ∧
  (∀ (p0 : Int32) (k : Nat) (S : CGS) (M : MdS), k < 512 → Rel k S M → f_X6_symbol p0 S = f_X7_symbol p0 M) ∧
  (∀ (p0 : Int32) (k : Nat) (S : CGS) (M : MdS), k < 512 → Rel k S M → f_X6_length p0 S = f_X7_length p0 M) ∧
  (∀ (p0 : Int32) (k : Nat) (S : CGS) (M : MdS), k < 512 → Rel k S M → f_X6_whole p0 S = f_X7_whole p0 M) ∧
  (∀ (p0 p1 : Int32) (k : Nat) (S : CGS) (M : MdS), k < 512 → Rel k S M → f_X6_at p0 p1 S = f_X7_at p0 p1 M) ∧
  (∀ (p0 p1 : Int32) (k : Nat) (S : CGS) (M : MdS), k < 512 → Rel k S M → f_X6_decode p0 p1 S = f_X7_decode p0 p1 M) ∧
  (∀ (p0 : Int32) (k : Nat) (S : CGS) (M : MdS), k < 512 → Rel k S M → f_X6_count p0 S = f_X7_count p0 M)

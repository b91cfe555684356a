/-! MY FRAME: the environment (nest words, the six static tables), contracts with one functional answer, calls by one row -/
def nestW : List Cond := [.methodLinkNest "CodedGroups" 9 ⟨"CodedGroups$Line", "<init>", "()V"⟩ "CodedGroups", .methodLinkNest "CodedGroups" 18 ⟨"CodedGroups$Sender", "<init>", "()V"⟩ "CodedGroups", .methodLinkNest "CodedGroups" 25 ⟨"CodedGroups$Receiver", "<init>", "()V"⟩ "CodedGroups", .methodLinkNest "CodedGroups$Receiver" 11 ⟨"CodedGroups$SymbolLog", "<init>", "()V"⟩ "CodedGroups", .methodLinkNest "CodedGroups$Receiver" 20 ⟨"CodedGroups$FrameShelf", "<init>", "()V"⟩ "CodedGroups",
  .fieldLinkNest "CodedGroups" 68 "CodedGroups$Line" "held" "I" "CodedGroups", .fieldLinkNest "CodedGroups" 72 "CodedGroups$Sender" "lean" "I" "CodedGroups", .fieldLinkNest "CodedGroups" 122 "CodedGroups$Sender" "sent" "I" "CodedGroups", .fieldLinkNest "CodedGroups" 143 "CodedGroups$SymbolLog" "received" "I" "CodedGroups", .fieldLinkNest "CodedGroups" 134 "CodedGroups$FrameShelf" "kept" "I" "CodedGroups", .fieldLinkNest "CodedGroups" 137 "CodedGroups$FrameShelf" "ended" "I" "CodedGroups", .fieldLinkNest "CodedGroups" 140 "CodedGroups$FrameShelf" "endedWhole" "I" "CodedGroups", .fieldLinkNest "CodedGroups" 95 "CodedGroups$Receiver" "log" "LCodedGroups$SymbolLog;" "CodedGroups", .fieldLinkNest "CodedGroups" 104 "CodedGroups$Receiver" "shelf" "LCodedGroups$FrameShelf;" "CodedGroups", .fieldLinkNest "CodedGroups" 75 "CodedGroups$Receiver" "lean" "I" "CodedGroups", .fieldLinkNest "CodedGroups" 89 "CodedGroups$Receiver" "rank" "I" "CodedGroups", .fieldLinkNest "CodedGroups" 92 "CodedGroups$Receiver" "faith" "I" "CodedGroups", .fieldLinkNest "CodedGroups" 125 "CodedGroups$Receiver" "groups" "I" "CodedGroups", .fieldLinkNest "CodedGroups" 128 "CodedGroups$Receiver" "badGroups" "I" "CodedGroups", .fieldLinkNest "CodedGroups" 131 "CodedGroups$Receiver" "searches" "I" "CodedGroups"]
set_option maxRecDepth 20000 in
theorem nestW_in : ∀ w ∈ nestW, w ∈ lw_tbl := by decide +kernel
def nw_kind : Cond → Bool
  | .methodLinkNest .. => true
  | .fieldLinkNest .. => true
  | _ => false
theorem nestW_kind : ∀ w ∈ nestW, nw_kind w = true := by decide +kernel
theorem nw_tab {w : Cond} (h : nw_kind w = true) : w.onTables = true := by
  cases w <;> first | rfl | (simp [nw_kind] at h)
theorem nw_warm {w : Cond} (h : nw_kind w = true) {s U : State} (hW : s.WarmedH U.vm) (hZ : va_Nw w s) : va_Nw w U := by
  cases w <;> first | (simp [nw_kind] at h; done) | exact va_Nw.warmF hW hZ | exact va_Nw.warmM hW hZ
def k_SM : List Int32 := [39, 29, 45, 49, 53, 41, 25, 56, 57, 37, 21, 52, 13, 44, 28, 23, 27, 35, 19, 50, 11, 42, 26, 58, 51, 38, 22, 54, 14, 46, 30, 43]
def k_SP : List Int32 := [24, 34, 18, 49, 10, 41, 25, 7, 6, 37, 21, 52, 13, 44, 28, 40, 36, 35, 19, 50, 11, 42, 26, 5, 12, 38, 22, 9, 14, 17, 33, 20]
def k_FM : List Int32 := [11, 9, 5, 12, 13, 10, 6, 14]
def k_FP : List Int32 := [4, 9, 5, 3, 2, 10, 6, 1]
def k_GM : List Int32 := [11, 6, 10, 12, 13, 5, 9, 7]
def k_GP : List Int32 := [4, 9, 5, 3, 2, 10, 6, 8]
def tbls : List (String × List Int32) := [("SIX_MINUS", k_SM), ("SIX_PLUS", k_SP), ("FOUR_MINUS", k_FM), ("FOUR_PLUS", k_FP), ("SIGN_FOUR_MINUS", k_GM), ("SIGN_FOUR_PLUS", k_GP)]
def tb_one (n : String) (r : List Int32) (A : Nat → Prop) (U : State) (H : Heap) : Prop := ∃ t : Nat, va_Z "CodedGroups$Code" n "[I" (.ref t) A U H ∧ va_T .int t r.length (fun j => .int (r.getD j 0)) A U H
/-- the environment: nest words and static tables, outside A -/
def ev (A : Nat → Prop) (U : State) (H : Heap) : Prop := (∀ w ∈ nestW, va_Nw w U) ∧ ∀ q ∈ tbls, tb_one q.1 q.2 A U H
theorem ev.calling {A : Nat → Prop} {U : State} {H : Heap} {g : JFrame} {mk : MethodId} {a : Array Value} (h : ev A U H) : ev A (U.calling g mk a) H := by
  refine ⟨fun w hw => va_Nw.same (u := U) (U := U.calling g mk a) (nw_tab (nestW_kind w hw)) rfl (h.1 w hw), fun q hq => ?_⟩
  obtain ⟨t, h1, h2⟩ := h.2 q hq
  exact ⟨t, va_Z.moved (u := U) (U := U.calling g mk a) (Vm.Alike.refl U.vm) h1, va_T.moved (u := U) (U := U.calling g mk a) (Vm.Alike.refl U.vm) h2⟩
theorem ev.warm {A : Nat → Prop} {s U : State} {H : Heap} (h : ev A s H) (hW : s.WarmedH U.vm) : ev A U H := by
  refine ⟨fun w hw => nw_warm (nestW_kind w hw) hW (h.1 w hw), fun q hq => ?_⟩
  obtain ⟨t, h1, h2⟩ := h.2 q hq
  exact ⟨t, va_Z.moved hW.alike h1, va_T.moved hW.alike h2⟩
theorem ev.kept {A : Nat → Prop} {U : State} {H H1 : Heap} (h : ev A U H) (hq : ∀ a : Nat, a < H.size → ¬ A a → H1[a]? = H[a]?) : ev A U H1 := by
  refine ⟨h.1, fun q hq0 => ?_⟩
  obtain ⟨t, h1, h2⟩ := h.2 q hq0
  exact ⟨t, h1.kept hq, h2.kept hq⟩
theorem ev.narrow {A B : Nat → Prop} {U : State} {H : Heap} (h : ev A U H) (hAB : ∀ q, B q → A q) : ev B U H := by
  refine ⟨h.1, fun q hq0 => ?_⟩
  obtain ⟨t, h1, h2⟩ := h.2 q hq0
  exact ⟨t, h1.narrow hAB, h2.narrow hAB⟩
theorem ev.tab {A : Nat → Prop} {s : State} {H : Heap} (hE : ev A s H) (i : Nat) {n : String} {r : List Int32} (h : tbls[i]? = some (n, r)) : ∃ t : Nat, va_Z "CodedGroups$Code" n "[I" (.ref t) A s H ∧ va_T .int t r.length (fun j => .int (r.getD j 0)) A s H := hE.2 _ (List.mem_of_getElem? h)
theorem ev.nest {A : Nat → Prop} {s : State} {H : Heap} {args : Array Value} (hE : ev A s H) (i : Nat) {w : Cond} (h : nestW[i]? = some w) : w.before args s = true := va_Nw.use (nw_tab (nestW_kind _ (List.mem_of_getElem? h))) (hE.1 _ (List.mem_of_getElem? h))
theorem ev.nestW {A : Nat → Prop} {s : State} {H : Heap} (hE : ev A s H) (i : Nat) {w : Cond} (h : nestW[i]? = some w) : va_Nw w s := hE.1 _ (List.mem_of_getElem? h)
theorem fm_of {α β : Type} {f : α → Option β} : ∀ {l : List α} {w : List β}, l.map f = w.map some → l.filterMap f = w
  | [], [], _ => rfl
  | [], _ :: _, h => by simp at h
  | _ :: _, [], h => by simp at h
  | a :: l, b :: w, h => by
    simp only [List.map_cons, List.cons.injEq] at h
    rw [List.filterMap_cons_some h.1, fm_of h.2]
def kP (D : va_G) (ty : List (ClassId × FieldType)) (av : List Value) (wc : va_W) (sz : Nat) : Array Value → State → Prop := va_Pc av (fun U => U.heap.size = sz ∧ ev (va_A wc sz) U U.heap ∧ va_P D vwCl wc U.heap ∧ va_K D vwCl ty U ∧ va_D (fun _ => True) wc)
def kB (D : va_G) (ty : List (ClassId × FieldType)) (A : Nat → Prop) (w1 : va_W) (_ : Unit) (t : State) : Prop := va_P D vwCl w1 t.heap ∧ va_K D vwCl ty t ∧ va_D A w1
def kQi (D : va_G) (ty : List (ClassId × FieldType)) (A : Nat → Prop) (r : Int32) (w1 : va_W) : Array Value → State → Outcome → State → Prop := va_Qi (fun (r' : Int32) (_ : Unit) => r' = r) (kB D ty A w1) A
def kQv (D : va_G) (ty : List (ClassId × FieldType)) (A : Nat → Prop) (w1 : va_W) : Array Value → State → Outcome → State → Prop := va_Qv (fun (_ : Unit) => True) (kB D ty A w1) A
/-- a contract with one answer: from the cells wc to the cells w1, answering r -/
def CtI (l : Launch) (y : MethodName) (ws : List Cond) (rm : Room) (D : va_G) (ty : List (ClassId × FieldType)) (av : List Value) (r : Int32) (wc w1 : va_W) : Prop := ∀ sz : Nat, Met l y ws rm (kP D ty av wc sz) (kQi D ty (va_A wc sz) r w1) 0 0 (va_A wc sz)
def CtV (l : Launch) (y : MethodName) (ws : List Cond) (rm : Room) (D : va_G) (ty : List (ClassId × FieldType)) (av : List Value) (wc w1 : va_W) : Prop := ∀ sz : Nat, Met l y ws rm (kP D ty av wc sz) (kQv D ty (va_A wc sz) w1) 0 0 (va_A wc sz)
theorem kP_blind {D : va_G} {ty : List (ClassId × FieldType)} {av : List Value} {wc : va_W} {sz : Nat} : FrameBlind (kP D ty av wc sz) := fun a U g mk q => by
  obtain ⟨q0, q1, qE, qP, qK, qD⟩ := q
  exact ⟨q0, q1, qE.calling, qP, va_K.moved (u := U) (U := U.calling g mk a) (Vm.Alike.refl U.vm) qK, qD⟩
theorem kpre {D : va_G} {ty : List (ClassId × FieldType)} {s : State} {H : Heap} {A : Nat → Prop} {wsx wc : va_W} {locs : List Loc} (av : List Value) (hE : ev A s s.heap) (hK : va_K D vwCl ty s) (hP : va_P D vwCl wsx H) (hD : va_D A wsx) (hS : va_S A s.heap H locs) (hA : ∀ q, s.heap.size ≤ q → A q) (isC : List Nat) (hC : isC.map (fun i => wsx[i]?) = wc.map some) (hn : va_nd isC = true) :
    ∀ U : State, U.heap = H → s.WarmedH U.vm → kP D ty av wc H.size av.toArray U := by
  intro U hU hW
  have hF := va_free (wc := wc) hD hS hA isC hC
  refine ⟨rfl, by rw [hU], ?_, by rw [hU]; exact hP.sub isC (fm_of hC), va_K.moved hW.alike hK, (hD.sub isC hn hC).weaken (fun _ _ _ _ => trivial)⟩
  rw [hU]
  exact ((hE.kept hS.2.1).narrow hF).warm hW
theorem CtI.of {l : Launch} {y : MethodName} {ws ws' : List Cond} {rm : Room} {D : va_G} {ty : List (ClassId × FieldType)} {av : List Value} {r : Int32} {wc w1 : va_W} {cc : ByteArray} {maxL : Nat} {ret : Option FieldType} (hy : plainName y.cls = true) (hw : ws = Cond.code y cc maxL ret :: ws') (hlen : (lg_sl av).length ≤ maxL)
    (body : ∀ (p : Program) (e : Env) (s : State) (m : MethodId) (below : List Frame) (meth : Method) (c : Code) (A : Nat → Prop) (ls : Array Slot), p.tables.exec = Jvm.exec → c.code = cc → meth.sig.returnType = ret → c.maxLocals = maxL → s.vm.findClass y.cls = some m.cls → (∀ w ∈ ws, w.before av.toArray s = true) → meth.locks = false → ev A s s.heap → va_P D vwCl wc s.heap → va_K D vwCl ty s → va_D A wc → (∀ q, s.heap.size ≤ q → A q) → va_S A s.heap s.heap [] → lv_has ls maxL (lv_args 0 av) →
      W p l e rm s m av.toArray below meth c s.heap [] 0 0 (MQ below (kQi D ty A r w1) av.toArray s 0 0 A) (F0 m 0 ls [])) : CtI l y ws rm D ty av r wc w1 := by
  intro sz
  refine Met.ofW (cc := cc) (maxL := maxL) (ret := ret) hy hw ?_
  intro p e s m args below meth c s₁ B hml hv
  obtain ⟨rfl, hsz, hE, hP, hK, hD0⟩ := hv
  subst hsz
  rw [lg_entry_eq]
  exact body p e s m below meth c _ _ B.exec B.bytes B.returns hml (findClass_of_methodNamed B.named) (atoms_spec (ws := ws) B.pre) B.notSynchronized hE hP hK (hD0.self (sz := s.heap.size)) (fun q h => Or.inr h) va_S.rf (lv_entry av hlen)
theorem CtV.of {l : Launch} {y : MethodName} {ws ws' : List Cond} {rm : Room} {D : va_G} {ty : List (ClassId × FieldType)} {av : List Value} {wc w1 : va_W} {cc : ByteArray} {maxL : Nat} {ret : Option FieldType} (hy : plainName y.cls = true) (hw : ws = Cond.code y cc maxL ret :: ws') (hlen : (lg_sl av).length ≤ maxL)
    (body : ∀ (p : Program) (e : Env) (s : State) (m : MethodId) (below : List Frame) (meth : Method) (c : Code) (A : Nat → Prop) (ls : Array Slot), p.tables.exec = Jvm.exec → c.code = cc → meth.sig.returnType = ret → c.maxLocals = maxL → s.vm.findClass y.cls = some m.cls → (∀ w ∈ ws, w.before av.toArray s = true) → meth.locks = false → ev A s s.heap → va_P D vwCl wc s.heap → va_K D vwCl ty s → va_D A wc → (∀ q, s.heap.size ≤ q → A q) → va_S A s.heap s.heap [] → lv_has ls maxL (lv_args 0 av) →
      W p l e rm s m av.toArray below meth c s.heap [] 0 0 (MQ below (kQv D ty A w1) av.toArray s 0 0 A) (F0 m 0 ls [])) : CtV l y ws rm D ty av wc w1 := by
  intro sz
  refine Met.ofW (cc := cc) (maxL := maxL) (ret := ret) hy hw ?_
  intro p e s m args below meth c s₁ B hml hv
  obtain ⟨rfl, hsz, hE, hP, hK, hD0⟩ := hv
  subst hsz
  rw [lg_entry_eq]
  exact body p e s m below meth c _ _ B.exec B.bytes B.returns hml (findClass_of_methodNamed B.named) (atoms_spec (ws := ws) B.pre) B.notSynchronized hE hP hK (hD0.self (sz := s.heap.size)) (fun q h => Or.inr h) va_S.rf (lv_entry av hlen)
section KR
variable {p : Program} {l : Launch} {e : Env} {R : Room} {s : State} {m : MethodId} {args : Array Value} {below : List Frame} {meth : Method} {c : Code} {H : Heap} {locs : List Loc} {cells slots : Nat} {Q : State → Prop} {D : va_G} {ty : List (ClassId × FieldType)} {A : Nat → Prop} {cc : ByteArray} {pc : Nat} {ls : Array Slot}
theorem kreti {v r : Int32} {wa w1 : va_W} (hx : p.tables.exec = Jvm.exec) (hb : c.code = cc) (hr : meth.sig.returnType = some .int) (hlocks : meth.locks = false) (hS : va_S A s.heap H locs) (hP : va_P D vwCl wa H) (hK : va_K D vwCl ty s) (hD : va_D A wa) (hdg : decode cc pc = .ok (.ireturn, 1)) (hv : v = r) (hw : wa = w1) :
    W p l e R s m args below meth c H locs cells slots (MQ below (kQi D ty A r w1) args s cells slots A) (F0 m pc ls [.int v]) := by
  subst hv
  subst hw
  exact W.iret hx hb hr (fun t ht hW => ⟨⟨v, (), rfl, rfl, by rw [ht]; exact hP, va_K.moved hW.alike hK, hD⟩, hS.F ht⟩) hS.2.2 hdg
theorem kretz {v r : Int32} {wa w1 : va_W} {rt : FieldType} (hx : p.tables.exec = Jvm.exec) (hb : c.code = cc) (hr : meth.sig.returnType = some rt) (hlocks : meth.locks = false) (hS : va_S A s.heap H locs) (hP : va_P D vwCl wa H) (hK : va_K D vwCl ty s) (hD : va_D A wa) (hdg : decode cc pc = .ok (.ireturn, 1)) (hn : narrow rt (.int v) = .int v) (hv : v = r) (hw : wa = w1) :
    W p l e R s m args below meth c H locs cells slots (MQ below (kQi D ty A r w1) args s cells slots A) (F0 m pc ls [.int v]) := by
  subst hv
  subst hw
  exact W.zret hx hb hr hn (fun t ht hW => ⟨⟨v, (), rfl, rfl, by rw [ht]; exact hP, va_K.moved hW.alike hK, hD⟩, hS.F ht⟩) hS.2.2 hdg
theorem kretv {wa w1 : va_W} (hx : p.tables.exec = Jvm.exec) (hb : c.code = cc) (hr : meth.sig.returnType = none) (hlocks : meth.locks = false) (hS : va_S A s.heap H locs) (hP : va_P D vwCl wa H) (hK : va_K D vwCl ty s) (hD : va_D A wa) (hdg : decode cc pc = .ok (.return_, 1)) (hw : wa = w1) :
    W p l e R s m args below meth c H locs cells slots (MQ below (kQv D ty A w1) args s cells slots A) (F0 m pc ls []) := by
  subst hw
  exact W.vret hx hb hr (fun t ht hW => ⟨⟨(), rfl, trivial, by rw [ht]; exact hP, va_K.moved hW.alike hK, hD⟩, hS.F ht⟩) hS.2.2 hdg
variable {wsx wc w1 wr ws' : va_W} {a : Array Value} {st0 rest : List Value}
/-- behind a call that answers a number -/
theorem kcalli {r : Int32} (hr : va_Run p l e R s m args below meth c H locs cells slots 0 0 (F0 m pc ls st0) rest (kQi D ty (va_A wc H.size) r w1 a) (va_A wc H.size)) (hP : va_P D vwCl wsx H) (hD : va_D A wsx) (hS : va_S A s.heap H locs) (hA : ∀ q, s.heap.size ≤ q → A q) (isC isR isP : List Nat) (hC : isC.map (fun i => wsx[i]?) = wc.map some) (hR : isR.map (fun i => wsx[i]?) = wr.map some) (hnR : va_nd isR = true) (hdis : ∀ i ∈ isR, i ∉ isC) (hp1 : isP.map (fun i => (wr ++ w1)[i]?) = ws'.map some) (hnP : va_nd isP = true)
    (kk : ∀ (H : Heap) (locs : List Loc), va_P D vwCl ws' H → va_D A ws' → va_S A s.heap H locs → W p l e R s m args below meth c H locs cells slots Q (F0 m (pc + 3) ls (.int r :: rest))) : W p l e R s m args below meth c H locs cells slots Q (F0 m pc ls st0) := by
  have hF := va_free (wc := wc) hD hS hA isC hC
  refine va_calli hr hS (fun q _ h => hF q h) hF (fun r' u t H1 locs1 ht hvm hw hB hz hk hS1 => ?_)
  obtain ⟨hP1, hK1, hD1⟩ := hB
  subst hw
  rw [ht] at hP1
  obtain ⟨hPj, hDj⟩ := va_join hP hD isC isR hC hR hnR hdis hk hF hP1 hD1
  exact kk H1 locs1 (hPj.sub isP (fm_of hp1)) (hDj.sub isP hnP hp1) hS1
theorem kcallv (hr : va_Run p l e R s m args below meth c H locs cells slots 0 0 (F0 m pc ls st0) rest (kQv D ty (va_A wc H.size) w1 a) (va_A wc H.size)) (hP : va_P D vwCl wsx H) (hD : va_D A wsx) (hS : va_S A s.heap H locs) (hA : ∀ q, s.heap.size ≤ q → A q) (isC isR isP : List Nat) (hC : isC.map (fun i => wsx[i]?) = wc.map some) (hR : isR.map (fun i => wsx[i]?) = wr.map some) (hnR : va_nd isR = true) (hdis : ∀ i ∈ isR, i ∉ isC) (hp1 : isP.map (fun i => (wr ++ w1)[i]?) = ws'.map some) (hnP : va_nd isP = true)
    (kk : ∀ (H : Heap) (locs : List Loc), va_P D vwCl ws' H → va_D A ws' → va_S A s.heap H locs → W p l e R s m args below meth c H locs cells slots Q (F0 m (pc + 3) ls rest)) : W p l e R s m args below meth c H locs cells slots Q (F0 m pc ls st0) := by
  have hF := va_free (wc := wc) hD hS hA isC hC
  refine va_callv hr hS (fun q _ h => hF q h) hF (fun u t H1 locs1 ht hvm hw hB hz hk hS1 => ?_)
  obtain ⟨hP1, hK1, hD1⟩ := hB
  rw [ht] at hP1
  obtain ⟨hPj, hDj⟩ := va_join hP hD isC isR hC hR hnR hdis hk hF hP1 hD1
  exact kk H1 locs1 (hPj.sub isP (fm_of hp1)) (hDj.sub isP hnP hp1) hS1
/-- behind a call that touches no cell -/
theorem kcall0 {r : Int32} (hr : va_Run p l e R s m args below meth c H locs cells slots 0 0 (F0 m pc ls st0) rest (kQi D ty (va_A [] H.size) r [] a) (va_A [] H.size)) (hP : va_P D vwCl wsx H) (hS : va_S A s.heap H locs) (hA : ∀ q, s.heap.size ≤ q → A q)
    (kk : ∀ (H : Heap) (locs : List Loc), va_P D vwCl wsx H → va_S A s.heap H locs → W p l e R s m args below meth c H locs cells slots Q (F0 m (pc + 3) ls (.int r :: rest))) : W p l e R s m args below meth c H locs cells slots Q (F0 m pc ls st0) := by
  have hF : ∀ q, va_A [] H.size q → A q := fun q h => by
    rcases h with ⟨k, e0, h⟩ | h
    · simp at h
    · exact hA q (Nat.le_trans hS.1 h)
  refine va_calli hr hS (fun q _ h => hF q h) hF (fun r' u t H1 locs1 ht hvm hw hB hz hk hS1 => ?_)
  subst hw
  refine kk H1 locs1 (hP.kept (fun k q hq => ?_)) hS1
  have hlt : q.1 < H.size := (hP k q hq).lt
  exact hk q.1 hlt (fun h => by
    rcases h with ⟨k, e0, h⟩ | h
    · simp at h
    · exact absurd hlt (Nat.not_lt.mpr h))
variable {Ts wsm : List Cond} {nL maxL index n : Nat} {own C : String} {y : MethodName} {bytes : ByteArray} {ret : Option FieldType} {rm : Room} {b : Nat} {As : List Value}
theorem krunV {r : Int32} (S : CallFix p m c cc nL s args Ts own) (hM : CtI l y wsm rm D ty (.ref b :: As) r wc w1) (cw : CallW R s args own C index y bytes maxL ret wsm rm 0 0 n) (hE : ev A s s.heap) (hK : va_K D vwCl ty s) (hP : va_P D vwCl wsx H) (hD : va_D A wsx) (hS : va_S A s.heap H locs) (hA : ∀ q, s.heap.size ≤ q → A q) (isC : List Nat) (hC : isC.map (fun i => wsx[i]?) = wc.map some) (hnC : va_nd isC = true) {q0 ci N : Nat} {T : u_T} {fs : List Value} (hc : vwCl[ci]? = some (C, T, N)) (he : wsx[q0]? = some (b, .inr (ci, fs)))
    (hn : As.length = n) (hsize : ls.size = nL) (hstack : st0 = As.reverse ++ .ref b :: rest) (hW : (rest.map fun v => v.category).sum ≤ 8) (hdg : decode cc pc = .ok (.invokevirtual index, 3)) (hf : cells ≤ R.cells ∧ slots ≤ R.slots) :
    va_Run p l e R s m args below meth c H locs cells slots 0 0 (F0 m pc ls st0) rest (kQi D ty (va_A wc H.size) r w1 (Value.ref b :: As).toArray) (va_A wc H.size) :=
  va_runV S (hM H.size) cw ⟨kP_blind, va_recv hK hP hc he, kpre (.ref b :: As) hE hK hP hD hS hA isC hC hnC⟩ rfl hn hsize hstack (lv_room hW) hdg hf
theorem krunVv (S : CallFix p m c cc nL s args Ts own) (hM : CtV l y wsm rm D ty (.ref b :: As) wc w1) (cw : CallW R s args own C index y bytes maxL ret wsm rm 0 0 n) (hE : ev A s s.heap) (hK : va_K D vwCl ty s) (hP : va_P D vwCl wsx H) (hD : va_D A wsx) (hS : va_S A s.heap H locs) (hA : ∀ q, s.heap.size ≤ q → A q) (isC : List Nat) (hC : isC.map (fun i => wsx[i]?) = wc.map some) (hnC : va_nd isC = true) {q0 ci N : Nat} {T : u_T} {fs : List Value} (hc : vwCl[ci]? = some (C, T, N)) (he : wsx[q0]? = some (b, .inr (ci, fs)))
    (hn : As.length = n) (hsize : ls.size = nL) (hstack : st0 = As.reverse ++ .ref b :: rest) (hW : (rest.map fun v => v.category).sum ≤ 8) (hdg : decode cc pc = .ok (.invokevirtual index, 3)) (hf : cells ≤ R.cells ∧ slots ≤ R.slots) :
    va_Run p l e R s m args below meth c H locs cells slots 0 0 (F0 m pc ls st0) rest (kQv D ty (va_A wc H.size) w1 (Value.ref b :: As).toArray) (va_A wc H.size) :=
  va_runV S (hM H.size) cw ⟨kP_blind, va_recv hK hP hc he, kpre (.ref b :: As) hE hK hP hD hS hA isC hC hnC⟩ rfl hn hsize hstack (lv_room hW) hdg hf
theorem krunS {r : Int32} (S : CallFix p m c cc nL s args Ts own) (hM : CtI l y wsm rm D ty As r wc w1) (cw : CallB R s args own index y bytes maxL ret wsm rm 0 0 n ∧ (Cond.static y).before args s = true) (hE : ev A s s.heap) (hK : va_K D vwCl ty s) (hP : va_P D vwCl wsx H) (hD : va_D A wsx) (hS : va_S A s.heap H locs) (hA : ∀ q, s.heap.size ≤ q → A q) (isC : List Nat) (hC : isC.map (fun i => wsx[i]?) = wc.map some) (hnC : va_nd isC = true)
    (hn : As.length = n) (hsize : ls.size = nL) (hstack : st0 = As.reverse ++ rest) (hW : (rest.map fun v => v.category).sum ≤ 8) (hdg : decode cc pc = .ok (.invokestatic index, 3)) (hf : cells ≤ R.cells ∧ slots ≤ R.slots) :
    va_Run p l e R s m args below meth c H locs cells slots 0 0 (F0 m pc ls st0) rest (kQi D ty (va_A wc H.size) r w1 As.toArray) (va_A wc H.size) :=
  va_runS S (hM H.size) cw ⟨kP_blind, kpre As hE hK hP hD hS hA isC hC hnC⟩ rfl hn hsize hstack (lv_room hW) hdg hf
theorem kcalliU {σ : Type} (u0 : σ) (rf : σ → Int32) (w1f wsf : σ → va_W) (hr : va_Run p l e R s m args below meth c H locs cells slots 0 0 (F0 m pc ls st0) rest (kQi D ty (va_A wc H.size) (rf u0) (w1f u0) a) (va_A wc H.size)) (hP : va_P D vwCl wsx H) (hD : va_D A wsx) (hS : va_S A s.heap H locs) (hA : ∀ q, s.heap.size ≤ q → A q) (isC isR isP : List Nat) (hC : isC.map (fun i => wsx[i]?) = wc.map some) (hR : isR.map (fun i => wsx[i]?) = wr.map some) (hnR : va_nd isR = true) (hdis : ∀ i ∈ isR, i ∉ isC) (hp1 : ∀ u, isP.map (fun i => (wr ++ w1f u)[i]?) = (wsf u).map some) (hnP : va_nd isP = true)
    (kk : ∀ (u : σ), u0 = u → ∀ (H : Heap) (locs : List Loc), va_P D vwCl (wsf u) H → va_D A (wsf u) → va_S A s.heap H locs → W p l e R s m args below meth c H locs cells slots Q (F0 m (pc + 3) ls (.int (rf u) :: rest))) : W p l e R s m args below meth c H locs cells slots Q (F0 m pc ls st0) :=
  kcalli hr hP hD hS hA isC isR isP hC hR hnR hdis (hp1 u0) hnP (fun H locs h1 h2 h3 => kk u0 rfl H locs h1 h2 h3)
theorem kcallvU {σ : Type} (u0 : σ) (w1f wsf : σ → va_W) (hr : va_Run p l e R s m args below meth c H locs cells slots 0 0 (F0 m pc ls st0) rest (kQv D ty (va_A wc H.size) (w1f u0) a) (va_A wc H.size)) (hP : va_P D vwCl wsx H) (hD : va_D A wsx) (hS : va_S A s.heap H locs) (hA : ∀ q, s.heap.size ≤ q → A q) (isC isR isP : List Nat) (hC : isC.map (fun i => wsx[i]?) = wc.map some) (hR : isR.map (fun i => wsx[i]?) = wr.map some) (hnR : va_nd isR = true) (hdis : ∀ i ∈ isR, i ∉ isC) (hp1 : ∀ u, isP.map (fun i => (wr ++ w1f u)[i]?) = (wsf u).map some) (hnP : va_nd isP = true)
    (kk : ∀ (u : σ), u0 = u → ∀ (H : Heap) (locs : List Loc), va_P D vwCl (wsf u) H → va_D A (wsf u) → va_S A s.heap H locs → W p l e R s m args below meth c H locs cells slots Q (F0 m (pc + 3) ls rest)) : W p l e R s m args below meth c H locs cells slots Q (F0 m pc ls st0) :=
  kcallv hr hP hD hS hA isC isR isP hC hR hnR hdis (hp1 u0) hnP (fun H locs h1 h2 h3 => kk u0 rfl H locs h1 h2 h3)
end KR
theorem nar_b {v : Int32} (h : v = 0 ∨ v = 1) : narrow .boolean (.int v) = .int v := by rcases h with rfl | rfl <;> rfl
theorem fit_b {v : Int32} (h : v = 0 ∨ v = 1) : fits .boolean (.int v) = true := by rcases h with rfl | rfl <;> rfl
theorem i_nlt0 {x : Int32} (h : ¬ x < 0) : 0 ≤ x.toInt := by
  rw [Int32.lt_iff_toInt_lt, Int32.toInt_zero] at h
  omega
theorem i_nlt {x y : Int32} (h : ¬ x < y) : y.toInt ≤ x.toInt := by
  rw [Int32.lt_iff_toInt_lt] at h
  omega
theorem i_lt {x y : Int32} (h : x < y) : x.toInt < y.toInt := Int32.lt_iff_toInt_lt.mp h
theorem i_le {x y : Int32} (h : x ≤ y) : x.toInt ≤ y.toInt := Int32.le_iff_toInt_le.mp h
theorem i_nle {x y : Int32} (h : ¬ x ≤ y) : y.toInt < x.toInt := by
  rw [Int32.le_iff_toInt_le] at h
  omega
def letv {α : Type} (e : Int32) (f : Int32 → α) : α := f e
theorem letv_eq {α : Type} {x e : Int32} (h : x = e) {f : Int32 → α} : letv e f = f x := by rw [h]; rfl
theorem i_inc (x : Int32) (h : x.toInt < 2147483647) : (x + 1).toInt = x.toInt + 1 := by
  have h1 := Int32.minValue_le_toInt x
  rw [Int32.toInt_add]
  have z : (1 : Int32).toInt = 1 := rfl
  rw [z]
  have z2 : Int32.minValue.toInt = -2147483648 := rfl
  rw [Int.bmod_eq_of_le] <;> omega
theorem i_dec (x : Int32) (h : -2147483648 < x.toInt) : (x + (-1)).toInt = x.toInt - 1 := by
  have h1 := Int32.toInt_le x
  rw [Int32.toInt_add]
  have z : (-1 : Int32).toInt = -1 := rfl
  rw [z]
  have z3 : Int32.maxValue.toInt = 2147483647 := rfl
  rw [Int.bmod_eq_of_le] <;> omega
theorem i_sub (x y : Int32) (h : -2147483648 ≤ x.toInt - y.toInt ∧ x.toInt - y.toInt ≤ 2147483647) : (x - y).toInt = x.toInt - y.toInt := by
  rw [Int32.toInt_sub]
  rw [Int.bmod_eq_of_le] <;> omega
theorem i_add (x y : Int32) (h : -2147483648 ≤ x.toInt + y.toInt ∧ x.toInt + y.toInt ≤ 2147483647) : (x + y).toInt = x.toInt + y.toInt := by
  rw [Int32.toInt_add]
  rw [Int.bmod_eq_of_le] <;> omega
theorem i_mul (x y : Int32) (h : -2147483648 ≤ x.toInt * y.toInt ∧ x.toInt * y.toInt ≤ 2147483647) : (x * y).toInt = x.toInt * y.toInt := by
  rw [Int32.toInt_mul]
  rw [Int.bmod_eq_of_le] <;> omega
theorem i_cl (x : Int32) : x.toNatClampNeg = x.toInt.toNat := rfl
theorem i_nn {x : Int32} (h : 0 ≤ x.toInt) : ¬ x < 0 := by
  rw [Int32.lt_iff_toInt_lt, Int32.toInt_zero]
  omega
theorem i_eq {x y : Int32} (h : x.toInt = y.toInt) : x = y := Int32.toInt_inj.mp h
theorem i_bnd (x : Int32) : -2147483648 ≤ x.toInt ∧ x.toInt ≤ 2147483647 := ⟨Int32.le_toInt x, Int32.toInt_le x⟩
theorem fit_bit {v : Int32} (h : v = 0 ∨ v = 1) : fits .byte (.int v) = true := by rcases h with rfl | rfl <;> rfl

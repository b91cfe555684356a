/-! constructors -/
theorem ty_uB {D : va_G} {cB cI cZ cA : ClassId} {s : State} (h : va_K D vwCl (tyv cB cI cZ ++ [(cA, .byte)]) s) : cA = cB := by
  have a : s.vm.findClass ("[" ++ FieldType.byte.toString) = some cB := (h.2 0 (cB, .byte) rfl).2
  have b : s.vm.findClass ("[" ++ FieldType.byte.toString) = some cA := (h.2 3 (cA, .byte) rfl).2
  exact Option.some.inj (b.symm.trans a)
theorem ty_uI {D : va_G} {cB cI cZ cA : ClassId} {s : State} (h : va_K D vwCl (tyv cB cI cZ ++ [(cA, .int)]) s) : cA = cI := by
  have a : s.vm.findClass ("[" ++ FieldType.int.toString) = some cI := (h.2 1 (cI, .int) rfl).2
  have b : s.vm.findClass ("[" ++ FieldType.int.toString) = some cA := (h.2 3 (cA, .int) rfl).2
  exact Option.some.inj (b.symm.trans a)
theorem ty_uZ {D : va_G} {cB cI cZ cA : ClassId} {s : State} (h : va_K D vwCl (tyv cB cI cZ ++ [(cA, .boolean)]) s) : cA = cZ := by
  have a : s.vm.findClass ("[" ++ FieldType.boolean.toString) = some cZ := (h.2 2 (cZ, .boolean) rfl).2
  have b : s.vm.findClass ("[" ++ FieldType.boolean.toString) = some cA := (h.2 3 (cA, .boolean) rfl).2
  exact Option.some.inj (b.symm.trans a)
def kBn {σ : Type} (D : va_G) (ty : List (ClassId × FieldType)) (A : Nat → Prop) (w1 : σ → va_W) (u : σ) (t : State) : Prop := va_P D vwCl (w1 u) t.heap ∧ va_K D vwCl ty t ∧ va_D A (w1 u)
/-- a constructor's contract: new cells, named by u -/
def CtN {σ : Type} (l : Launch) (y : MethodName) (ws : List Cond) (rm : Room) (D : va_G) (ty : List (ClassId × FieldType)) (av : List Value) (wc : va_W) (post : σ → Prop) (w1 : σ → va_W) (mc ms : Nat) : Prop := ∀ sz : Nat, Met l y ws rm (kP D ty av wc sz) (va_Qv post (kBn D ty (va_A wc sz) w1) (va_A wc sz)) mc ms (va_A wc sz)
theorem CtN.of {σ : Type} {l : Launch} {y : MethodName} {ws ws' : List Cond} {rm : Room} {D : va_G} {ty : List (ClassId × FieldType)} {av : List Value} {wc : va_W} {post : σ → Prop} {w1 : σ → va_W} {mc ms : Nat} {cc : ByteArray} {maxL : Nat} {ret : Option FieldType} (hy : plainName y.cls = true) (hni : y.name = "<init>") (hw : ws = Cond.code y cc maxL ret :: ws') (hlen : (lg_sl av).length ≤ maxL)
    (body : ∀ (p : Program) (e : Env) (s : State) (m : MethodId) (below : List Frame) (meth : Method) (c : Code) (A : Nat → Prop) (ls : Array Slot), p.tables.exec = Jvm.exec → c.code = cc → meth.sig.returnType = ret → c.maxLocals = maxL → s.vm.findClass y.cls = some m.cls → (∀ w ∈ ws, w.before av.toArray s = true) → meth.locks = false → meth.name = "<init>" → ev A s s.heap → va_P D vwCl wc s.heap → va_K D vwCl ty s → va_D A wc → (∀ q, s.heap.size ≤ q → A q) → va_S A s.heap s.heap [] → lv_has ls maxL (lv_args 0 av) →
      W p l e rm s m av.toArray below meth c s.heap [] 0 0 (MQ below (va_Qv post (kBn D ty A w1) A) av.toArray s mc ms A) (F0 m 0 ls [])) : CtN l y ws rm D ty av wc post w1 mc ms := by
  intro sz
  refine Met.ofW (cc := cc) (maxL := maxL) (ret := ret) hy hw ?_
  intro p e s m args below meth c s₁ B hml hv
  obtain ⟨rfl, hsz, hE, hP, hK, hD0⟩ := hv
  subst hsz
  rw [lg_entry_eq]
  exact body p e s m below meth c _ _ B.exec B.bytes B.returns hml (findClass_of_methodNamed B.named) (atoms_spec (ws := ws) B.pre) B.notSynchronized ((name_of_methodNamed B.named B.method).1.trans hni) hE hP hK (hD0.self (sz := s.heap.size)) (fun q h => Or.inr h) va_S.rf (lv_entry av hlen)
section KN
variable {p : Program} {l : Launch} {e : Env} {R : Room} {s : State} {m : MethodId} {args : Array Value} {below : List Frame} {meth : Method} {c : Code} {H : Heap} {locs : List Loc} {cells slots : Nat} {Q : State → Prop} {D : va_G} {cB cI cZ : ClassId} {ty : List (ClassId × FieldType)} {A : Nat → Prop} {cc : ByteArray} {pc : Nat} {ls : Array Slot} {wsx wc wr : va_W} {a : Array Value} {st0 rest : List Value}
theorem knew_byte (hx : p.tables.exec = Jvm.exec) (hb : c.code = cc) (harr : (Cond.arrayClass .byte).before args s = true) (hK : va_K D vwCl (tyv cB cI cZ) s) (hP : va_P D vwCl wsx H) (hD : va_D A wsx) (hS : va_S A s.heap H locs) (hA : ∀ q, s.heap.size ≤ q → A q) {n : Int32} {N : Nat} (hn : ¬ n < 0) (hN : n.toNatClampNeg = N) (hbytes : N * componentBytes .byte ≤ 536870912) (hcells : cells + 1 ≤ R.cells) (hslots : slots + N ≤ R.slots) (hdg : decode cc pc = .ok (.newarray .byte, 2))
    (kk : ∀ (q : Nat) (H : Heap), va_P D vwCl (wsx ++ [(q, .inl (cB, N, .inl (fun _ => 0)))]) H → va_D A (wsx ++ [(q, .inl (cB, N, .inl (fun _ => 0)))]) → va_S A s.heap H locs → W p l e R s m args below meth c H locs (cells + 1) (slots + N) Q (F0 m (pc + 2) ls (.ref q :: rest))) : W p l e R s m args below meth c H locs cells slots Q (F0 m pc ls (.int n :: rest)) := by
  refine va_newa hx hb (atype := .byte) harr rfl hK hP hD hS hA (a0 := (N, .inl (fun _ => 0))) (fun _ => rfl) hn hN hbytes hcells hslots hdg (fun q cA H1 hK' hP' hD' hS' => ?_)
  obtain rfl := ty_uB hK'
  exact kk q H1 hP' hD' hS'
theorem knew_int (hx : p.tables.exec = Jvm.exec) (hb : c.code = cc) (harr : (Cond.arrayClass .int).before args s = true) (hK : va_K D vwCl (tyv cB cI cZ) s) (hP : va_P D vwCl wsx H) (hD : va_D A wsx) (hS : va_S A s.heap H locs) (hA : ∀ q, s.heap.size ≤ q → A q) {n : Int32} {N : Nat} (hn : ¬ n < 0) (hN : n.toNatClampNeg = N) (hbytes : N * componentBytes .int ≤ 536870912) (hcells : cells + 1 ≤ R.cells) (hslots : slots + N ≤ R.slots) (hdg : decode cc pc = .ok (.newarray .int, 2))
    (kk : ∀ (q : Nat) (H : Heap), va_P D vwCl (wsx ++ [(q, .inl (cI, N, .inl (fun _ => 0)))]) H → va_D A (wsx ++ [(q, .inl (cI, N, .inl (fun _ => 0)))]) → va_S A s.heap H locs → W p l e R s m args below meth c H locs (cells + 1) (slots + N) Q (F0 m (pc + 2) ls (.ref q :: rest))) : W p l e R s m args below meth c H locs cells slots Q (F0 m pc ls (.int n :: rest)) := by
  refine va_newa hx hb (atype := .int) harr rfl hK hP hD hS hA (a0 := (N, .inl (fun _ => 0))) (fun _ => rfl) hn hN hbytes hcells hslots hdg (fun q cA H1 hK' hP' hD' hS' => ?_)
  obtain rfl := ty_uI hK'
  exact kk q H1 hP' hD' hS'
theorem knew_boolean (hx : p.tables.exec = Jvm.exec) (hb : c.code = cc) (harr : (Cond.arrayClass .boolean).before args s = true) (hK : va_K D vwCl (tyv cB cI cZ) s) (hP : va_P D vwCl wsx H) (hD : va_D A wsx) (hS : va_S A s.heap H locs) (hA : ∀ q, s.heap.size ≤ q → A q) {n : Int32} {N : Nat} (hn : ¬ n < 0) (hN : n.toNatClampNeg = N) (hbytes : N * componentBytes .boolean ≤ 536870912) (hcells : cells + 1 ≤ R.cells) (hslots : slots + N ≤ R.slots) (hdg : decode cc pc = .ok (.newarray .boolean, 2))
    (kk : ∀ (q : Nat) (H : Heap), va_P D vwCl (wsx ++ [(q, .inl (cZ, N, .inl (fun _ => 0)))]) H → va_D A (wsx ++ [(q, .inl (cZ, N, .inl (fun _ => 0)))]) → va_S A s.heap H locs → W p l e R s m args below meth c H locs (cells + 1) (slots + N) Q (F0 m (pc + 2) ls (.ref q :: rest))) : W p l e R s m args below meth c H locs cells slots Q (F0 m pc ls (.int n :: rest)) := by
  refine va_newa hx hb (atype := .boolean) harr rfl hK hP hD hS hA (a0 := (N, .inl (fun _ => 0))) (fun _ => rfl) hn hN hbytes hcells hslots hdg (fun q cA H1 hK' hP' hD' hS' => ?_)
  obtain rfl := ty_uZ hK'
  exact kk q H1 hP' hD' hS'
theorem kcalln {σ : Type} {post : σ → Prop} {mc ms : Nat} (w1f wsf : σ → va_W) (hr : va_Run p l e R s m args below meth c H locs cells slots mc ms (F0 m pc ls st0) rest (va_Qv post (kBn D ty (va_A wc H.size) w1f) (va_A wc H.size) a) (va_A wc H.size)) (hP : va_P D vwCl wsx H) (hD : va_D A wsx) (hS : va_S A s.heap H locs) (hA : ∀ q, s.heap.size ≤ q → A q) (isC isR isP : List Nat) (hC : isC.map (fun i => wsx[i]?) = wc.map some) (hR : isR.map (fun i => wsx[i]?) = wr.map some) (hnR : va_nd isR = true) (hdis : ∀ i ∈ isR, i ∉ isC) (hp1 : ∀ u, isP.map (fun i => (wr ++ w1f u)[i]?) = (wsf u).map some) (hnP : va_nd isP = true)
    (kk : ∀ (u : σ), post u → ∀ (H : Heap) (locs : List Loc), va_P D vwCl (wsf u) H → va_D A (wsf u) → va_S A s.heap H locs → W p l e R s m args below meth c H locs (cells + mc) (slots + ms) Q (F0 m (pc + 3) ls rest)) : W p l e R s m args below meth c H locs cells slots Q (F0 m pc ls st0) := by
  have hF := va_free (wc := wc) hD hS hA isC hC
  refine va_callv hr hS (fun q _ h => hF q h) hF (fun u t H1 locs1 ht hvm hw hB hz hk hS1 => ?_)
  obtain ⟨hP1, hK1, hD1⟩ := hB
  rw [ht] at hP1
  obtain ⟨hPj, hDj⟩ := va_join hP hD isC isR hC hR hnR hdis hk hF hP1 hD1
  exact kk u hw H1 locs1 (hPj.sub isP (fm_of (hp1 u))) (hDj.sub isP hnP (hp1 u)) hS1
end KN
theorem pre_zero (L : List Int32) (i v : Int32) (f : Nat → Int32) (hi : i.toNatClampNeg = 0) (hv : L.getD 0 0 = v) : ∀ j, j < 0 + 1 → upd f i.toNatClampNeg v j = L.getD j 0 := by
  intro j hj
  obtain rfl : j = 0 := by omega
  rw [hi, hv]
  exact pk_us
theorem pre_step {L : List Int32} {i : Nat} {g : Nat → Int32} (hp : ∀ j, j < i → g j = L.getD j 0) (ix v : Int32) (hi : ix.toNatClampNeg = i) (hv : L.getD i 0 = v) : ∀ j, j < i + 1 → upd g ix.toNatClampNeg v j = L.getD j 0 := by
  intro j hj
  rw [hi]
  by_cases e : j = i
  · subst e
    rw [hv]
    exact pk_us
  · rw [pk_un e]
    exact hp j (by omega)
def k_six : List Int32 := [39, 24, 29, 34, 45, 18, 49, 49, 53, 10, 41, 41, 25, 25, 56, 7, 57, 6, 37, 37, 21, 21, 52, 52, 13, 13, 44, 44, 28, 28, 23, 40, 27, 36, 35, 35, 19, 19, 50, 50, 11, 11, 42, 42, 26, 26, 58, 5, 51, 12, 38, 38, 22, 22, 54, 9, 14, 14, 46, 17, 30, 33, 43, 20]
def k_four : List Int32 := [11, 4, 9, 9, 5, 5, 12, 3, 13, 2, 10, 10, 6, 6, 14, 1]
def k_sgf : List Int32 := [11, 4, 6, 9, 10, 5, 12, 3, 13, 2, 5, 10, 9, 6, 7, 8]

theorem df_X1 : ∀ j, j < 9 → defaultValue (tyX1 j) = vp_V [.null, .null, .null, .int 0, .int 0, .int 0, .int 0, .int 0, .int 0] j := fun j hj => by rcases (show j = 0 ∨ j = 1 ∨ j = 2 ∨ j = 3 ∨ j = 4 ∨ j = 5 ∨ j = 6 ∨ j = 7 ∨ j = 8 by omega) with rfl | rfl | rfl | rfl | rfl | rfl | rfl | rfl | rfl <;> rfl

theorem df_X2 : ∀ j, j < 2 → defaultValue (tyX2 j) = vp_V [.null, .int 0] j := fun j hj => by rcases (show j = 0 ∨ j = 1 by omega) with rfl | rfl <;> rfl

theorem df_X3 : ∀ j, j < 12 → defaultValue (tyX3 j) = vp_V [.null, .null, .int 0, .int 0, .int 0, .int 0, .int 0, .int 0, .int 0, .int 0, .int 0, .int 0] j := fun j hj => by rcases (show j = 0 ∨ j = 1 ∨ j = 2 ∨ j = 3 ∨ j = 4 ∨ j = 5 ∨ j = 6 ∨ j = 7 ∨ j = 8 ∨ j = 9 ∨ j = 10 ∨ j = 11 by omega) with rfl | rfl | rfl | rfl | rfl | rfl | rfl | rfl | rfl | rfl | rfl | rfl <;> rfl

theorem df_X4 : ∀ j, j < 4 → defaultValue (tyX4 j) = vp_V [.null, .int 0, .int 0, .int 0] j := fun j hj => by rcases (show j = 0 ∨ j = 1 ∨ j = 2 ∨ j = 3 by omega) with rfl | rfl | rfl | rfl <;> rfl

theorem df_X5 : ∀ j, j < 4 → defaultValue (tyX5 j) = vp_V [.null, .int 0, .int 0, .int 0] j := fun j hj => by rcases (show j = 0 ∨ j = 1 ∨ j = 2 ∨ j = 3 by omega) with rfl | rfl | rfl | rfl <;> rfl

theorem df_X6 : ∀ j, j < 3 → defaultValue (tyX6 j) = vp_V [.null, .null, .null] j := fun j hj => by rcases (show j = 0 ∨ j = 1 ∨ j = 2 by omega) with rfl | rfl | rfl <;> rfl

theorem df_X7 : ∀ j, j < 32 → defaultValue (tyX7 j) = vp_V [.null, .null, .null, .null, .int 0, .null, .int 0, .int 0, .int 0, .int 0, .int 0, .int 0, .int 0, .int 0, .int 0, .int 0, .int 0, .int 0, .int 0, .int 0, .null, .int 0, .int 0, .int 0, .int 0, .null, .int 0, .null, .null, .null, .int 0, .int 0] j := fun j hj => by rcases (show j = 0 ∨ j = 1 ∨ j = 2 ∨ j = 3 ∨ j = 4 ∨ j = 5 ∨ j = 6 ∨ j = 7 ∨ j = 8 ∨ j = 9 ∨ j = 10 ∨ j = 11 ∨ j = 12 ∨ j = 13 ∨ j = 14 ∨ j = 15 ∨ j = 16 ∨ j = 17 ∨ j = 18 ∨ j = 19 ∨ j = 20 ∨ j = 21 ∨ j = 22 ∨ j = 23 ∨ j = 24 ∨ j = 25 ∨ j = 26 ∨ j = 27 ∨ j = 28 ∨ j = 29 ∨ j = 30 ∨ j = 31 by omega) with rfl | rfl | rfl | rfl | rfl | rfl | rfl | rfl | rfl | rfl | rfl | rfl | rfl | rfl | rfl | rfl | rfl | rfl | rfl | rfl | rfl | rfl | rfl | rfl | rfl | rfl | rfl | rfl | rfl | rfl | rfl | rfl <;> rfl

abbrev rmX2_init : Room := { frames := 1, cells := 1, slots := 8000, locals := 20 }
set_option maxHeartbeats 4000000 in
set_option maxRecDepth 100000 in
theorem c_X2_init (l : Launch) (D : va_G) (cB cI cZ : ClassId) (h : Nat) : CtN l yX2_init wsX2_init rmX2_init D (tyv cB cI cZ) [.ref h] [(h, .inr (1, [.null, .int 0]))] (fun _ : Nat => True) (fun u : Nat => [(h, .inr (1, [.ref u, .int 0])), (u, .inl (cB, 8000, .inl (fun _ => 0)))]) 1 8000 := by
  refine CtN.of (cc := cX2_init) (maxL := 1) (ret := none) (by decide +kernel) rfl rfl (Nat.le_of_ble_eq_true rfl) ?_
  intro p e s m below meth c A ls hx hb hr hml hown hts hlocks hin hE hP hK hD hA hS hl
  have hown : s.vm.findClass RX2 = some m.cls := hown
  have hl : lv_has ls 1 [(0, .ref h)] := hl
  have hP : va_P D vwCl [(h, .inr (1, [.null, .int 0]))] s.heap := hP
  have hD : va_D A [(h, .inr (1, [.null, .int 0]))] := hD
  have hiX2 : ∀ w ∈ wsX20, w ∈ wsX2_init := by decide +kernel
  have k11 := hts (.fieldLink RX2 11 "CodedGroups$Line" "bits" "[B") (by decide +kernel)
  have k15 := hts (.fieldLink RX2 15 "CodedGroups$Line" "held" "I") (by decide +kernel)
  have k3 := hts (.methodLink RX2 3 objectInit) (by decide +kernel)
  have ka_byte := hts (.arrayClass .byte) (by decide +kernel)
  have koi := hts (.instanceMethod objectInit) (by decide +kernel)
  refine lv_aload_n hx hb dX2_init_0 rfl (lv_at hl 0 rfl) ?_
  refine W.objInit hx hb hown k3 koi (hts (.code objectInit ⟨#[0xb1]⟩ 1 none) (List.mem_of_getElem? (i := 3) rfl)) rfl (by rw [hml]; exact hl.1) rfl dX2_init_1 (Nat.le_of_ble_eq_true rfl) (Nat.le_of_ble_eq_true rfl) ?_
  refine W.eq (g2 := F0 m 4 ls []) rfl ?_
  refine lv_aload_n hx hb dX2_init_4 rfl (lv_at hl 0 rfl) ?_
  refine lv_sipush (v := 8000) hx hb dX2_init_5 (by decide) ?_
  refine knew_byte hx hb ka_byte hK hP hD hS hA (N := 8000) (by decide) (by decide) (Nat.le_of_ble_eq_true rfl) (Nat.le_of_ble_eq_true rfl) (Nat.le_of_ble_eq_true rfl) dX2_init_8 (fun q_1 H hP hD hS => ?_)
  have hP : va_P D vwCl [(h, .inr (1, [.null, .int 0])), (q_1, .inl (cB, 8000, .inl (fun _ => 0)))] H := hP
  have hD : va_D A [(h, .inr (1, [.null, .int 0])), (q_1, .inl (cB, 8000, .inl (fun _ => 0)))] := hD
  refine W.widen (k := 1) (n := 8000) (Nat.le_of_ble_eq_true rfl) (Nat.le_of_ble_eq_true rfl) ?_
  refine va_putF (D := D) (ci := 1) (v := .ref q_1) (ty := (.array .byte)) (C := RX2) (T := TX2) (N := 2) hx hb hts hiX2 tyX2 tyX2_ok nmX2 hown hK hP hD hS 0 rfl rfl 0 (by decide) k11 (fun _ h9 => h9) rfl hin rfl (by decide +kernel) rfl rfl (Nat.le_of_ble_eq_true rfl) dX2_init_10 (fun H locs hP hD hS => ?_)
  have hP : va_P D vwCl [(h, .inr (1, [.ref q_1, .int 0])), (q_1, .inl (cB, 8000, .inl (fun _ => 0)))] H := hP
  have hD : va_D A [(h, .inr (1, [.ref q_1, .int 0])), (q_1, .inl (cB, 8000, .inl (fun _ => 0)))] := hD
  refine lv_aload_n hx hb dX2_init_13 rfl (lv_at hl 0 rfl) ?_
  refine lv_iconst (v := 0) hx hb dX2_init_14 (by decide) ?_
  refine va_put (D := D) (ci := 1) (v := .int 0) (ty := .int) (C := RX2) (T := TX2) (N := 2) hx hb hts hiX2 tyX2 tyX2_ok nmX2 hown hK hP hD hS 0 rfl rfl 1 (by decide) k15 (fun _ h9 => h9) rfl (by decide +kernel) rfl rfl (Nat.le_of_ble_eq_true rfl) dX2_init_15 (fun H locs hP hD hS => ?_)
  have hP : va_P D vwCl [(h, .inr (1, [.ref q_1, .int 0])), (q_1, .inl (cB, 8000, .inl (fun _ => 0)))] H := hP
  have hD : va_D A [(h, .inr (1, [.ref q_1, .int 0])), (q_1, .inl (cB, 8000, .inl (fun _ => 0)))] := hD
  exact W.vret hx hb hr (fun t ht hW => ⟨⟨q_1, rfl, trivial, by rw [ht]; exact hP, va_K.moved hW.alike hK, hD⟩, hS.F ht⟩) hS.2.2 dX2_init_18

abbrev rmX4_init : Room := { frames := 1, cells := 1, slots := 400, locals := 20 }
set_option maxHeartbeats 4000000 in
set_option maxRecDepth 100000 in
theorem c_X4_init (l : Launch) (D : va_G) (cB cI cZ : ClassId) (h : Nat) : CtN l yX4_init wsX4_init rmX4_init D (tyv cB cI cZ) [.ref h] [(h, .inr (3, [.null, .int 0, .int 0, .int 0]))] (fun _ : Nat => True) (fun u : Nat => [(h, .inr (3, [.ref u, .int 0, .int (-1), .int 0])), (u, .inl (cI, 400, .inl (fun _ => 0)))]) 1 400 := by
  refine CtN.of (cc := cX4_init) (maxL := 1) (ret := none) (by decide +kernel) rfl rfl (Nat.le_of_ble_eq_true rfl) ?_
  intro p e s m below meth c A ls hx hb hr hml hown hts hlocks hin hE hP hK hD hA hS hl
  have hown : s.vm.findClass RX4 = some m.cls := hown
  have hl : lv_has ls 1 [(0, .ref h)] := hl
  have hP : va_P D vwCl [(h, .inr (3, [.null, .int 0, .int 0, .int 0]))] s.heap := hP
  have hD : va_D A [(h, .inr (3, [.null, .int 0, .int 0, .int 0]))] := hD
  have hiX4 : ∀ w ∈ wsX40, w ∈ wsX4_init := by decide +kernel
  have k11 := hts (.fieldLink RX4 11 "CodedGroups$Sender" "tape" "[I") (by decide +kernel)
  have k15 := hts (.fieldLink RX4 15 "CodedGroups$Sender" "taped" "I") (by decide +kernel)
  have k19 := hts (.fieldLink RX4 19 "CodedGroups$Sender" "lean" "I") (by decide +kernel)
  have k22 := hts (.fieldLink RX4 22 "CodedGroups$Sender" "sent" "I") (by decide +kernel)
  have k3 := hts (.methodLink RX4 3 objectInit) (by decide +kernel)
  have ka_int := hts (.arrayClass .int) (by decide +kernel)
  have koi := hts (.instanceMethod objectInit) (by decide +kernel)
  refine lv_aload_n hx hb dX4_init_0 rfl (lv_at hl 0 rfl) ?_
  refine W.objInit hx hb hown k3 koi (hts (.code objectInit ⟨#[0xb1]⟩ 1 none) (List.mem_of_getElem? (i := 3) rfl)) rfl (by rw [hml]; exact hl.1) rfl dX4_init_1 (Nat.le_of_ble_eq_true rfl) (Nat.le_of_ble_eq_true rfl) ?_
  refine W.eq (g2 := F0 m 4 ls []) rfl ?_
  refine lv_aload_n hx hb dX4_init_4 rfl (lv_at hl 0 rfl) ?_
  refine lv_sipush (v := 400) hx hb dX4_init_5 (by decide) ?_
  refine knew_int hx hb ka_int hK hP hD hS hA (N := 400) (by decide) (by decide) (Nat.le_of_ble_eq_true rfl) (Nat.le_of_ble_eq_true rfl) (Nat.le_of_ble_eq_true rfl) dX4_init_8 (fun q_1 H hP hD hS => ?_)
  have hP : va_P D vwCl [(h, .inr (3, [.null, .int 0, .int 0, .int 0])), (q_1, .inl (cI, 400, .inl (fun _ => 0)))] H := hP
  have hD : va_D A [(h, .inr (3, [.null, .int 0, .int 0, .int 0])), (q_1, .inl (cI, 400, .inl (fun _ => 0)))] := hD
  refine W.widen (k := 1) (n := 400) (Nat.le_of_ble_eq_true rfl) (Nat.le_of_ble_eq_true rfl) ?_
  refine va_putF (D := D) (ci := 3) (v := .ref q_1) (ty := (.array .int)) (C := RX4) (T := TX4) (N := 4) hx hb hts hiX4 tyX4 tyX4_ok nmX4 hown hK hP hD hS 0 rfl rfl 0 (by decide) k11 (fun _ h9 => h9) rfl hin rfl (by decide +kernel) rfl rfl (Nat.le_of_ble_eq_true rfl) dX4_init_10 (fun H locs hP hD hS => ?_)
  have hP : va_P D vwCl [(h, .inr (3, [.ref q_1, .int 0, .int 0, .int 0])), (q_1, .inl (cI, 400, .inl (fun _ => 0)))] H := hP
  have hD : va_D A [(h, .inr (3, [.ref q_1, .int 0, .int 0, .int 0])), (q_1, .inl (cI, 400, .inl (fun _ => 0)))] := hD
  refine lv_aload_n hx hb dX4_init_13 rfl (lv_at hl 0 rfl) ?_
  refine lv_iconst (v := 0) hx hb dX4_init_14 (by decide) ?_
  refine va_put (D := D) (ci := 3) (v := .int 0) (ty := .int) (C := RX4) (T := TX4) (N := 4) hx hb hts hiX4 tyX4 tyX4_ok nmX4 hown hK hP hD hS 0 rfl rfl 1 (by decide) k15 (fun _ h9 => h9) rfl (by decide +kernel) rfl rfl (Nat.le_of_ble_eq_true rfl) dX4_init_15 (fun H locs hP hD hS => ?_)
  have hP : va_P D vwCl [(h, .inr (3, [.ref q_1, .int 0, .int 0, .int 0])), (q_1, .inl (cI, 400, .inl (fun _ => 0)))] H := hP
  have hD : va_D A [(h, .inr (3, [.ref q_1, .int 0, .int 0, .int 0])), (q_1, .inl (cI, 400, .inl (fun _ => 0)))] := hD
  refine lv_aload_n hx hb dX4_init_18 rfl (lv_at hl 0 rfl) ?_
  refine lv_iconst (v := (-1)) hx hb dX4_init_19 (by decide) ?_
  refine va_put (D := D) (ci := 3) (v := .int (-1)) (ty := .int) (C := RX4) (T := TX4) (N := 4) hx hb hts hiX4 tyX4 tyX4_ok nmX4 hown hK hP hD hS 0 rfl rfl 2 (by decide) k19 (fun _ h9 => h9) rfl (by decide +kernel) rfl rfl (Nat.le_of_ble_eq_true rfl) dX4_init_20 (fun H locs hP hD hS => ?_)
  have hP : va_P D vwCl [(h, .inr (3, [.ref q_1, .int 0, .int (-1), .int 0])), (q_1, .inl (cI, 400, .inl (fun _ => 0)))] H := hP
  have hD : va_D A [(h, .inr (3, [.ref q_1, .int 0, .int (-1), .int 0])), (q_1, .inl (cI, 400, .inl (fun _ => 0)))] := hD
  refine lv_aload_n hx hb dX4_init_23 rfl (lv_at hl 0 rfl) ?_
  refine lv_iconst (v := 0) hx hb dX4_init_24 (by decide) ?_
  refine va_put (D := D) (ci := 3) (v := .int 0) (ty := .int) (C := RX4) (T := TX4) (N := 4) hx hb hts hiX4 tyX4 tyX4_ok nmX4 hown hK hP hD hS 0 rfl rfl 3 (by decide) k22 (fun _ h9 => h9) rfl (by decide +kernel) rfl rfl (Nat.le_of_ble_eq_true rfl) dX4_init_25 (fun H locs hP hD hS => ?_)
  have hP : va_P D vwCl [(h, .inr (3, [.ref q_1, .int 0, .int (-1), .int 0])), (q_1, .inl (cI, 400, .inl (fun _ => 0)))] H := hP
  have hD : va_D A [(h, .inr (3, [.ref q_1, .int 0, .int (-1), .int 0])), (q_1, .inl (cI, 400, .inl (fun _ => 0)))] := hD
  exact W.vret hx hb hr (fun t ht hW => ⟨⟨q_1, rfl, trivial, by rw [ht]; exact hP, va_K.moved hW.alike hK, hD⟩, hS.F ht⟩) hS.2.2 dX4_init_28

abbrev rmX5_init : Room := { frames := 1, cells := 1, slots := 100, locals := 20 }
set_option maxHeartbeats 4000000 in
set_option maxRecDepth 100000 in
theorem c_X5_init (l : Launch) (D : va_G) (cB cI cZ : ClassId) (h : Nat) : CtN l yX5_init wsX5_init rmX5_init D (tyv cB cI cZ) [.ref h] [(h, .inr (4, [.null, .int 0, .int 0, .int 0]))] (fun _ : Nat => True) (fun u : Nat => [(h, .inr (4, [.ref u, .int 0, .int 0, .int 0])), (u, .inl (cI, 100, .inl (fun _ => 0)))]) 1 100 := by
  refine CtN.of (cc := cX5_init) (maxL := 1) (ret := none) (by decide +kernel) rfl rfl (Nat.le_of_ble_eq_true rfl) ?_
  intro p e s m below meth c A ls hx hb hr hml hown hts hlocks hin hE hP hK hD hA hS hl
  have hown : s.vm.findClass RX5 = some m.cls := hown
  have hl : lv_has ls 1 [(0, .ref h)] := hl
  have hP : va_P D vwCl [(h, .inr (4, [.null, .int 0, .int 0, .int 0]))] s.heap := hP
  have hD : va_D A [(h, .inr (4, [.null, .int 0, .int 0, .int 0]))] := hD
  have hiX5 : ∀ w ∈ wsX50, w ∈ wsX5_init := by decide +kernel
  have k11 := hts (.fieldLink RX5 11 "CodedGroups$SymbolLog" "row" "[I") (by decide +kernel)
  have k15 := hts (.fieldLink RX5 15 "CodedGroups$SymbolLog" "next" "I") (by decide +kernel)
  have k19 := hts (.fieldLink RX5 19 "CodedGroups$SymbolLog" "kept" "I") (by decide +kernel)
  have k22 := hts (.fieldLink RX5 22 "CodedGroups$SymbolLog" "received" "I") (by decide +kernel)
  have k3 := hts (.methodLink RX5 3 objectInit) (by decide +kernel)
  have ka_int := hts (.arrayClass .int) (by decide +kernel)
  have koi := hts (.instanceMethod objectInit) (by decide +kernel)
  refine lv_aload_n hx hb dX5_init_0 rfl (lv_at hl 0 rfl) ?_
  refine W.objInit hx hb hown k3 koi (hts (.code objectInit ⟨#[0xb1]⟩ 1 none) (List.mem_of_getElem? (i := 3) rfl)) rfl (by rw [hml]; exact hl.1) rfl dX5_init_1 (Nat.le_of_ble_eq_true rfl) (Nat.le_of_ble_eq_true rfl) ?_
  refine W.eq (g2 := F0 m 4 ls []) rfl ?_
  refine lv_aload_n hx hb dX5_init_4 rfl (lv_at hl 0 rfl) ?_
  refine lv_bipush (v := 100) hx hb dX5_init_5 (by decide) ?_
  refine knew_int hx hb ka_int hK hP hD hS hA (N := 100) (by decide) (by decide) (Nat.le_of_ble_eq_true rfl) (Nat.le_of_ble_eq_true rfl) (Nat.le_of_ble_eq_true rfl) dX5_init_7 (fun q_1 H hP hD hS => ?_)
  have hP : va_P D vwCl [(h, .inr (4, [.null, .int 0, .int 0, .int 0])), (q_1, .inl (cI, 100, .inl (fun _ => 0)))] H := hP
  have hD : va_D A [(h, .inr (4, [.null, .int 0, .int 0, .int 0])), (q_1, .inl (cI, 100, .inl (fun _ => 0)))] := hD
  refine W.widen (k := 1) (n := 100) (Nat.le_of_ble_eq_true rfl) (Nat.le_of_ble_eq_true rfl) ?_
  refine va_putF (D := D) (ci := 4) (v := .ref q_1) (ty := (.array .int)) (C := RX5) (T := TX5) (N := 4) hx hb hts hiX5 tyX5 tyX5_ok nmX5 hown hK hP hD hS 0 rfl rfl 0 (by decide) k11 (fun _ h9 => h9) rfl hin rfl (by decide +kernel) rfl rfl (Nat.le_of_ble_eq_true rfl) dX5_init_9 (fun H locs hP hD hS => ?_)
  have hP : va_P D vwCl [(h, .inr (4, [.ref q_1, .int 0, .int 0, .int 0])), (q_1, .inl (cI, 100, .inl (fun _ => 0)))] H := hP
  have hD : va_D A [(h, .inr (4, [.ref q_1, .int 0, .int 0, .int 0])), (q_1, .inl (cI, 100, .inl (fun _ => 0)))] := hD
  refine lv_aload_n hx hb dX5_init_12 rfl (lv_at hl 0 rfl) ?_
  refine lv_iconst (v := 0) hx hb dX5_init_13 (by decide) ?_
  refine va_put (D := D) (ci := 4) (v := .int 0) (ty := .int) (C := RX5) (T := TX5) (N := 4) hx hb hts hiX5 tyX5 tyX5_ok nmX5 hown hK hP hD hS 0 rfl rfl 1 (by decide) k15 (fun _ h9 => h9) rfl (by decide +kernel) rfl rfl (Nat.le_of_ble_eq_true rfl) dX5_init_14 (fun H locs hP hD hS => ?_)
  have hP : va_P D vwCl [(h, .inr (4, [.ref q_1, .int 0, .int 0, .int 0])), (q_1, .inl (cI, 100, .inl (fun _ => 0)))] H := hP
  have hD : va_D A [(h, .inr (4, [.ref q_1, .int 0, .int 0, .int 0])), (q_1, .inl (cI, 100, .inl (fun _ => 0)))] := hD
  refine lv_aload_n hx hb dX5_init_17 rfl (lv_at hl 0 rfl) ?_
  refine lv_iconst (v := 0) hx hb dX5_init_18 (by decide) ?_
  refine va_put (D := D) (ci := 4) (v := .int 0) (ty := .int) (C := RX5) (T := TX5) (N := 4) hx hb hts hiX5 tyX5 tyX5_ok nmX5 hown hK hP hD hS 0 rfl rfl 2 (by decide) k19 (fun _ h9 => h9) rfl (by decide +kernel) rfl rfl (Nat.le_of_ble_eq_true rfl) dX5_init_19 (fun H locs hP hD hS => ?_)
  have hP : va_P D vwCl [(h, .inr (4, [.ref q_1, .int 0, .int 0, .int 0])), (q_1, .inl (cI, 100, .inl (fun _ => 0)))] H := hP
  have hD : va_D A [(h, .inr (4, [.ref q_1, .int 0, .int 0, .int 0])), (q_1, .inl (cI, 100, .inl (fun _ => 0)))] := hD
  refine lv_aload_n hx hb dX5_init_22 rfl (lv_at hl 0 rfl) ?_
  refine lv_iconst (v := 0) hx hb dX5_init_23 (by decide) ?_
  refine va_put (D := D) (ci := 4) (v := .int 0) (ty := .int) (C := RX5) (T := TX5) (N := 4) hx hb hts hiX5 tyX5 tyX5_ok nmX5 hown hK hP hD hS 0 rfl rfl 3 (by decide) k22 (fun _ h9 => h9) rfl (by decide +kernel) rfl rfl (Nat.le_of_ble_eq_true rfl) dX5_init_24 (fun H locs hP hD hS => ?_)
  have hP : va_P D vwCl [(h, .inr (4, [.ref q_1, .int 0, .int 0, .int 0])), (q_1, .inl (cI, 100, .inl (fun _ => 0)))] H := hP
  have hD : va_D A [(h, .inr (4, [.ref q_1, .int 0, .int 0, .int 0])), (q_1, .inl (cI, 100, .inl (fun _ => 0)))] := hD
  exact W.vret hx hb hr (fun t ht hW => ⟨⟨q_1, rfl, trivial, by rw [ht]; exact hP, va_K.moved hW.alike hK, hD⟩, hS.F ht⟩) hS.2.2 dX5_init_27

abbrev rmX1_init : Room := { frames := 1, cells := 3, slots := 3157, locals := 20 }
set_option maxHeartbeats 4000000 in
set_option maxRecDepth 100000 in
theorem c_X1_init (l : Launch) (D : va_G) (cB cI cZ : ClassId) (h : Nat) : CtN l yX1_init wsX1_init rmX1_init D (tyv cB cI cZ) [.ref h] [(h, .inr (0, [.null, .null, .null, .int 0, .int 0, .int 0, .int 0, .int 0, .int 0]))] (fun _ : Nat × Nat × Nat => True) (fun u : Nat × Nat × Nat => [(h, .inr (0, [.ref u.1, .ref u.2.1, .ref u.2.2, .int 0, .int 0, .int 0, .int 0, .int 0, .int 0])), (u.1, .inl (cI, 3075, .inl (fun _ => 0))), (u.2.1, .inl (cI, 41, .inl (fun _ => 0))), (u.2.2, .inl (cZ, 41, .inl (fun _ => 0)))]) 3 3157 := by
  refine CtN.of (cc := cX1_init) (maxL := 1) (ret := none) (by decide +kernel) rfl rfl (Nat.le_of_ble_eq_true rfl) ?_
  intro p e s m below meth c A ls hx hb hr hml hown hts hlocks hin hE hP hK hD hA hS hl
  have hown : s.vm.findClass RX1 = some m.cls := hown
  have hl : lv_has ls 1 [(0, .ref h)] := hl
  have hP : va_P D vwCl [(h, .inr (0, [.null, .null, .null, .int 0, .int 0, .int 0, .int 0, .int 0, .int 0]))] s.heap := hP
  have hD : va_D A [(h, .inr (0, [.null, .null, .null, .int 0, .int 0, .int 0, .int 0, .int 0, .int 0]))] := hD
  have hiX1 : ∀ w ∈ wsX10, w ∈ wsX1_init := by decide +kernel
  have k11 := hts (.fieldLink RX1 11 "CodedGroups$FrameShelf" "words" "[I") (by decide +kernel)
  have k15 := hts (.fieldLink RX1 15 "CodedGroups$FrameShelf" "lengths" "[I") (by decide +kernel)
  have k18 := hts (.fieldLink RX1 18 "CodedGroups$FrameShelf" "wholes" "[Z") (by decide +kernel)
  have k22 := hts (.fieldLink RX1 22 "CodedGroups$FrameShelf" "slot" "I") (by decide +kernel)
  have k26 := hts (.fieldLink RX1 26 "CodedGroups$FrameShelf" "kept" "I") (by decide +kernel)
  have k29 := hts (.fieldLink RX1 29 "CodedGroups$FrameShelf" "state" "I") (by decide +kernel)
  have k32 := hts (.fieldLink RX1 32 "CodedGroups$FrameShelf" "broken" "Z") (by decide +kernel)
  have k36 := hts (.fieldLink RX1 36 "CodedGroups$FrameShelf" "ended" "I") (by decide +kernel)
  have k39 := hts (.fieldLink RX1 39 "CodedGroups$FrameShelf" "endedWhole" "I") (by decide +kernel)
  have k5 := hts (.methodLink RX1 5 objectInit) (by decide +kernel)
  have ka_boolean := hts (.arrayClass .boolean) (by decide +kernel)
  have ka_int := hts (.arrayClass .int) (by decide +kernel)
  have koi := hts (.instanceMethod objectInit) (by decide +kernel)
  refine lv_aload_n hx hb dX1_init_0 rfl (lv_at hl 0 rfl) ?_
  refine W.objInit hx hb hown k5 koi (hts (.code objectInit ⟨#[0xb1]⟩ 1 none) (List.mem_of_getElem? (i := 3) rfl)) rfl (by rw [hml]; exact hl.1) rfl dX1_init_1 (Nat.le_of_ble_eq_true rfl) (Nat.le_of_ble_eq_true rfl) ?_
  refine W.eq (g2 := F0 m 4 ls []) rfl ?_
  refine lv_aload_n hx hb dX1_init_4 rfl (lv_at hl 0 rfl) ?_
  refine lv_sipush (v := 3075) hx hb dX1_init_5 (by decide) ?_
  refine knew_int hx hb ka_int hK hP hD hS hA (N := 3075) (by decide) (by decide) (Nat.le_of_ble_eq_true rfl) (Nat.le_of_ble_eq_true rfl) (Nat.le_of_ble_eq_true rfl) dX1_init_8 (fun q_1 H hP hD hS => ?_)
  have hP : va_P D vwCl [(h, .inr (0, [.null, .null, .null, .int 0, .int 0, .int 0, .int 0, .int 0, .int 0])), (q_1, .inl (cI, 3075, .inl (fun _ => 0)))] H := hP
  have hD : va_D A [(h, .inr (0, [.null, .null, .null, .int 0, .int 0, .int 0, .int 0, .int 0, .int 0])), (q_1, .inl (cI, 3075, .inl (fun _ => 0)))] := hD
  refine W.widen (k := 1) (n := 3075) (Nat.le_of_ble_eq_true rfl) (Nat.le_of_ble_eq_true rfl) ?_
  refine va_putF (D := D) (ci := 0) (v := .ref q_1) (ty := (.array .int)) (C := RX1) (T := TX1) (N := 9) hx hb hts hiX1 tyX1 tyX1_ok nmX1 hown hK hP hD hS 0 rfl rfl 0 (by decide) k11 (fun _ h9 => h9) rfl hin rfl (by decide +kernel) rfl rfl (Nat.le_of_ble_eq_true rfl) dX1_init_10 (fun H locs hP hD hS => ?_)
  have hP : va_P D vwCl [(h, .inr (0, [.ref q_1, .null, .null, .int 0, .int 0, .int 0, .int 0, .int 0, .int 0])), (q_1, .inl (cI, 3075, .inl (fun _ => 0)))] H := hP
  have hD : va_D A [(h, .inr (0, [.ref q_1, .null, .null, .int 0, .int 0, .int 0, .int 0, .int 0, .int 0])), (q_1, .inl (cI, 3075, .inl (fun _ => 0)))] := hD
  refine lv_aload_n hx hb dX1_init_13 rfl (lv_at hl 0 rfl) ?_
  refine lv_bipush (v := 41) hx hb dX1_init_14 (by decide) ?_
  refine knew_int hx hb ka_int hK hP hD hS hA (N := 41) (by decide) (by decide) (Nat.le_of_ble_eq_true rfl) (Nat.le_of_ble_eq_true rfl) (Nat.le_of_ble_eq_true rfl) dX1_init_16 (fun q_2 H hP hD hS => ?_)
  have hP : va_P D vwCl [(h, .inr (0, [.ref q_1, .null, .null, .int 0, .int 0, .int 0, .int 0, .int 0, .int 0])), (q_1, .inl (cI, 3075, .inl (fun _ => 0))), (q_2, .inl (cI, 41, .inl (fun _ => 0)))] H := hP
  have hD : va_D A [(h, .inr (0, [.ref q_1, .null, .null, .int 0, .int 0, .int 0, .int 0, .int 0, .int 0])), (q_1, .inl (cI, 3075, .inl (fun _ => 0))), (q_2, .inl (cI, 41, .inl (fun _ => 0)))] := hD
  refine W.widen (k := 2) (n := 3116) (Nat.le_of_ble_eq_true rfl) (Nat.le_of_ble_eq_true rfl) ?_
  refine va_putF (D := D) (ci := 0) (v := .ref q_2) (ty := (.array .int)) (C := RX1) (T := TX1) (N := 9) hx hb hts hiX1 tyX1 tyX1_ok nmX1 hown hK hP hD hS 0 rfl rfl 1 (by decide) k15 (fun _ h9 => h9) rfl hin rfl (by decide +kernel) rfl rfl (Nat.le_of_ble_eq_true rfl) dX1_init_18 (fun H locs hP hD hS => ?_)
  have hP : va_P D vwCl [(h, .inr (0, [.ref q_1, .ref q_2, .null, .int 0, .int 0, .int 0, .int 0, .int 0, .int 0])), (q_1, .inl (cI, 3075, .inl (fun _ => 0))), (q_2, .inl (cI, 41, .inl (fun _ => 0)))] H := hP
  have hD : va_D A [(h, .inr (0, [.ref q_1, .ref q_2, .null, .int 0, .int 0, .int 0, .int 0, .int 0, .int 0])), (q_1, .inl (cI, 3075, .inl (fun _ => 0))), (q_2, .inl (cI, 41, .inl (fun _ => 0)))] := hD
  refine lv_aload_n hx hb dX1_init_21 rfl (lv_at hl 0 rfl) ?_
  refine lv_bipush (v := 41) hx hb dX1_init_22 (by decide) ?_
  refine knew_boolean hx hb ka_boolean hK hP hD hS hA (N := 41) (by decide) (by decide) (Nat.le_of_ble_eq_true rfl) (Nat.le_of_ble_eq_true rfl) (Nat.le_of_ble_eq_true rfl) dX1_init_24 (fun q_3 H hP hD hS => ?_)
  have hP : va_P D vwCl [(h, .inr (0, [.ref q_1, .ref q_2, .null, .int 0, .int 0, .int 0, .int 0, .int 0, .int 0])), (q_1, .inl (cI, 3075, .inl (fun _ => 0))), (q_2, .inl (cI, 41, .inl (fun _ => 0))), (q_3, .inl (cZ, 41, .inl (fun _ => 0)))] H := hP
  have hD : va_D A [(h, .inr (0, [.ref q_1, .ref q_2, .null, .int 0, .int 0, .int 0, .int 0, .int 0, .int 0])), (q_1, .inl (cI, 3075, .inl (fun _ => 0))), (q_2, .inl (cI, 41, .inl (fun _ => 0))), (q_3, .inl (cZ, 41, .inl (fun _ => 0)))] := hD
  refine W.widen (k := 3) (n := 3157) (Nat.le_of_ble_eq_true rfl) (Nat.le_of_ble_eq_true rfl) ?_
  refine va_putF (D := D) (ci := 0) (v := .ref q_3) (ty := (.array .boolean)) (C := RX1) (T := TX1) (N := 9) hx hb hts hiX1 tyX1 tyX1_ok nmX1 hown hK hP hD hS 0 rfl rfl 2 (by decide) k18 (fun _ h9 => h9) rfl hin rfl (by decide +kernel) rfl rfl (Nat.le_of_ble_eq_true rfl) dX1_init_26 (fun H locs hP hD hS => ?_)
  have hP : va_P D vwCl [(h, .inr (0, [.ref q_1, .ref q_2, .ref q_3, .int 0, .int 0, .int 0, .int 0, .int 0, .int 0])), (q_1, .inl (cI, 3075, .inl (fun _ => 0))), (q_2, .inl (cI, 41, .inl (fun _ => 0))), (q_3, .inl (cZ, 41, .inl (fun _ => 0)))] H := hP
  have hD : va_D A [(h, .inr (0, [.ref q_1, .ref q_2, .ref q_3, .int 0, .int 0, .int 0, .int 0, .int 0, .int 0])), (q_1, .inl (cI, 3075, .inl (fun _ => 0))), (q_2, .inl (cI, 41, .inl (fun _ => 0))), (q_3, .inl (cZ, 41, .inl (fun _ => 0)))] := hD
  refine lv_aload_n hx hb dX1_init_29 rfl (lv_at hl 0 rfl) ?_
  refine lv_iconst (v := 0) hx hb dX1_init_30 (by decide) ?_
  refine va_put (D := D) (ci := 0) (v := .int 0) (ty := .int) (C := RX1) (T := TX1) (N := 9) hx hb hts hiX1 tyX1 tyX1_ok nmX1 hown hK hP hD hS 0 rfl rfl 3 (by decide) k22 (fun _ h9 => h9) rfl (by decide +kernel) rfl rfl (Nat.le_of_ble_eq_true rfl) dX1_init_31 (fun H locs hP hD hS => ?_)
  have hP : va_P D vwCl [(h, .inr (0, [.ref q_1, .ref q_2, .ref q_3, .int 0, .int 0, .int 0, .int 0, .int 0, .int 0])), (q_1, .inl (cI, 3075, .inl (fun _ => 0))), (q_2, .inl (cI, 41, .inl (fun _ => 0))), (q_3, .inl (cZ, 41, .inl (fun _ => 0)))] H := hP
  have hD : va_D A [(h, .inr (0, [.ref q_1, .ref q_2, .ref q_3, .int 0, .int 0, .int 0, .int 0, .int 0, .int 0])), (q_1, .inl (cI, 3075, .inl (fun _ => 0))), (q_2, .inl (cI, 41, .inl (fun _ => 0))), (q_3, .inl (cZ, 41, .inl (fun _ => 0)))] := hD
  refine lv_aload_n hx hb dX1_init_34 rfl (lv_at hl 0 rfl) ?_
  refine lv_iconst (v := 0) hx hb dX1_init_35 (by decide) ?_
  refine va_put (D := D) (ci := 0) (v := .int 0) (ty := .int) (C := RX1) (T := TX1) (N := 9) hx hb hts hiX1 tyX1 tyX1_ok nmX1 hown hK hP hD hS 0 rfl rfl 4 (by decide) k26 (fun _ h9 => h9) rfl (by decide +kernel) rfl rfl (Nat.le_of_ble_eq_true rfl) dX1_init_36 (fun H locs hP hD hS => ?_)
  have hP : va_P D vwCl [(h, .inr (0, [.ref q_1, .ref q_2, .ref q_3, .int 0, .int 0, .int 0, .int 0, .int 0, .int 0])), (q_1, .inl (cI, 3075, .inl (fun _ => 0))), (q_2, .inl (cI, 41, .inl (fun _ => 0))), (q_3, .inl (cZ, 41, .inl (fun _ => 0)))] H := hP
  have hD : va_D A [(h, .inr (0, [.ref q_1, .ref q_2, .ref q_3, .int 0, .int 0, .int 0, .int 0, .int 0, .int 0])), (q_1, .inl (cI, 3075, .inl (fun _ => 0))), (q_2, .inl (cI, 41, .inl (fun _ => 0))), (q_3, .inl (cZ, 41, .inl (fun _ => 0)))] := hD
  refine lv_aload_n hx hb dX1_init_39 rfl (lv_at hl 0 rfl) ?_
  refine lv_iconst (v := 0) hx hb dX1_init_40 (by decide) ?_
  refine va_put (D := D) (ci := 0) (v := .int 0) (ty := .int) (C := RX1) (T := TX1) (N := 9) hx hb hts hiX1 tyX1 tyX1_ok nmX1 hown hK hP hD hS 0 rfl rfl 5 (by decide) k29 (fun _ h9 => h9) rfl (by decide +kernel) rfl rfl (Nat.le_of_ble_eq_true rfl) dX1_init_41 (fun H locs hP hD hS => ?_)
  have hP : va_P D vwCl [(h, .inr (0, [.ref q_1, .ref q_2, .ref q_3, .int 0, .int 0, .int 0, .int 0, .int 0, .int 0])), (q_1, .inl (cI, 3075, .inl (fun _ => 0))), (q_2, .inl (cI, 41, .inl (fun _ => 0))), (q_3, .inl (cZ, 41, .inl (fun _ => 0)))] H := hP
  have hD : va_D A [(h, .inr (0, [.ref q_1, .ref q_2, .ref q_3, .int 0, .int 0, .int 0, .int 0, .int 0, .int 0])), (q_1, .inl (cI, 3075, .inl (fun _ => 0))), (q_2, .inl (cI, 41, .inl (fun _ => 0))), (q_3, .inl (cZ, 41, .inl (fun _ => 0)))] := hD
  refine lv_aload_n hx hb dX1_init_44 rfl (lv_at hl 0 rfl) ?_
  refine lv_iconst (v := 0) hx hb dX1_init_45 (by decide) ?_
  refine va_put (D := D) (ci := 0) (v := .int 0) (ty := .boolean) (C := RX1) (T := TX1) (N := 9) hx hb hts hiX1 tyX1 tyX1_ok nmX1 hown hK hP hD hS 0 rfl rfl 6 (by decide) k32 (fun _ h9 => h9) rfl (by decide +kernel) rfl rfl (Nat.le_of_ble_eq_true rfl) dX1_init_46 (fun H locs hP hD hS => ?_)
  have hP : va_P D vwCl [(h, .inr (0, [.ref q_1, .ref q_2, .ref q_3, .int 0, .int 0, .int 0, .int 0, .int 0, .int 0])), (q_1, .inl (cI, 3075, .inl (fun _ => 0))), (q_2, .inl (cI, 41, .inl (fun _ => 0))), (q_3, .inl (cZ, 41, .inl (fun _ => 0)))] H := hP
  have hD : va_D A [(h, .inr (0, [.ref q_1, .ref q_2, .ref q_3, .int 0, .int 0, .int 0, .int 0, .int 0, .int 0])), (q_1, .inl (cI, 3075, .inl (fun _ => 0))), (q_2, .inl (cI, 41, .inl (fun _ => 0))), (q_3, .inl (cZ, 41, .inl (fun _ => 0)))] := hD
  refine lv_aload_n hx hb dX1_init_49 rfl (lv_at hl 0 rfl) ?_
  refine lv_iconst (v := 0) hx hb dX1_init_50 (by decide) ?_
  refine va_put (D := D) (ci := 0) (v := .int 0) (ty := .int) (C := RX1) (T := TX1) (N := 9) hx hb hts hiX1 tyX1 tyX1_ok nmX1 hown hK hP hD hS 0 rfl rfl 7 (by decide) k36 (fun _ h9 => h9) rfl (by decide +kernel) rfl rfl (Nat.le_of_ble_eq_true rfl) dX1_init_51 (fun H locs hP hD hS => ?_)
  have hP : va_P D vwCl [(h, .inr (0, [.ref q_1, .ref q_2, .ref q_3, .int 0, .int 0, .int 0, .int 0, .int 0, .int 0])), (q_1, .inl (cI, 3075, .inl (fun _ => 0))), (q_2, .inl (cI, 41, .inl (fun _ => 0))), (q_3, .inl (cZ, 41, .inl (fun _ => 0)))] H := hP
  have hD : va_D A [(h, .inr (0, [.ref q_1, .ref q_2, .ref q_3, .int 0, .int 0, .int 0, .int 0, .int 0, .int 0])), (q_1, .inl (cI, 3075, .inl (fun _ => 0))), (q_2, .inl (cI, 41, .inl (fun _ => 0))), (q_3, .inl (cZ, 41, .inl (fun _ => 0)))] := hD
  refine lv_aload_n hx hb dX1_init_54 rfl (lv_at hl 0 rfl) ?_
  refine lv_iconst (v := 0) hx hb dX1_init_55 (by decide) ?_
  refine va_put (D := D) (ci := 0) (v := .int 0) (ty := .int) (C := RX1) (T := TX1) (N := 9) hx hb hts hiX1 tyX1 tyX1_ok nmX1 hown hK hP hD hS 0 rfl rfl 8 (by decide) k39 (fun _ h9 => h9) rfl (by decide +kernel) rfl rfl (Nat.le_of_ble_eq_true rfl) dX1_init_56 (fun H locs hP hD hS => ?_)
  have hP : va_P D vwCl [(h, .inr (0, [.ref q_1, .ref q_2, .ref q_3, .int 0, .int 0, .int 0, .int 0, .int 0, .int 0])), (q_1, .inl (cI, 3075, .inl (fun _ => 0))), (q_2, .inl (cI, 41, .inl (fun _ => 0))), (q_3, .inl (cZ, 41, .inl (fun _ => 0)))] H := hP
  have hD : va_D A [(h, .inr (0, [.ref q_1, .ref q_2, .ref q_3, .int 0, .int 0, .int 0, .int 0, .int 0, .int 0])), (q_1, .inl (cI, 3075, .inl (fun _ => 0))), (q_2, .inl (cI, 41, .inl (fun _ => 0))), (q_3, .inl (cZ, 41, .inl (fun _ => 0)))] := hD
  exact W.vret hx hb hr (fun t ht hW => ⟨⟨(q_1, q_2, q_3), rfl, trivial, by rw [ht]; exact hP, va_K.moved hW.alike hK, hD⟩, hS.F ht⟩) hS.2.2 dX1_init_59

abbrev rmX3_init : Room := { frames := 2, cells := 6, slots := 3270, locals := 40 }
set_option maxHeartbeats 4000000 in
set_option maxRecDepth 100000 in
theorem c_X3_init (l : Launch) (D : va_G) (cB cI cZ : ClassId) (h : Nat) : CtN l yX3_init wsX3_init rmX3_init D (tyv cB cI cZ) [.ref h] [(h, .inr (2, [.null, .null, .int 0, .int 0, .int 0, .int 0, .int 0, .int 0, .int 0, .int 0, .int 0, .int 0]))] (fun _ : Nat × Nat × Nat × Nat × Nat × Nat => True) (fun u : Nat × Nat × Nat × Nat × Nat × Nat => [(h, .inr (2, [.ref u.1, .ref u.2.2.1, .int 0, .int 0, .int 0, .int (-1), .int 0, .int 0, .int 0, .int 0, .int 0, .int 0])), (u.1, .inr (4, [.ref u.2.1, .int 0, .int 0, .int 0])), (u.2.1, .inl (cI, 100, .inl (fun _ => 0))), (u.2.2.1, .inr (0, [.ref u.2.2.2.1, .ref u.2.2.2.2.1, .ref u.2.2.2.2.2, .int 0, .int 0, .int 0, .int 0, .int 0, .int 0])), (u.2.2.2.1, .inl (cI, 3075, .inl (fun _ => 0))), (u.2.2.2.2.1, .inl (cI, 41, .inl (fun _ => 0))), (u.2.2.2.2.2, .inl (cZ, 41, .inl (fun _ => 0)))]) 6 3270 := by
  refine CtN.of (cc := cX3_init) (maxL := 1) (ret := none) (by decide +kernel) rfl rfl (Nat.le_of_ble_eq_true rfl) ?_
  intro p e s m below meth c A ls hx hb hr hml hown hts hlocks hin hE hP hK hD hA hS hl
  have hown : s.vm.findClass RX3 = some m.cls := hown
  have hl : lv_has ls 1 [(0, .ref h)] := hl
  have hP : va_P D vwCl [(h, .inr (2, [.null, .null, .int 0, .int 0, .int 0, .int 0, .int 0, .int 0, .int 0, .int 0, .int 0, .int 0]))] s.heap := hP
  have hD : va_D A [(h, .inr (2, [.null, .null, .int 0, .int 0, .int 0, .int 0, .int 0, .int 0, .int 0, .int 0, .int 0, .int 0]))] := hD
  have hiX1 : ∀ w ∈ wsX10, w ∈ wsX3_init := by decide +kernel
  have hiX3 : ∀ w ∈ wsX30, w ∈ wsX3_init := by decide +kernel
  have hiX5 : ∀ w ∈ wsX50, w ∈ wsX3_init := by decide +kernel
  have k12 := hts (.fieldLink RX3 12 "CodedGroups$Receiver" "log" "LCodedGroups$SymbolLog;") (by decide +kernel)
  have k21 := hts (.fieldLink RX3 21 "CodedGroups$Receiver" "shelf" "LCodedGroups$FrameShelf;") (by decide +kernel)
  have k25 := hts (.fieldLink RX3 25 "CodedGroups$Receiver" "window" "I") (by decide +kernel)
  have k29 := hts (.fieldLink RX3 29 "CodedGroups$Receiver" "windowBits" "I") (by decide +kernel)
  have k3 := hts (.methodLink RX3 3 objectInit) (by decide +kernel)
  have k32 := hts (.fieldLink RX3 32 "CodedGroups$Receiver" "even" "Z") (by decide +kernel)
  have k36 := hts (.fieldLink RX3 36 "CodedGroups$Receiver" "lean" "I") (by decide +kernel)
  have k39 := hts (.fieldLink RX3 39 "CodedGroups$Receiver" "rank" "I") (by decide +kernel)
  have k42 := hts (.fieldLink RX3 42 "CodedGroups$Receiver" "faith" "I") (by decide +kernel)
  have k45 := hts (.fieldLink RX3 45 "CodedGroups$Receiver" "goodInRow" "I") (by decide +kernel)
  have k48 := hts (.fieldLink RX3 48 "CodedGroups$Receiver" "groups" "I") (by decide +kernel)
  have k51 := hts (.fieldLink RX3 51 "CodedGroups$Receiver" "badGroups" "I") (by decide +kernel)
  have k54 := hts (.fieldLink RX3 54 "CodedGroups$Receiver" "searches" "I") (by decide +kernel)
  have kc18 := hts (.classLink RX3 18 RX1) (by decide +kernel)
  have kc9 := hts (.classLink RX3 9 RX5) (by decide +kernel)
  have kiX1 := hts (.initialized RX1) (by decide +kernel)
  have kiX5 := hts (.initialized RX5) (by decide +kernel)
  have kmX1_init := hts (.instanceMethod yX1_init) (by decide +kernel)
  have kmX5_init := hts (.instanceMethod yX5_init) (by decide +kernel)
  have knX1 := hts (.instantiable RX1 9) (by decide +kernel)
  have knX5 := hts (.instantiable RX5 4) (by decide +kernel)
  have koi := hts (.instanceMethod objectInit) (by decide +kernel)
  refine lv_aload_n hx hb dX3_init_0 rfl (lv_at hl 0 rfl) ?_
  refine W.objInit hx hb hown k3 koi (hts (.code objectInit ⟨#[0xb1]⟩ 1 none) (List.mem_of_getElem? (i := 3) rfl)) rfl (by rw [hml]; exact hl.1) rfl dX3_init_1 (Nat.le_of_ble_eq_true rfl) (Nat.le_of_ble_eq_true rfl) ?_
  refine W.eq (g2 := F0 m 4 ls []) rfl ?_
  refine lv_aload_n hx hb dX3_init_4 rfl (lv_at hl 0 rfl) ?_
  refine va_new (ci := 4) (fs := [.null, .int 0, .int 0, .int 0]) (C := RX5) (T := TX5) (N := 4) hx hb hts hiX5 tyX5 tyX5_ok hown kc9 knX5 kiX5 hK hP hD hS hA rfl df_X5 (Nat.le_of_ble_eq_true rfl) (Nat.le_of_ble_eq_true rfl) dX3_init_5 (fun q_1 H hP hD hS => ?_)
  have hP : va_P D vwCl [(h, .inr (2, [.null, .null, .int 0, .int 0, .int 0, .int 0, .int 0, .int 0, .int 0, .int 0, .int 0, .int 0])), (q_1, .inr (4, [.null, .int 0, .int 0, .int 0]))] H := hP
  have hD : va_D A [(h, .inr (2, [.null, .null, .int 0, .int 0, .int 0, .int 0, .int 0, .int 0, .int 0, .int 0, .int 0, .int 0])), (q_1, .inr (4, [.null, .int 0, .int 0, .int 0]))] := hD
  refine W.widen (k := 1) (n := 4) (Nat.le_of_ble_eq_true rfl) (Nat.le_of_ble_eq_true rfl) ?_
  refine lv_dup hx hb dX3_init_8 rfl ?_
  refine kcalln (fun u : Nat => [(q_1, .inr (4, [.ref u, .int 0, .int 0, .int 0])), (u, .inl (cI, 100, .inl (fun _ => 0)))]) (fun u : Nat => [(h, .inr (2, [.null, .null, .int 0, .int 0, .int 0, .int 0, .int 0, .int 0, .int 0, .int 0, .int 0, .int 0])), (q_1, .inr (4, [.ref u, .int 0, .int 0, .int 0])), (u, .inl (cI, 100, .inl (fun _ => 0)))]) (wr := [(h, .inr (2, [.null, .null, .int 0, .int 0, .int 0, .int 0, .int 0, .int 0, .int 0, .int 0, .int 0, .int 0]))]) (va_runIN (As := []) (rest := [.ref q_1, .ref h]) ⟨hx, hb, hml, hown, hts⟩ (c_X5_init l D cB cI cZ q_1 H.size) ⟨va_cnB 0 hts gX3_init_X5_init_n11 rfl rfl rfl (hE.nestW 3 rfl) kiX5 (by decide +kernel) ⟨Nat.le_of_ble_eq_true rfl, Nat.le_of_ble_eq_true rfl⟩, rfl, kmX5_init⟩ ⟨kP_blind, kpre [.ref q_1] hE hK hP hD hS hA [1] rfl (by decide)⟩ rfl rfl hl.1 rfl (lv_room (Nat.le_of_ble_eq_true rfl)) dX3_init_9 ⟨Nat.le_of_ble_eq_true rfl, Nat.le_of_ble_eq_true rfl⟩) hP hD hS hA [1] [0] [0, 1, 2] rfl rfl (by decide) (by decide) (fun _ => rfl) (by decide) (fun u2 hu H locs hP hD hS => ?_)
  have hP : va_P D vwCl [(h, .inr (2, [.null, .null, .int 0, .int 0, .int 0, .int 0, .int 0, .int 0, .int 0, .int 0, .int 0, .int 0])), (q_1, .inr (4, [.ref u2, .int 0, .int 0, .int 0])), (u2, .inl (cI, 100, .inl (fun _ => 0)))] H := hP
  have hD : va_D A [(h, .inr (2, [.null, .null, .int 0, .int 0, .int 0, .int 0, .int 0, .int 0, .int 0, .int 0, .int 0, .int 0])), (q_1, .inr (4, [.ref u2, .int 0, .int 0, .int 0])), (u2, .inl (cI, 100, .inl (fun _ => 0)))] := hD
  refine W.widen (k := 2) (n := 104) (Nat.le_of_ble_eq_true rfl) (Nat.le_of_ble_eq_true rfl) ?_
  refine va_putF (D := D) (ci := 2) (v := .ref q_1) (ty := (.object "CodedGroups$SymbolLog")) (C := RX3) (T := TX3) (N := 12) hx hb hts hiX3 tyX3 tyX3_ok nmX3 hown hK hP hD hS 0 rfl rfl 0 (by decide) k12 (fun _ h9 => h9) rfl hin rfl (by decide +kernel) rfl rfl (Nat.le_of_ble_eq_true rfl) dX3_init_12 (fun H locs hP hD hS => ?_)
  have hP : va_P D vwCl [(h, .inr (2, [.ref q_1, .null, .int 0, .int 0, .int 0, .int 0, .int 0, .int 0, .int 0, .int 0, .int 0, .int 0])), (q_1, .inr (4, [.ref u2, .int 0, .int 0, .int 0])), (u2, .inl (cI, 100, .inl (fun _ => 0)))] H := hP
  have hD : va_D A [(h, .inr (2, [.ref q_1, .null, .int 0, .int 0, .int 0, .int 0, .int 0, .int 0, .int 0, .int 0, .int 0, .int 0])), (q_1, .inr (4, [.ref u2, .int 0, .int 0, .int 0])), (u2, .inl (cI, 100, .inl (fun _ => 0)))] := hD
  refine lv_aload_n hx hb dX3_init_15 rfl (lv_at hl 0 rfl) ?_
  refine va_new (ci := 0) (fs := [.null, .null, .null, .int 0, .int 0, .int 0, .int 0, .int 0, .int 0]) (C := RX1) (T := TX1) (N := 9) hx hb hts hiX1 tyX1 tyX1_ok hown kc18 knX1 kiX1 hK hP hD hS hA rfl df_X1 (Nat.le_of_ble_eq_true rfl) (Nat.le_of_ble_eq_true rfl) dX3_init_16 (fun q_3 H hP hD hS => ?_)
  have hP : va_P D vwCl [(h, .inr (2, [.ref q_1, .null, .int 0, .int 0, .int 0, .int 0, .int 0, .int 0, .int 0, .int 0, .int 0, .int 0])), (q_1, .inr (4, [.ref u2, .int 0, .int 0, .int 0])), (u2, .inl (cI, 100, .inl (fun _ => 0))), (q_3, .inr (0, [.null, .null, .null, .int 0, .int 0, .int 0, .int 0, .int 0, .int 0]))] H := hP
  have hD : va_D A [(h, .inr (2, [.ref q_1, .null, .int 0, .int 0, .int 0, .int 0, .int 0, .int 0, .int 0, .int 0, .int 0, .int 0])), (q_1, .inr (4, [.ref u2, .int 0, .int 0, .int 0])), (u2, .inl (cI, 100, .inl (fun _ => 0))), (q_3, .inr (0, [.null, .null, .null, .int 0, .int 0, .int 0, .int 0, .int 0, .int 0]))] := hD
  refine W.widen (k := 3) (n := 113) (Nat.le_of_ble_eq_true rfl) (Nat.le_of_ble_eq_true rfl) ?_
  refine lv_dup hx hb dX3_init_19 rfl ?_
  refine kcalln (fun u : Nat × Nat × Nat => [(q_3, .inr (0, [.ref u.1, .ref u.2.1, .ref u.2.2, .int 0, .int 0, .int 0, .int 0, .int 0, .int 0])), (u.1, .inl (cI, 3075, .inl (fun _ => 0))), (u.2.1, .inl (cI, 41, .inl (fun _ => 0))), (u.2.2, .inl (cZ, 41, .inl (fun _ => 0)))]) (fun u : Nat × Nat × Nat => [(h, .inr (2, [.ref q_1, .null, .int 0, .int 0, .int 0, .int 0, .int 0, .int 0, .int 0, .int 0, .int 0, .int 0])), (q_1, .inr (4, [.ref u2, .int 0, .int 0, .int 0])), (u2, .inl (cI, 100, .inl (fun _ => 0))), (q_3, .inr (0, [.ref u.1, .ref u.2.1, .ref u.2.2, .int 0, .int 0, .int 0, .int 0, .int 0, .int 0])), (u.1, .inl (cI, 3075, .inl (fun _ => 0))), (u.2.1, .inl (cI, 41, .inl (fun _ => 0))), (u.2.2, .inl (cZ, 41, .inl (fun _ => 0)))]) (wr := [(h, .inr (2, [.ref q_1, .null, .int 0, .int 0, .int 0, .int 0, .int 0, .int 0, .int 0, .int 0, .int 0, .int 0])), (q_1, .inr (4, [.ref u2, .int 0, .int 0, .int 0])), (u2, .inl (cI, 100, .inl (fun _ => 0)))]) (va_runIN (As := []) (rest := [.ref q_3, .ref h]) ⟨hx, hb, hml, hown, hts⟩ (c_X1_init l D cB cI cZ q_3 H.size) ⟨va_cnB 0 hts gX3_init_X1_init_n20 rfl rfl rfl (hE.nestW 4 rfl) kiX1 (by decide +kernel) ⟨Nat.le_of_ble_eq_true rfl, Nat.le_of_ble_eq_true rfl⟩, rfl, kmX1_init⟩ ⟨kP_blind, kpre [.ref q_3] hE hK hP hD hS hA [3] rfl (by decide)⟩ rfl rfl hl.1 rfl (lv_room (Nat.le_of_ble_eq_true rfl)) dX3_init_20 ⟨Nat.le_of_ble_eq_true rfl, Nat.le_of_ble_eq_true rfl⟩) hP hD hS hA [3] [0, 1, 2] [0, 1, 2, 3, 4, 5, 6] rfl rfl (by decide) (by decide) (fun _ => rfl) (by decide) (fun u4 hu H locs hP hD hS => ?_)
  obtain ⟨a4_0, a4_1, a4_2⟩ := u4
  have hP : va_P D vwCl [(h, .inr (2, [.ref q_1, .null, .int 0, .int 0, .int 0, .int 0, .int 0, .int 0, .int 0, .int 0, .int 0, .int 0])), (q_1, .inr (4, [.ref u2, .int 0, .int 0, .int 0])), (u2, .inl (cI, 100, .inl (fun _ => 0))), (q_3, .inr (0, [.ref a4_0, .ref a4_1, .ref a4_2, .int 0, .int 0, .int 0, .int 0, .int 0, .int 0])), (a4_0, .inl (cI, 3075, .inl (fun _ => 0))), (a4_1, .inl (cI, 41, .inl (fun _ => 0))), (a4_2, .inl (cZ, 41, .inl (fun _ => 0)))] H := hP
  have hD : va_D A [(h, .inr (2, [.ref q_1, .null, .int 0, .int 0, .int 0, .int 0, .int 0, .int 0, .int 0, .int 0, .int 0, .int 0])), (q_1, .inr (4, [.ref u2, .int 0, .int 0, .int 0])), (u2, .inl (cI, 100, .inl (fun _ => 0))), (q_3, .inr (0, [.ref a4_0, .ref a4_1, .ref a4_2, .int 0, .int 0, .int 0, .int 0, .int 0, .int 0])), (a4_0, .inl (cI, 3075, .inl (fun _ => 0))), (a4_1, .inl (cI, 41, .inl (fun _ => 0))), (a4_2, .inl (cZ, 41, .inl (fun _ => 0)))] := hD
  refine W.widen (k := 6) (n := 3270) (Nat.le_of_ble_eq_true rfl) (Nat.le_of_ble_eq_true rfl) ?_
  refine va_putF (D := D) (ci := 2) (v := .ref q_3) (ty := (.object "CodedGroups$FrameShelf")) (C := RX3) (T := TX3) (N := 12) hx hb hts hiX3 tyX3 tyX3_ok nmX3 hown hK hP hD hS 0 rfl rfl 1 (by decide) k21 (fun _ h9 => h9) rfl hin rfl (by decide +kernel) rfl rfl (Nat.le_of_ble_eq_true rfl) dX3_init_23 (fun H locs hP hD hS => ?_)
  have hP : va_P D vwCl [(h, .inr (2, [.ref q_1, .ref q_3, .int 0, .int 0, .int 0, .int 0, .int 0, .int 0, .int 0, .int 0, .int 0, .int 0])), (q_1, .inr (4, [.ref u2, .int 0, .int 0, .int 0])), (u2, .inl (cI, 100, .inl (fun _ => 0))), (q_3, .inr (0, [.ref a4_0, .ref a4_1, .ref a4_2, .int 0, .int 0, .int 0, .int 0, .int 0, .int 0])), (a4_0, .inl (cI, 3075, .inl (fun _ => 0))), (a4_1, .inl (cI, 41, .inl (fun _ => 0))), (a4_2, .inl (cZ, 41, .inl (fun _ => 0)))] H := hP
  have hD : va_D A [(h, .inr (2, [.ref q_1, .ref q_3, .int 0, .int 0, .int 0, .int 0, .int 0, .int 0, .int 0, .int 0, .int 0, .int 0])), (q_1, .inr (4, [.ref u2, .int 0, .int 0, .int 0])), (u2, .inl (cI, 100, .inl (fun _ => 0))), (q_3, .inr (0, [.ref a4_0, .ref a4_1, .ref a4_2, .int 0, .int 0, .int 0, .int 0, .int 0, .int 0])), (a4_0, .inl (cI, 3075, .inl (fun _ => 0))), (a4_1, .inl (cI, 41, .inl (fun _ => 0))), (a4_2, .inl (cZ, 41, .inl (fun _ => 0)))] := hD
  refine lv_aload_n hx hb dX3_init_26 rfl (lv_at hl 0 rfl) ?_
  refine lv_iconst (v := 0) hx hb dX3_init_27 (by decide) ?_
  refine va_put (D := D) (ci := 2) (v := .int 0) (ty := .int) (C := RX3) (T := TX3) (N := 12) hx hb hts hiX3 tyX3 tyX3_ok nmX3 hown hK hP hD hS 0 rfl rfl 2 (by decide) k25 (fun _ h9 => h9) rfl (by decide +kernel) rfl rfl (Nat.le_of_ble_eq_true rfl) dX3_init_28 (fun H locs hP hD hS => ?_)
  have hP : va_P D vwCl [(h, .inr (2, [.ref q_1, .ref q_3, .int 0, .int 0, .int 0, .int 0, .int 0, .int 0, .int 0, .int 0, .int 0, .int 0])), (q_1, .inr (4, [.ref u2, .int 0, .int 0, .int 0])), (u2, .inl (cI, 100, .inl (fun _ => 0))), (q_3, .inr (0, [.ref a4_0, .ref a4_1, .ref a4_2, .int 0, .int 0, .int 0, .int 0, .int 0, .int 0])), (a4_0, .inl (cI, 3075, .inl (fun _ => 0))), (a4_1, .inl (cI, 41, .inl (fun _ => 0))), (a4_2, .inl (cZ, 41, .inl (fun _ => 0)))] H := hP
  have hD : va_D A [(h, .inr (2, [.ref q_1, .ref q_3, .int 0, .int 0, .int 0, .int 0, .int 0, .int 0, .int 0, .int 0, .int 0, .int 0])), (q_1, .inr (4, [.ref u2, .int 0, .int 0, .int 0])), (u2, .inl (cI, 100, .inl (fun _ => 0))), (q_3, .inr (0, [.ref a4_0, .ref a4_1, .ref a4_2, .int 0, .int 0, .int 0, .int 0, .int 0, .int 0])), (a4_0, .inl (cI, 3075, .inl (fun _ => 0))), (a4_1, .inl (cI, 41, .inl (fun _ => 0))), (a4_2, .inl (cZ, 41, .inl (fun _ => 0)))] := hD
  refine lv_aload_n hx hb dX3_init_31 rfl (lv_at hl 0 rfl) ?_
  refine lv_iconst (v := 0) hx hb dX3_init_32 (by decide) ?_
  refine va_put (D := D) (ci := 2) (v := .int 0) (ty := .int) (C := RX3) (T := TX3) (N := 12) hx hb hts hiX3 tyX3 tyX3_ok nmX3 hown hK hP hD hS 0 rfl rfl 3 (by decide) k29 (fun _ h9 => h9) rfl (by decide +kernel) rfl rfl (Nat.le_of_ble_eq_true rfl) dX3_init_33 (fun H locs hP hD hS => ?_)
  have hP : va_P D vwCl [(h, .inr (2, [.ref q_1, .ref q_3, .int 0, .int 0, .int 0, .int 0, .int 0, .int 0, .int 0, .int 0, .int 0, .int 0])), (q_1, .inr (4, [.ref u2, .int 0, .int 0, .int 0])), (u2, .inl (cI, 100, .inl (fun _ => 0))), (q_3, .inr (0, [.ref a4_0, .ref a4_1, .ref a4_2, .int 0, .int 0, .int 0, .int 0, .int 0, .int 0])), (a4_0, .inl (cI, 3075, .inl (fun _ => 0))), (a4_1, .inl (cI, 41, .inl (fun _ => 0))), (a4_2, .inl (cZ, 41, .inl (fun _ => 0)))] H := hP
  have hD : va_D A [(h, .inr (2, [.ref q_1, .ref q_3, .int 0, .int 0, .int 0, .int 0, .int 0, .int 0, .int 0, .int 0, .int 0, .int 0])), (q_1, .inr (4, [.ref u2, .int 0, .int 0, .int 0])), (u2, .inl (cI, 100, .inl (fun _ => 0))), (q_3, .inr (0, [.ref a4_0, .ref a4_1, .ref a4_2, .int 0, .int 0, .int 0, .int 0, .int 0, .int 0])), (a4_0, .inl (cI, 3075, .inl (fun _ => 0))), (a4_1, .inl (cI, 41, .inl (fun _ => 0))), (a4_2, .inl (cZ, 41, .inl (fun _ => 0)))] := hD
  refine lv_aload_n hx hb dX3_init_36 rfl (lv_at hl 0 rfl) ?_
  refine lv_iconst (v := 0) hx hb dX3_init_37 (by decide) ?_
  refine va_put (D := D) (ci := 2) (v := .int 0) (ty := .boolean) (C := RX3) (T := TX3) (N := 12) hx hb hts hiX3 tyX3 tyX3_ok nmX3 hown hK hP hD hS 0 rfl rfl 4 (by decide) k32 (fun _ h9 => h9) rfl (by decide +kernel) rfl rfl (Nat.le_of_ble_eq_true rfl) dX3_init_38 (fun H locs hP hD hS => ?_)
  have hP : va_P D vwCl [(h, .inr (2, [.ref q_1, .ref q_3, .int 0, .int 0, .int 0, .int 0, .int 0, .int 0, .int 0, .int 0, .int 0, .int 0])), (q_1, .inr (4, [.ref u2, .int 0, .int 0, .int 0])), (u2, .inl (cI, 100, .inl (fun _ => 0))), (q_3, .inr (0, [.ref a4_0, .ref a4_1, .ref a4_2, .int 0, .int 0, .int 0, .int 0, .int 0, .int 0])), (a4_0, .inl (cI, 3075, .inl (fun _ => 0))), (a4_1, .inl (cI, 41, .inl (fun _ => 0))), (a4_2, .inl (cZ, 41, .inl (fun _ => 0)))] H := hP
  have hD : va_D A [(h, .inr (2, [.ref q_1, .ref q_3, .int 0, .int 0, .int 0, .int 0, .int 0, .int 0, .int 0, .int 0, .int 0, .int 0])), (q_1, .inr (4, [.ref u2, .int 0, .int 0, .int 0])), (u2, .inl (cI, 100, .inl (fun _ => 0))), (q_3, .inr (0, [.ref a4_0, .ref a4_1, .ref a4_2, .int 0, .int 0, .int 0, .int 0, .int 0, .int 0])), (a4_0, .inl (cI, 3075, .inl (fun _ => 0))), (a4_1, .inl (cI, 41, .inl (fun _ => 0))), (a4_2, .inl (cZ, 41, .inl (fun _ => 0)))] := hD
  refine lv_aload_n hx hb dX3_init_41 rfl (lv_at hl 0 rfl) ?_
  refine lv_iconst (v := (-1)) hx hb dX3_init_42 (by decide) ?_
  refine va_put (D := D) (ci := 2) (v := .int (-1)) (ty := .int) (C := RX3) (T := TX3) (N := 12) hx hb hts hiX3 tyX3 tyX3_ok nmX3 hown hK hP hD hS 0 rfl rfl 5 (by decide) k36 (fun _ h9 => h9) rfl (by decide +kernel) rfl rfl (Nat.le_of_ble_eq_true rfl) dX3_init_43 (fun H locs hP hD hS => ?_)
  have hP : va_P D vwCl [(h, .inr (2, [.ref q_1, .ref q_3, .int 0, .int 0, .int 0, .int (-1), .int 0, .int 0, .int 0, .int 0, .int 0, .int 0])), (q_1, .inr (4, [.ref u2, .int 0, .int 0, .int 0])), (u2, .inl (cI, 100, .inl (fun _ => 0))), (q_3, .inr (0, [.ref a4_0, .ref a4_1, .ref a4_2, .int 0, .int 0, .int 0, .int 0, .int 0, .int 0])), (a4_0, .inl (cI, 3075, .inl (fun _ => 0))), (a4_1, .inl (cI, 41, .inl (fun _ => 0))), (a4_2, .inl (cZ, 41, .inl (fun _ => 0)))] H := hP
  have hD : va_D A [(h, .inr (2, [.ref q_1, .ref q_3, .int 0, .int 0, .int 0, .int (-1), .int 0, .int 0, .int 0, .int 0, .int 0, .int 0])), (q_1, .inr (4, [.ref u2, .int 0, .int 0, .int 0])), (u2, .inl (cI, 100, .inl (fun _ => 0))), (q_3, .inr (0, [.ref a4_0, .ref a4_1, .ref a4_2, .int 0, .int 0, .int 0, .int 0, .int 0, .int 0])), (a4_0, .inl (cI, 3075, .inl (fun _ => 0))), (a4_1, .inl (cI, 41, .inl (fun _ => 0))), (a4_2, .inl (cZ, 41, .inl (fun _ => 0)))] := hD
  refine lv_aload_n hx hb dX3_init_46 rfl (lv_at hl 0 rfl) ?_
  refine lv_iconst (v := 0) hx hb dX3_init_47 (by decide) ?_
  refine va_put (D := D) (ci := 2) (v := .int 0) (ty := .int) (C := RX3) (T := TX3) (N := 12) hx hb hts hiX3 tyX3 tyX3_ok nmX3 hown hK hP hD hS 0 rfl rfl 6 (by decide) k39 (fun _ h9 => h9) rfl (by decide +kernel) rfl rfl (Nat.le_of_ble_eq_true rfl) dX3_init_48 (fun H locs hP hD hS => ?_)
  have hP : va_P D vwCl [(h, .inr (2, [.ref q_1, .ref q_3, .int 0, .int 0, .int 0, .int (-1), .int 0, .int 0, .int 0, .int 0, .int 0, .int 0])), (q_1, .inr (4, [.ref u2, .int 0, .int 0, .int 0])), (u2, .inl (cI, 100, .inl (fun _ => 0))), (q_3, .inr (0, [.ref a4_0, .ref a4_1, .ref a4_2, .int 0, .int 0, .int 0, .int 0, .int 0, .int 0])), (a4_0, .inl (cI, 3075, .inl (fun _ => 0))), (a4_1, .inl (cI, 41, .inl (fun _ => 0))), (a4_2, .inl (cZ, 41, .inl (fun _ => 0)))] H := hP
  have hD : va_D A [(h, .inr (2, [.ref q_1, .ref q_3, .int 0, .int 0, .int 0, .int (-1), .int 0, .int 0, .int 0, .int 0, .int 0, .int 0])), (q_1, .inr (4, [.ref u2, .int 0, .int 0, .int 0])), (u2, .inl (cI, 100, .inl (fun _ => 0))), (q_3, .inr (0, [.ref a4_0, .ref a4_1, .ref a4_2, .int 0, .int 0, .int 0, .int 0, .int 0, .int 0])), (a4_0, .inl (cI, 3075, .inl (fun _ => 0))), (a4_1, .inl (cI, 41, .inl (fun _ => 0))), (a4_2, .inl (cZ, 41, .inl (fun _ => 0)))] := hD
  refine lv_aload_n hx hb dX3_init_51 rfl (lv_at hl 0 rfl) ?_
  refine lv_iconst (v := 0) hx hb dX3_init_52 (by decide) ?_
  refine va_put (D := D) (ci := 2) (v := .int 0) (ty := .int) (C := RX3) (T := TX3) (N := 12) hx hb hts hiX3 tyX3 tyX3_ok nmX3 hown hK hP hD hS 0 rfl rfl 7 (by decide) k42 (fun _ h9 => h9) rfl (by decide +kernel) rfl rfl (Nat.le_of_ble_eq_true rfl) dX3_init_53 (fun H locs hP hD hS => ?_)
  have hP : va_P D vwCl [(h, .inr (2, [.ref q_1, .ref q_3, .int 0, .int 0, .int 0, .int (-1), .int 0, .int 0, .int 0, .int 0, .int 0, .int 0])), (q_1, .inr (4, [.ref u2, .int 0, .int 0, .int 0])), (u2, .inl (cI, 100, .inl (fun _ => 0))), (q_3, .inr (0, [.ref a4_0, .ref a4_1, .ref a4_2, .int 0, .int 0, .int 0, .int 0, .int 0, .int 0])), (a4_0, .inl (cI, 3075, .inl (fun _ => 0))), (a4_1, .inl (cI, 41, .inl (fun _ => 0))), (a4_2, .inl (cZ, 41, .inl (fun _ => 0)))] H := hP
  have hD : va_D A [(h, .inr (2, [.ref q_1, .ref q_3, .int 0, .int 0, .int 0, .int (-1), .int 0, .int 0, .int 0, .int 0, .int 0, .int 0])), (q_1, .inr (4, [.ref u2, .int 0, .int 0, .int 0])), (u2, .inl (cI, 100, .inl (fun _ => 0))), (q_3, .inr (0, [.ref a4_0, .ref a4_1, .ref a4_2, .int 0, .int 0, .int 0, .int 0, .int 0, .int 0])), (a4_0, .inl (cI, 3075, .inl (fun _ => 0))), (a4_1, .inl (cI, 41, .inl (fun _ => 0))), (a4_2, .inl (cZ, 41, .inl (fun _ => 0)))] := hD
  refine lv_aload_n hx hb dX3_init_56 rfl (lv_at hl 0 rfl) ?_
  refine lv_iconst (v := 0) hx hb dX3_init_57 (by decide) ?_
  refine va_put (D := D) (ci := 2) (v := .int 0) (ty := .int) (C := RX3) (T := TX3) (N := 12) hx hb hts hiX3 tyX3 tyX3_ok nmX3 hown hK hP hD hS 0 rfl rfl 8 (by decide) k45 (fun _ h9 => h9) rfl (by decide +kernel) rfl rfl (Nat.le_of_ble_eq_true rfl) dX3_init_58 (fun H locs hP hD hS => ?_)
  have hP : va_P D vwCl [(h, .inr (2, [.ref q_1, .ref q_3, .int 0, .int 0, .int 0, .int (-1), .int 0, .int 0, .int 0, .int 0, .int 0, .int 0])), (q_1, .inr (4, [.ref u2, .int 0, .int 0, .int 0])), (u2, .inl (cI, 100, .inl (fun _ => 0))), (q_3, .inr (0, [.ref a4_0, .ref a4_1, .ref a4_2, .int 0, .int 0, .int 0, .int 0, .int 0, .int 0])), (a4_0, .inl (cI, 3075, .inl (fun _ => 0))), (a4_1, .inl (cI, 41, .inl (fun _ => 0))), (a4_2, .inl (cZ, 41, .inl (fun _ => 0)))] H := hP
  have hD : va_D A [(h, .inr (2, [.ref q_1, .ref q_3, .int 0, .int 0, .int 0, .int (-1), .int 0, .int 0, .int 0, .int 0, .int 0, .int 0])), (q_1, .inr (4, [.ref u2, .int 0, .int 0, .int 0])), (u2, .inl (cI, 100, .inl (fun _ => 0))), (q_3, .inr (0, [.ref a4_0, .ref a4_1, .ref a4_2, .int 0, .int 0, .int 0, .int 0, .int 0, .int 0])), (a4_0, .inl (cI, 3075, .inl (fun _ => 0))), (a4_1, .inl (cI, 41, .inl (fun _ => 0))), (a4_2, .inl (cZ, 41, .inl (fun _ => 0)))] := hD
  refine lv_aload_n hx hb dX3_init_61 rfl (lv_at hl 0 rfl) ?_
  refine lv_iconst (v := 0) hx hb dX3_init_62 (by decide) ?_
  refine va_put (D := D) (ci := 2) (v := .int 0) (ty := .int) (C := RX3) (T := TX3) (N := 12) hx hb hts hiX3 tyX3 tyX3_ok nmX3 hown hK hP hD hS 0 rfl rfl 9 (by decide) k48 (fun _ h9 => h9) rfl (by decide +kernel) rfl rfl (Nat.le_of_ble_eq_true rfl) dX3_init_63 (fun H locs hP hD hS => ?_)
  have hP : va_P D vwCl [(h, .inr (2, [.ref q_1, .ref q_3, .int 0, .int 0, .int 0, .int (-1), .int 0, .int 0, .int 0, .int 0, .int 0, .int 0])), (q_1, .inr (4, [.ref u2, .int 0, .int 0, .int 0])), (u2, .inl (cI, 100, .inl (fun _ => 0))), (q_3, .inr (0, [.ref a4_0, .ref a4_1, .ref a4_2, .int 0, .int 0, .int 0, .int 0, .int 0, .int 0])), (a4_0, .inl (cI, 3075, .inl (fun _ => 0))), (a4_1, .inl (cI, 41, .inl (fun _ => 0))), (a4_2, .inl (cZ, 41, .inl (fun _ => 0)))] H := hP
  have hD : va_D A [(h, .inr (2, [.ref q_1, .ref q_3, .int 0, .int 0, .int 0, .int (-1), .int 0, .int 0, .int 0, .int 0, .int 0, .int 0])), (q_1, .inr (4, [.ref u2, .int 0, .int 0, .int 0])), (u2, .inl (cI, 100, .inl (fun _ => 0))), (q_3, .inr (0, [.ref a4_0, .ref a4_1, .ref a4_2, .int 0, .int 0, .int 0, .int 0, .int 0, .int 0])), (a4_0, .inl (cI, 3075, .inl (fun _ => 0))), (a4_1, .inl (cI, 41, .inl (fun _ => 0))), (a4_2, .inl (cZ, 41, .inl (fun _ => 0)))] := hD
  refine lv_aload_n hx hb dX3_init_66 rfl (lv_at hl 0 rfl) ?_
  refine lv_iconst (v := 0) hx hb dX3_init_67 (by decide) ?_
  refine va_put (D := D) (ci := 2) (v := .int 0) (ty := .int) (C := RX3) (T := TX3) (N := 12) hx hb hts hiX3 tyX3 tyX3_ok nmX3 hown hK hP hD hS 0 rfl rfl 10 (by decide) k51 (fun _ h9 => h9) rfl (by decide +kernel) rfl rfl (Nat.le_of_ble_eq_true rfl) dX3_init_68 (fun H locs hP hD hS => ?_)
  have hP : va_P D vwCl [(h, .inr (2, [.ref q_1, .ref q_3, .int 0, .int 0, .int 0, .int (-1), .int 0, .int 0, .int 0, .int 0, .int 0, .int 0])), (q_1, .inr (4, [.ref u2, .int 0, .int 0, .int 0])), (u2, .inl (cI, 100, .inl (fun _ => 0))), (q_3, .inr (0, [.ref a4_0, .ref a4_1, .ref a4_2, .int 0, .int 0, .int 0, .int 0, .int 0, .int 0])), (a4_0, .inl (cI, 3075, .inl (fun _ => 0))), (a4_1, .inl (cI, 41, .inl (fun _ => 0))), (a4_2, .inl (cZ, 41, .inl (fun _ => 0)))] H := hP
  have hD : va_D A [(h, .inr (2, [.ref q_1, .ref q_3, .int 0, .int 0, .int 0, .int (-1), .int 0, .int 0, .int 0, .int 0, .int 0, .int 0])), (q_1, .inr (4, [.ref u2, .int 0, .int 0, .int 0])), (u2, .inl (cI, 100, .inl (fun _ => 0))), (q_3, .inr (0, [.ref a4_0, .ref a4_1, .ref a4_2, .int 0, .int 0, .int 0, .int 0, .int 0, .int 0])), (a4_0, .inl (cI, 3075, .inl (fun _ => 0))), (a4_1, .inl (cI, 41, .inl (fun _ => 0))), (a4_2, .inl (cZ, 41, .inl (fun _ => 0)))] := hD
  refine lv_aload_n hx hb dX3_init_71 rfl (lv_at hl 0 rfl) ?_
  refine lv_iconst (v := 0) hx hb dX3_init_72 (by decide) ?_
  refine va_put (D := D) (ci := 2) (v := .int 0) (ty := .int) (C := RX3) (T := TX3) (N := 12) hx hb hts hiX3 tyX3 tyX3_ok nmX3 hown hK hP hD hS 0 rfl rfl 11 (by decide) k54 (fun _ h9 => h9) rfl (by decide +kernel) rfl rfl (Nat.le_of_ble_eq_true rfl) dX3_init_73 (fun H locs hP hD hS => ?_)
  have hP : va_P D vwCl [(h, .inr (2, [.ref q_1, .ref q_3, .int 0, .int 0, .int 0, .int (-1), .int 0, .int 0, .int 0, .int 0, .int 0, .int 0])), (q_1, .inr (4, [.ref u2, .int 0, .int 0, .int 0])), (u2, .inl (cI, 100, .inl (fun _ => 0))), (q_3, .inr (0, [.ref a4_0, .ref a4_1, .ref a4_2, .int 0, .int 0, .int 0, .int 0, .int 0, .int 0])), (a4_0, .inl (cI, 3075, .inl (fun _ => 0))), (a4_1, .inl (cI, 41, .inl (fun _ => 0))), (a4_2, .inl (cZ, 41, .inl (fun _ => 0)))] H := hP
  have hD : va_D A [(h, .inr (2, [.ref q_1, .ref q_3, .int 0, .int 0, .int 0, .int (-1), .int 0, .int 0, .int 0, .int 0, .int 0, .int 0])), (q_1, .inr (4, [.ref u2, .int 0, .int 0, .int 0])), (u2, .inl (cI, 100, .inl (fun _ => 0))), (q_3, .inr (0, [.ref a4_0, .ref a4_1, .ref a4_2, .int 0, .int 0, .int 0, .int 0, .int 0, .int 0])), (a4_0, .inl (cI, 3075, .inl (fun _ => 0))), (a4_1, .inl (cI, 41, .inl (fun _ => 0))), (a4_2, .inl (cZ, 41, .inl (fun _ => 0)))] := hD
  exact W.vret hx hb hr (fun t ht hW => ⟨⟨(q_1, u2, q_3, a4_0, a4_1, a4_2), rfl, trivial, by rw [ht]; exact hP, va_K.moved hW.alike hK, hD⟩, hS.F ht⟩) hS.2.2 dX3_init_76

abbrev rmX6_init : Room := { frames := 3, cells := 11, slots := 11688, locals := 60 }
set_option maxHeartbeats 4000000 in
set_option maxRecDepth 100000 in
theorem c_X6_init (l : Launch) (D : va_G) (cB cI cZ : ClassId) (h : Nat) : CtN l yX6_init wsX6_init rmX6_init D (tyv cB cI cZ) [.ref h] [(h, .inr (5, [.null, .null, .null]))] (fun _ : Nat × Nat × Nat × Nat × Nat × Nat × Nat × Nat × Nat × Nat × Nat => True) (fun u : Nat × Nat × Nat × Nat × Nat × Nat × Nat × Nat × Nat × Nat × Nat => [(h, .inr (5, [.ref u.1, .ref u.2.2.1, .ref u.2.2.2.2.1])), (u.1, .inr (1, [.ref u.2.1, .int 0])), (u.2.1, .inl (cB, 8000, .inl (fun _ => 0))), (u.2.2.1, .inr (3, [.ref u.2.2.2.1, .int 0, .int (-1), .int 0])), (u.2.2.2.1, .inl (cI, 400, .inl (fun _ => 0))), (u.2.2.2.2.1, .inr (2, [.ref u.2.2.2.2.2.1, .ref u.2.2.2.2.2.2.2.1, .int 0, .int 0, .int 0, .int (-1), .int 0, .int 0, .int 0, .int 0, .int 0, .int 0])), (u.2.2.2.2.2.1, .inr (4, [.ref u.2.2.2.2.2.2.1, .int 0, .int 0, .int 0])), (u.2.2.2.2.2.2.1, .inl (cI, 100, .inl (fun _ => 0))), (u.2.2.2.2.2.2.2.1, .inr (0, [.ref u.2.2.2.2.2.2.2.2.1, .ref u.2.2.2.2.2.2.2.2.2.1, .ref u.2.2.2.2.2.2.2.2.2.2, .int 0, .int 0, .int 0, .int 0, .int 0, .int 0])), (u.2.2.2.2.2.2.2.2.1, .inl (cI, 3075, .inl (fun _ => 0))), (u.2.2.2.2.2.2.2.2.2.1, .inl (cI, 41, .inl (fun _ => 0))), (u.2.2.2.2.2.2.2.2.2.2, .inl (cZ, 41, .inl (fun _ => 0)))]) 11 11688 := by
  refine CtN.of (cc := cX6_init) (maxL := 1) (ret := none) (by decide +kernel) rfl rfl (Nat.le_of_ble_eq_true rfl) ?_
  intro p e s m below meth c A ls hx hb hr hml hown hts hlocks hin hE hP hK hD hA hS hl
  have hown : s.vm.findClass RX6 = some m.cls := hown
  have hl : lv_has ls 1 [(0, .ref h)] := hl
  have hP : va_P D vwCl [(h, .inr (5, [.null, .null, .null]))] s.heap := hP
  have hD : va_D A [(h, .inr (5, [.null, .null, .null]))] := hD
  have hiX2 : ∀ w ∈ wsX20, w ∈ wsX6_init := by decide +kernel
  have hiX3 : ∀ w ∈ wsX30, w ∈ wsX6_init := by decide +kernel
  have hiX4 : ∀ w ∈ wsX40, w ∈ wsX6_init := by decide +kernel
  have hiX6 : ∀ w ∈ wsX60, w ∈ wsX6_init := by decide +kernel
  have k1 := hts (.methodLink RX6 1 objectInit) (by decide +kernel)
  have k10 := hts (.fieldLink RX6 10 "CodedGroups" "wire" "LCodedGroups$Line;") (by decide +kernel)
  have k19 := hts (.fieldLink RX6 19 "CodedGroups" "sender" "LCodedGroups$Sender;") (by decide +kernel)
  have k26 := hts (.fieldLink RX6 26 "CodedGroups" "receiver" "LCodedGroups$Receiver;") (by decide +kernel)
  have kc16 := hts (.classLink RX6 16 RX4) (by decide +kernel)
  have kc23 := hts (.classLink RX6 23 RX3) (by decide +kernel)
  have kc7 := hts (.classLink RX6 7 RX2) (by decide +kernel)
  have kiX2 := hts (.initialized RX2) (by decide +kernel)
  have kiX3 := hts (.initialized RX3) (by decide +kernel)
  have kiX4 := hts (.initialized RX4) (by decide +kernel)
  have kmX2_init := hts (.instanceMethod yX2_init) (by decide +kernel)
  have kmX3_init := hts (.instanceMethod yX3_init) (by decide +kernel)
  have kmX4_init := hts (.instanceMethod yX4_init) (by decide +kernel)
  have knX2 := hts (.instantiable RX2 2) (by decide +kernel)
  have knX3 := hts (.instantiable RX3 12) (by decide +kernel)
  have knX4 := hts (.instantiable RX4 4) (by decide +kernel)
  have koi := hts (.instanceMethod objectInit) (by decide +kernel)
  refine lv_aload_n hx hb dX6_init_0 rfl (lv_at hl 0 rfl) ?_
  refine W.objInit hx hb hown k1 koi (hts (.code objectInit ⟨#[0xb1]⟩ 1 none) (List.mem_of_getElem? (i := 3) rfl)) rfl (by rw [hml]; exact hl.1) rfl dX6_init_1 (Nat.le_of_ble_eq_true rfl) (Nat.le_of_ble_eq_true rfl) ?_
  refine W.eq (g2 := F0 m 4 ls []) rfl ?_
  refine lv_aload_n hx hb dX6_init_4 rfl (lv_at hl 0 rfl) ?_
  refine va_new (ci := 1) (fs := [.null, .int 0]) (C := RX2) (T := TX2) (N := 2) hx hb hts hiX2 tyX2 tyX2_ok hown kc7 knX2 kiX2 hK hP hD hS hA rfl df_X2 (Nat.le_of_ble_eq_true rfl) (Nat.le_of_ble_eq_true rfl) dX6_init_5 (fun q_1 H hP hD hS => ?_)
  have hP : va_P D vwCl [(h, .inr (5, [.null, .null, .null])), (q_1, .inr (1, [.null, .int 0]))] H := hP
  have hD : va_D A [(h, .inr (5, [.null, .null, .null])), (q_1, .inr (1, [.null, .int 0]))] := hD
  refine W.widen (k := 1) (n := 2) (Nat.le_of_ble_eq_true rfl) (Nat.le_of_ble_eq_true rfl) ?_
  refine lv_dup hx hb dX6_init_8 rfl ?_
  refine kcalln (fun u : Nat => [(q_1, .inr (1, [.ref u, .int 0])), (u, .inl (cB, 8000, .inl (fun _ => 0)))]) (fun u : Nat => [(h, .inr (5, [.null, .null, .null])), (q_1, .inr (1, [.ref u, .int 0])), (u, .inl (cB, 8000, .inl (fun _ => 0)))]) (wr := [(h, .inr (5, [.null, .null, .null]))]) (va_runIN (As := []) (rest := [.ref q_1, .ref h]) ⟨hx, hb, hml, hown, hts⟩ (c_X2_init l D cB cI cZ q_1 H.size) ⟨va_cnB 0 hts gX6_init_X2_init_n9 rfl rfl rfl (hE.nestW 0 rfl) kiX2 (by decide +kernel) ⟨Nat.le_of_ble_eq_true rfl, Nat.le_of_ble_eq_true rfl⟩, rfl, kmX2_init⟩ ⟨kP_blind, kpre [.ref q_1] hE hK hP hD hS hA [1] rfl (by decide)⟩ rfl rfl hl.1 rfl (lv_room (Nat.le_of_ble_eq_true rfl)) dX6_init_9 ⟨Nat.le_of_ble_eq_true rfl, Nat.le_of_ble_eq_true rfl⟩) hP hD hS hA [1] [0] [0, 1, 2] rfl rfl (by decide) (by decide) (fun _ => rfl) (by decide) (fun u2 hu H locs hP hD hS => ?_)
  have hP : va_P D vwCl [(h, .inr (5, [.null, .null, .null])), (q_1, .inr (1, [.ref u2, .int 0])), (u2, .inl (cB, 8000, .inl (fun _ => 0)))] H := hP
  have hD : va_D A [(h, .inr (5, [.null, .null, .null])), (q_1, .inr (1, [.ref u2, .int 0])), (u2, .inl (cB, 8000, .inl (fun _ => 0)))] := hD
  refine W.widen (k := 2) (n := 8002) (Nat.le_of_ble_eq_true rfl) (Nat.le_of_ble_eq_true rfl) ?_
  refine va_putF (D := D) (ci := 5) (v := .ref q_1) (ty := (.object "CodedGroups$Line")) (C := RX6) (T := TX6) (N := 3) hx hb hts hiX6 tyX6 tyX6_ok nmX6 hown hK hP hD hS 0 rfl rfl 0 (by decide) k10 (fun _ h9 => h9) rfl hin rfl (by decide +kernel) rfl rfl (Nat.le_of_ble_eq_true rfl) dX6_init_12 (fun H locs hP hD hS => ?_)
  have hP : va_P D vwCl [(h, .inr (5, [.ref q_1, .null, .null])), (q_1, .inr (1, [.ref u2, .int 0])), (u2, .inl (cB, 8000, .inl (fun _ => 0)))] H := hP
  have hD : va_D A [(h, .inr (5, [.ref q_1, .null, .null])), (q_1, .inr (1, [.ref u2, .int 0])), (u2, .inl (cB, 8000, .inl (fun _ => 0)))] := hD
  refine lv_aload_n hx hb dX6_init_15 rfl (lv_at hl 0 rfl) ?_
  refine va_new (ci := 3) (fs := [.null, .int 0, .int 0, .int 0]) (C := RX4) (T := TX4) (N := 4) hx hb hts hiX4 tyX4 tyX4_ok hown kc16 knX4 kiX4 hK hP hD hS hA rfl df_X4 (Nat.le_of_ble_eq_true rfl) (Nat.le_of_ble_eq_true rfl) dX6_init_16 (fun q_3 H hP hD hS => ?_)
  have hP : va_P D vwCl [(h, .inr (5, [.ref q_1, .null, .null])), (q_1, .inr (1, [.ref u2, .int 0])), (u2, .inl (cB, 8000, .inl (fun _ => 0))), (q_3, .inr (3, [.null, .int 0, .int 0, .int 0]))] H := hP
  have hD : va_D A [(h, .inr (5, [.ref q_1, .null, .null])), (q_1, .inr (1, [.ref u2, .int 0])), (u2, .inl (cB, 8000, .inl (fun _ => 0))), (q_3, .inr (3, [.null, .int 0, .int 0, .int 0]))] := hD
  refine W.widen (k := 3) (n := 8006) (Nat.le_of_ble_eq_true rfl) (Nat.le_of_ble_eq_true rfl) ?_
  refine lv_dup hx hb dX6_init_19 rfl ?_
  refine kcalln (fun u : Nat => [(q_3, .inr (3, [.ref u, .int 0, .int (-1), .int 0])), (u, .inl (cI, 400, .inl (fun _ => 0)))]) (fun u : Nat => [(h, .inr (5, [.ref q_1, .null, .null])), (q_1, .inr (1, [.ref u2, .int 0])), (u2, .inl (cB, 8000, .inl (fun _ => 0))), (q_3, .inr (3, [.ref u, .int 0, .int (-1), .int 0])), (u, .inl (cI, 400, .inl (fun _ => 0)))]) (wr := [(h, .inr (5, [.ref q_1, .null, .null])), (q_1, .inr (1, [.ref u2, .int 0])), (u2, .inl (cB, 8000, .inl (fun _ => 0)))]) (va_runIN (As := []) (rest := [.ref q_3, .ref h]) ⟨hx, hb, hml, hown, hts⟩ (c_X4_init l D cB cI cZ q_3 H.size) ⟨va_cnB 0 hts gX6_init_X4_init_n18 rfl rfl rfl (hE.nestW 1 rfl) kiX4 (by decide +kernel) ⟨Nat.le_of_ble_eq_true rfl, Nat.le_of_ble_eq_true rfl⟩, rfl, kmX4_init⟩ ⟨kP_blind, kpre [.ref q_3] hE hK hP hD hS hA [3] rfl (by decide)⟩ rfl rfl hl.1 rfl (lv_room (Nat.le_of_ble_eq_true rfl)) dX6_init_20 ⟨Nat.le_of_ble_eq_true rfl, Nat.le_of_ble_eq_true rfl⟩) hP hD hS hA [3] [0, 1, 2] [0, 1, 2, 3, 4] rfl rfl (by decide) (by decide) (fun _ => rfl) (by decide) (fun u4 hu H locs hP hD hS => ?_)
  have hP : va_P D vwCl [(h, .inr (5, [.ref q_1, .null, .null])), (q_1, .inr (1, [.ref u2, .int 0])), (u2, .inl (cB, 8000, .inl (fun _ => 0))), (q_3, .inr (3, [.ref u4, .int 0, .int (-1), .int 0])), (u4, .inl (cI, 400, .inl (fun _ => 0)))] H := hP
  have hD : va_D A [(h, .inr (5, [.ref q_1, .null, .null])), (q_1, .inr (1, [.ref u2, .int 0])), (u2, .inl (cB, 8000, .inl (fun _ => 0))), (q_3, .inr (3, [.ref u4, .int 0, .int (-1), .int 0])), (u4, .inl (cI, 400, .inl (fun _ => 0)))] := hD
  refine W.widen (k := 4) (n := 8406) (Nat.le_of_ble_eq_true rfl) (Nat.le_of_ble_eq_true rfl) ?_
  refine va_putF (D := D) (ci := 5) (v := .ref q_3) (ty := (.object "CodedGroups$Sender")) (C := RX6) (T := TX6) (N := 3) hx hb hts hiX6 tyX6 tyX6_ok nmX6 hown hK hP hD hS 0 rfl rfl 1 (by decide) k19 (fun _ h9 => h9) rfl hin rfl (by decide +kernel) rfl rfl (Nat.le_of_ble_eq_true rfl) dX6_init_23 (fun H locs hP hD hS => ?_)
  have hP : va_P D vwCl [(h, .inr (5, [.ref q_1, .ref q_3, .null])), (q_1, .inr (1, [.ref u2, .int 0])), (u2, .inl (cB, 8000, .inl (fun _ => 0))), (q_3, .inr (3, [.ref u4, .int 0, .int (-1), .int 0])), (u4, .inl (cI, 400, .inl (fun _ => 0)))] H := hP
  have hD : va_D A [(h, .inr (5, [.ref q_1, .ref q_3, .null])), (q_1, .inr (1, [.ref u2, .int 0])), (u2, .inl (cB, 8000, .inl (fun _ => 0))), (q_3, .inr (3, [.ref u4, .int 0, .int (-1), .int 0])), (u4, .inl (cI, 400, .inl (fun _ => 0)))] := hD
  refine lv_aload_n hx hb dX6_init_26 rfl (lv_at hl 0 rfl) ?_
  refine va_new (ci := 2) (fs := [.null, .null, .int 0, .int 0, .int 0, .int 0, .int 0, .int 0, .int 0, .int 0, .int 0, .int 0]) (C := RX3) (T := TX3) (N := 12) hx hb hts hiX3 tyX3 tyX3_ok hown kc23 knX3 kiX3 hK hP hD hS hA rfl df_X3 (Nat.le_of_ble_eq_true rfl) (Nat.le_of_ble_eq_true rfl) dX6_init_27 (fun q_5 H hP hD hS => ?_)
  have hP : va_P D vwCl [(h, .inr (5, [.ref q_1, .ref q_3, .null])), (q_1, .inr (1, [.ref u2, .int 0])), (u2, .inl (cB, 8000, .inl (fun _ => 0))), (q_3, .inr (3, [.ref u4, .int 0, .int (-1), .int 0])), (u4, .inl (cI, 400, .inl (fun _ => 0))), (q_5, .inr (2, [.null, .null, .int 0, .int 0, .int 0, .int 0, .int 0, .int 0, .int 0, .int 0, .int 0, .int 0]))] H := hP
  have hD : va_D A [(h, .inr (5, [.ref q_1, .ref q_3, .null])), (q_1, .inr (1, [.ref u2, .int 0])), (u2, .inl (cB, 8000, .inl (fun _ => 0))), (q_3, .inr (3, [.ref u4, .int 0, .int (-1), .int 0])), (u4, .inl (cI, 400, .inl (fun _ => 0))), (q_5, .inr (2, [.null, .null, .int 0, .int 0, .int 0, .int 0, .int 0, .int 0, .int 0, .int 0, .int 0, .int 0]))] := hD
  refine W.widen (k := 5) (n := 8418) (Nat.le_of_ble_eq_true rfl) (Nat.le_of_ble_eq_true rfl) ?_
  refine lv_dup hx hb dX6_init_30 rfl ?_
  refine kcalln (fun u : Nat × Nat × Nat × Nat × Nat × Nat => [(q_5, .inr (2, [.ref u.1, .ref u.2.2.1, .int 0, .int 0, .int 0, .int (-1), .int 0, .int 0, .int 0, .int 0, .int 0, .int 0])), (u.1, .inr (4, [.ref u.2.1, .int 0, .int 0, .int 0])), (u.2.1, .inl (cI, 100, .inl (fun _ => 0))), (u.2.2.1, .inr (0, [.ref u.2.2.2.1, .ref u.2.2.2.2.1, .ref u.2.2.2.2.2, .int 0, .int 0, .int 0, .int 0, .int 0, .int 0])), (u.2.2.2.1, .inl (cI, 3075, .inl (fun _ => 0))), (u.2.2.2.2.1, .inl (cI, 41, .inl (fun _ => 0))), (u.2.2.2.2.2, .inl (cZ, 41, .inl (fun _ => 0)))]) (fun u : Nat × Nat × Nat × Nat × Nat × Nat => [(h, .inr (5, [.ref q_1, .ref q_3, .null])), (q_1, .inr (1, [.ref u2, .int 0])), (u2, .inl (cB, 8000, .inl (fun _ => 0))), (q_3, .inr (3, [.ref u4, .int 0, .int (-1), .int 0])), (u4, .inl (cI, 400, .inl (fun _ => 0))), (q_5, .inr (2, [.ref u.1, .ref u.2.2.1, .int 0, .int 0, .int 0, .int (-1), .int 0, .int 0, .int 0, .int 0, .int 0, .int 0])), (u.1, .inr (4, [.ref u.2.1, .int 0, .int 0, .int 0])), (u.2.1, .inl (cI, 100, .inl (fun _ => 0))), (u.2.2.1, .inr (0, [.ref u.2.2.2.1, .ref u.2.2.2.2.1, .ref u.2.2.2.2.2, .int 0, .int 0, .int 0, .int 0, .int 0, .int 0])), (u.2.2.2.1, .inl (cI, 3075, .inl (fun _ => 0))), (u.2.2.2.2.1, .inl (cI, 41, .inl (fun _ => 0))), (u.2.2.2.2.2, .inl (cZ, 41, .inl (fun _ => 0)))]) (wr := [(h, .inr (5, [.ref q_1, .ref q_3, .null])), (q_1, .inr (1, [.ref u2, .int 0])), (u2, .inl (cB, 8000, .inl (fun _ => 0))), (q_3, .inr (3, [.ref u4, .int 0, .int (-1), .int 0])), (u4, .inl (cI, 400, .inl (fun _ => 0)))]) (va_runIN (As := []) (rest := [.ref q_5, .ref h]) ⟨hx, hb, hml, hown, hts⟩ (c_X3_init l D cB cI cZ q_5 H.size) ⟨va_cnB 0 hts gX6_init_X3_init_n25 rfl rfl rfl (hE.nestW 2 rfl) kiX3 (by decide +kernel) ⟨Nat.le_of_ble_eq_true rfl, Nat.le_of_ble_eq_true rfl⟩, rfl, kmX3_init⟩ ⟨kP_blind, kpre [.ref q_5] hE hK hP hD hS hA [5] rfl (by decide)⟩ rfl rfl hl.1 rfl (lv_room (Nat.le_of_ble_eq_true rfl)) dX6_init_31 ⟨Nat.le_of_ble_eq_true rfl, Nat.le_of_ble_eq_true rfl⟩) hP hD hS hA [5] [0, 1, 2, 3, 4] [0, 1, 2, 3, 4, 5, 6, 7, 8, 9, 10, 11] rfl rfl (by decide) (by decide) (fun _ => rfl) (by decide) (fun u6 hu H locs hP hD hS => ?_)
  obtain ⟨a6_0, a6_1, a6_2, a6_3, a6_4, a6_5⟩ := u6
  have hP : va_P D vwCl [(h, .inr (5, [.ref q_1, .ref q_3, .null])), (q_1, .inr (1, [.ref u2, .int 0])), (u2, .inl (cB, 8000, .inl (fun _ => 0))), (q_3, .inr (3, [.ref u4, .int 0, .int (-1), .int 0])), (u4, .inl (cI, 400, .inl (fun _ => 0))), (q_5, .inr (2, [.ref a6_0, .ref a6_2, .int 0, .int 0, .int 0, .int (-1), .int 0, .int 0, .int 0, .int 0, .int 0, .int 0])), (a6_0, .inr (4, [.ref a6_1, .int 0, .int 0, .int 0])), (a6_1, .inl (cI, 100, .inl (fun _ => 0))), (a6_2, .inr (0, [.ref a6_3, .ref a6_4, .ref a6_5, .int 0, .int 0, .int 0, .int 0, .int 0, .int 0])), (a6_3, .inl (cI, 3075, .inl (fun _ => 0))), (a6_4, .inl (cI, 41, .inl (fun _ => 0))), (a6_5, .inl (cZ, 41, .inl (fun _ => 0)))] H := hP
  have hD : va_D A [(h, .inr (5, [.ref q_1, .ref q_3, .null])), (q_1, .inr (1, [.ref u2, .int 0])), (u2, .inl (cB, 8000, .inl (fun _ => 0))), (q_3, .inr (3, [.ref u4, .int 0, .int (-1), .int 0])), (u4, .inl (cI, 400, .inl (fun _ => 0))), (q_5, .inr (2, [.ref a6_0, .ref a6_2, .int 0, .int 0, .int 0, .int (-1), .int 0, .int 0, .int 0, .int 0, .int 0, .int 0])), (a6_0, .inr (4, [.ref a6_1, .int 0, .int 0, .int 0])), (a6_1, .inl (cI, 100, .inl (fun _ => 0))), (a6_2, .inr (0, [.ref a6_3, .ref a6_4, .ref a6_5, .int 0, .int 0, .int 0, .int 0, .int 0, .int 0])), (a6_3, .inl (cI, 3075, .inl (fun _ => 0))), (a6_4, .inl (cI, 41, .inl (fun _ => 0))), (a6_5, .inl (cZ, 41, .inl (fun _ => 0)))] := hD
  refine W.widen (k := 11) (n := 11688) (Nat.le_of_ble_eq_true rfl) (Nat.le_of_ble_eq_true rfl) ?_
  refine va_putF (D := D) (ci := 5) (v := .ref q_5) (ty := (.object "CodedGroups$Receiver")) (C := RX6) (T := TX6) (N := 3) hx hb hts hiX6 tyX6 tyX6_ok nmX6 hown hK hP hD hS 0 rfl rfl 2 (by decide) k26 (fun _ h9 => h9) rfl hin rfl (by decide +kernel) rfl rfl (Nat.le_of_ble_eq_true rfl) dX6_init_34 (fun H locs hP hD hS => ?_)
  have hP : va_P D vwCl [(h, .inr (5, [.ref q_1, .ref q_3, .ref q_5])), (q_1, .inr (1, [.ref u2, .int 0])), (u2, .inl (cB, 8000, .inl (fun _ => 0))), (q_3, .inr (3, [.ref u4, .int 0, .int (-1), .int 0])), (u4, .inl (cI, 400, .inl (fun _ => 0))), (q_5, .inr (2, [.ref a6_0, .ref a6_2, .int 0, .int 0, .int 0, .int (-1), .int 0, .int 0, .int 0, .int 0, .int 0, .int 0])), (a6_0, .inr (4, [.ref a6_1, .int 0, .int 0, .int 0])), (a6_1, .inl (cI, 100, .inl (fun _ => 0))), (a6_2, .inr (0, [.ref a6_3, .ref a6_4, .ref a6_5, .int 0, .int 0, .int 0, .int 0, .int 0, .int 0])), (a6_3, .inl (cI, 3075, .inl (fun _ => 0))), (a6_4, .inl (cI, 41, .inl (fun _ => 0))), (a6_5, .inl (cZ, 41, .inl (fun _ => 0)))] H := hP
  have hD : va_D A [(h, .inr (5, [.ref q_1, .ref q_3, .ref q_5])), (q_1, .inr (1, [.ref u2, .int 0])), (u2, .inl (cB, 8000, .inl (fun _ => 0))), (q_3, .inr (3, [.ref u4, .int 0, .int (-1), .int 0])), (u4, .inl (cI, 400, .inl (fun _ => 0))), (q_5, .inr (2, [.ref a6_0, .ref a6_2, .int 0, .int 0, .int 0, .int (-1), .int 0, .int 0, .int 0, .int 0, .int 0, .int 0])), (a6_0, .inr (4, [.ref a6_1, .int 0, .int 0, .int 0])), (a6_1, .inl (cI, 100, .inl (fun _ => 0))), (a6_2, .inr (0, [.ref a6_3, .ref a6_4, .ref a6_5, .int 0, .int 0, .int 0, .int 0, .int 0, .int 0])), (a6_3, .inl (cI, 3075, .inl (fun _ => 0))), (a6_4, .inl (cI, 41, .inl (fun _ => 0))), (a6_5, .inl (cZ, 41, .inl (fun _ => 0)))] := hD
  exact W.vret hx hb hr (fun t ht hW => ⟨⟨(q_1, u2, q_3, u4, q_5, a6_0, a6_1, a6_2, a6_3, a6_4, a6_5), rfl, trivial, by rw [ht]; exact hP, va_K.moved hW.alike hK, hD⟩, hS.F ht⟩) hS.2.2 dX6_init_37

/-! ===== the constructors: an engine over a world that grows ===== -/
def aoA (U : State) : Prop := (Cond.arrayOver (.array .int)).before #[] U = true
theorem aoA_spec {U : State} (h : aoA U) : ∃ comp c k, U.vm.findClass (FieldType.array .int).toString = some comp ∧ (U.vm.classes.findIdx? fun (x : Class) => match x.kind with | .array component _ => component == comp | _ => false) = some c ∧ U.vm.classes[c]? = some k ∧ k.kind = .array comp (.array .int) ∧ U.vm.findClass ("[" ++ (FieldType.array .int).toString) = some c := by
  unfold aoA Cond.before at h
  simp only [Cond.holds, Cond.value, beq_iff_eq] at h
  cases hc : U.vm.findClass (FieldType.array .int).toString with
  | none => simp [hc] at h
  | some comp =>
    simp only [hc, Option.bind_some, Option.bind_eq_some_iff, Option.map_eq_some_iff] at h
    obtain ⟨c, hi, k, hk, hb⟩ := h
    obtain ⟨hlt, hp, -⟩ := Array.findIdx?_eq_some_iff_getElem.mp hi
    have hk2 : U.vm.classes[c] = k := by
      have h9 := hk
      rw [Array.getElem?_eq_getElem hlt] at h9
      exact Option.some.inj h9
    rw [hk2] at hp
    cases hkind : k.kind with
    | array component ty =>
      rw [hkind] at hp hb
      simp only [beq_iff_eq] at hp
      simp only [Bool.and_eq_true, decide_eq_true_eq] at hb
      exact ⟨comp, c, k, rfl, hi, hk, by rw [hkind, hp, hb.1], hb.2⟩
    | _ => rw [hkind] at hp; simp at hp
theorem aoA.moved {u U : State} (hvm : u.vm.Alike U.vm) (h : aoA u) : aoA U := by
  obtain ⟨comp, c, k, h1, h2, h3, h4, h5⟩ := aoA_spec h
  obtain ⟨k', hk', he⟩ := hvm.2.2 _ _ h3
  have e1 := va_idx_bare U.vm comp
  have e2 := va_idx_bare u.vm comp
  first | rw [hvm.bare_eq] at e1 | rw [← hvm.bare_eq] at e1
  have hi := e1.symm.trans (e2.trans h2)
  have hkind : k'.kind = .array comp (.array .int) := by rw [he]; exact h4
  have f1 : U.vm.findClass (FieldType.array .int).toString = some comp := by rw [hvm.findClass]; exact h1
  have f2 : U.vm.findClass ("[" ++ (FieldType.array .int).toString) = some c := by rw [hvm.findClass]; exact h5
  unfold aoA Cond.before Cond.holds
  simp only [Cond.value]
  rw [f1, Option.bind_some]
  refine (congrArg (fun o : Option Nat => (o.bind (fun c => (U.vm.classes[c]?).map fun (k : Class) => match k.kind with | .array _ ty => decide (ty = FieldType.array .int) && decide (U.vm.findClass ("[" ++ (FieldType.array .int).toString) = some c) | _ => false) == some true)) hi).trans ?_
  simp [hk', hkind, f2]
def NZq : List (String × Nat × MethodName) := [(RX7, 11, yX6_init), (RX7, 20, yX2_init), (RX2, 23, yX0_init), (RX7, 27, yX3_init), (RX7, 34, yX1_init), (RX1, 11, yX0_init), (RX7, 49, yX4_init)]
/-- the words of the tables that a state must say for itself -/
def NZ (U : State) : Prop := (∀ q ∈ NZq, va_Nw (.methodLinkNest q.1 q.2.1 q.2.2 RX7) U) ∧ va_AO "ThreeRefusals$Sheet" U ∧ aoA U
theorem NZ.warm {s U : State} (hW : s.WarmedH U.vm) (h : NZ s) : NZ U := ⟨fun q hq => va_Nw.warmM hW (h.1 q hq), va_AO.moved hW.alike h.2.1, aoA.moved hW.alike h.2.2⟩
abbrev Bd : Type := Nat × va_E
def NPst (G : GX) (w : va_W) (sz : Nat) (U : State) : Prop := U.heap.size = sz ∧ va_P G.1 vwCl w U.heap ∧ (KK G U ∧ NZ U) ∧ va_D (fun _ => True) w
theorem NPst_blind (G : GX) (w : va_W) (sz : Nat) (av : List Value) : FrameBlind (va_Pc av (NPst G w sz)) := fun a U g mk q => by
  obtain ⟨q0, q1, qP, ⟨qK, qZ⟩, qD⟩ := q
  exact ⟨q0, q1, qP, ⟨va_K.moved (u := U) (U := U.calling g mk a) (Vm.Alike.refl U.vm) qK, fun x hx => va_Nw.same (u := U) (U := U.calling g mk a) rfl rfl (qZ.1 x hx), va_AO.moved (u := U) (U := U.calling g mk a) (Vm.Alike.refl U.vm) qZ.2.1, aoA.moved (u := U) (U := U.calling g mk a) (Vm.Alike.refl U.vm) qZ.2.2⟩, qD⟩
def NQ (G : GX) (Post : va_W → Prop) (A : Nat → Prop) : Array Value → State → Outcome → State → Prop := va_Qv Post (fun w t => va_P G.1 vwCl w t.heap ∧ KK G t ∧ va_D A w) A
/-- a constructor's contract: from the blank object x at o to the world w with Post o w -/
def NMet (M : MT) (rm : Room) (G : GX) (x : va_E) (Post : Nat → va_W → Prop) : Prop :=
  ∀ (l : Launch) (o sz : Nat), Met l M.1 (wsM M) rm (va_Pc [.ref o] (NPst G [(o, x)] sz)) (NQ G (Post o) (va_A [(o, x)] sz)) rm.cells rm.slots (va_A [(o, x)] sz)
def NAt (E : ET) (M : MT) (G : GX) (pc : Nat) (ls : List (Nat × Value)) (st : List Value) (ws : va_W) (cs : Nat × Nat) : Prop :=
  ∀ (p : Program) (l : Launch) (e : Env) (s : State) (m : MethodId) (args : Array Value) (below : List Frame) (meth : Method) (c : Code) (A : Nat → Prop) (H : Heap) (locs : List Loc) (lsr : Array Slot),
    CX M p s m args meth c G → NZ s → (M.1.name = "<init>" → meth.name = "<init>") → E.2.2.1 G A s → (∀ q : Nat, s.heap.size ≤ q → A q) → va_P G.1 vwCl ws H → va_D A ws → va_S A s.heap H locs → lv_has lsr M.2.2.1 ls →
    W p l e E.1 s m args below meth c H locs cs.1 cs.2 (E.2.2.2 G A below args s) (F0 m pc lsr st)
/-- the end of a constructor -/
def EN (rm : Room) (Post : va_W → Prop) : ET := (rm, (0, 0), fun _ _ _ => True, fun G A below args s => MQ below (NQ G Post A) args s rm.cells rm.slots A)
section NN
variable {E : ET} {M : MT} {G : GX} {pc : Nat} {ls : List (Nat × Value)} {st : List Value} {ws : va_W} {cs : Nat × Nat}
theorem NMet.start {rm : Room} {x : va_E} {Post : Nat → va_W → Prop} (hM : plainName M.1.cls = true) (hi : M.1.name = "<init>") (hn : 1 ≤ M.2.2.1) (k : ∀ o, NAt (EN rm (Post o)) M G 0 [(0, .ref o)] [] [(o, x)] (0, 0)) : NMet M rm G x Post := by
  intro l o sz
  refine Met.ofW (cc := M.2.1) (maxL := M.2.2.1) (ret := M.2.2.2) hM rfl ?_
  intro p e s m args below meth c s₁ B hml hv
  obtain ⟨rfl, hsz, hP, ⟨hK, hZ⟩, hD0⟩ := hv
  subst hsz
  have hts := atoms_spec (ws := wsM M) B.pre
  have hD : va_D (va_A [(o, x)] s.heap.size) [(o, x)] := hD0.self
  have hl := lv_entry ([.ref o]) (n := M.2.2.1) hn
  rw [lg_entry_eq]
  exact k o p l e s m _ below meth c (va_A [(o, x)] s.heap.size) s.heap [] _ ⟨B.exec, B.bytes, hml, findClass_of_methodNamed B.named, fun w hw => hts w (List.mem_cons_of_mem _ hw), B.returns, B.notSynchronized, hK⟩ hZ (fun _ => (name_of_methodNamed B.named B.method).1.trans hi) trivial (fun q h => Or.inr h) hP hD va_S.rf hl
theorem nq_ws {ws2 : va_W} (h : ws = ws2) (k : NAt E M G pc ls st ws2 cs) : NAt E M G pc ls st ws cs := h ▸ k
theorem nq_cs {cs2 : Nat × Nat} (h : cs = cs2) (k : NAt E M G pc ls st ws cs2) : NAt E M G pc ls st ws cs := h ▸ k
theorem nq_aload_n (j : Nat) {k : Fin 4} {i x : Nat} (hd : decode M.2.1 pc = .ok (.aload_n k, 1)) (hi : (k : Nat) = i) (hk : ls[j]? = some (i, .ref x)) (k : NAt E M G (pc + 1) ls (.ref x :: st) ws cs) : NAt E M G pc ls st ws cs :=
  fun p l e s m args below meth c A H locs lsr C hZ hin hX hA hP hD hS hl => lv_aload_n C.1 C.2.1 hd hi (lv_at hl j hk) (k p l e s m args below meth c A H locs lsr C hZ hin hX hA hP hD hS hl)
theorem nq_iload_n (j : Nat) {k : Fin 4} {i : Nat} {x : Int32} (hd : decode M.2.1 pc = .ok (.iload_n k, 1)) (hi : (k : Nat) = i) (hk : ls[j]? = some (i, .int x)) (k : NAt E M G (pc + 1) ls (.int x :: st) ws cs) : NAt E M G pc ls st ws cs :=
  fun p l e s m args below meth c A H locs lsr C hZ hin hX hA hP hD hS hl => lv_iload_n C.1 C.2.1 hd hi (lv_at hl j hk) (k p l e s m args below meth c A H locs lsr C hZ hin hX hA hP hD hS hl)
theorem nq_istore_n {k : Fin 4} {i : Nat} {x : Int32} {ls2 : List (Nat × Value)} (hd : decode M.2.1 pc = .ok (.istore_n k, 1)) (hi : (k : Nat) = i) (hn : i < M.2.2.1) (h2 : lset1 ls i (.int x) = ls2) (k : NAt E M G (pc + 1) ls2 st ws cs) : NAt E M G pc ls (.int x :: st) ws cs :=
  fun p l e s m args below meth c A H locs lsr C hZ hin hX hA hP hD hS hl => lv_istore_n C.1 C.2.1 hd hi hl hn h2 (fun lsr2 hl2 => k p l e s m args below meth c A H locs lsr2 C hZ hin hX hA hP hD hS hl2)
theorem nq_astore_n {k : Fin 4} {i : Nat} {x : Nat} {ls2 : List (Nat × Value)} (hd : decode M.2.1 pc = .ok (.astore_n k, 1)) (hi : (k : Nat) = i) (hn : i < M.2.2.1) (h2 : lset1 ls i (.ref x) = ls2) (k : NAt E M G (pc + 1) ls2 st ws cs) : NAt E M G pc ls (.ref x :: st) ws cs :=
  fun p l e s m args below meth c A H locs lsr C hZ hin hX hA hP hD hS hl => lv_astore_n C.1 C.2.1 hd hi hl hn h2 (fun lsr2 hl2 => k p l e s m args below meth c A H locs lsr2 C hZ hin hX hA hP hD hS hl2)
theorem nq_iinc (j : Nat) {i : Nat} {n : Int} {x v : Int32} {ls2 : List (Nat × Value)} (hd : decode M.2.1 pc = .ok (.iinc i n, 3)) (hk : ls[j]? = some (i, .int x)) (hv : x + Int32.ofInt n = v) (hn : i < M.2.2.1) (h2 : lset1 ls i (.int v) = ls2) (k : NAt E M G (pc + 3) ls2 st ws cs) : NAt E M G pc ls st ws cs :=
  fun p l e s m args below meth c A H locs lsr C hZ hin hX hA hP hD hS hl => lv_iinc (k := j) C.1 C.2.1 hd hl hk hv hn h2 (fun lsr2 hl2 => k p l e s m args below meth c A H locs lsr2 C hZ hin hX hA hP hD hS hl2)
theorem nq_iconst {n : Int} {v : Int32} (hd : decode M.2.1 pc = .ok (.iconst n, 1)) (hv : Int32.ofInt n = v) (k : NAt E M G (pc + 1) ls (.int v :: st) ws cs) : NAt E M G pc ls st ws cs :=
  fun p l e s m args below meth c A H locs lsr C hZ hin hX hA hP hD hS hl => lv_iconst C.1 C.2.1 hd hv (k p l e s m args below meth c A H locs lsr C hZ hin hX hA hP hD hS hl)
theorem nq_bipush {n : Int} {v : Int32} (hd : decode M.2.1 pc = .ok (.bipush n, 2)) (hv : (Int8.ofInt n).toInt32 = v) (k : NAt E M G (pc + 2) ls (.int v :: st) ws cs) : NAt E M G pc ls st ws cs :=
  fun p l e s m args below meth c A H locs lsr C hZ hin hX hA hP hD hS hl => lv_bipush C.1 C.2.1 hd hv (k p l e s m args below meth c A H locs lsr C hZ hin hX hA hP hD hS hl)
theorem nq_sipush {n : Int} {v : Int32} (hd : decode M.2.1 pc = .ok (.sipush n, 3)) (hv : (Int16.ofInt n).toInt32 = v) (k : NAt E M G (pc + 3) ls (.int v :: st) ws cs) : NAt E M G pc ls st ws cs :=
  fun p l e s m args below meth c A H locs lsr C hZ hin hX hA hP hD hS hl => lv_sipush C.1 C.2.1 hd hv (k p l e s m args below meth c A H locs lsr C hZ hin hX hA hP hD hS hl)
theorem nq_dup {v : Value} (hd : decode M.2.1 pc = .ok (.dup, 1)) (hc : v.category = 1) (k : NAt E M G (pc + 1) ls (v :: v :: st) ws cs) : NAt E M G pc ls (v :: st) ws cs :=
  fun p l e s m args below meth c A H locs lsr C hZ hin hX hA hP hD hS hl => lv_dup C.1 C.2.1 hd hc (k p l e s m args below meth c A H locs lsr C hZ hin hX hA hP hD hS hl)
theorem nq_goto {off : Int} {tgt : Nat} (hd : decode M.2.1 pc = .ok (.goto off, 3)) (ht : (pc : Int) + off = (tgt : Int)) (k : NAt E M G tgt ls st ws cs) : NAt E M G pc ls st ws cs :=
  fun p l e s m args below meth c A H locs lsr C hZ hin hX hA hP hD hS hl => lv_goto C.1 C.2.1 hd ht (k p l e s m args below meth c A H locs lsr C hZ hin hX hA hP hD hS hl)
theorem nq_icmp_ge {x y : Int32} {off : Int} {tgt : Nat} (hd : decode M.2.1 pc = .ok (.if_icmp .ge off, 3)) (ht : (pc : Int) + off = (tgt : Int)) (kt : y ≤ x → NAt E M G tgt ls st ws cs) (kf : ¬ y ≤ x → NAt E M G (pc + 3) ls st ws cs) : NAt E M G pc ls (.int y :: .int x :: st) ws cs :=
  fun p l e s m args below meth c A H locs lsr C hZ hin hX hA hP hD hS hl => lv_icmp_ge C.1 C.2.1 hd ht (fun h => kt h p l e s m args below meth c A H locs lsr C hZ hin hX hA hP hD hS hl) (fun h => kf h p l e s m args below meth c A H locs lsr C hZ hin hX hA hP hD hS hl)
theorem nq_obj {idx : Nat} {a : Nat} (hd : decode M.2.1 pc = .ok (.invokespecial idx, 3)) (h1 : Cond.methodLink M.1.cls idx Lib.objectInit ∈ tblG) (h2 : Cond.instanceMethod Lib.objectInit ∈ tblG) (h3 : Cond.code Lib.objectInit ⟨#[0xb1]⟩ 1 none ∈ tblG) (hf : 1 ≤ E.1.frames) (hlo : 12 ≤ E.1.locals) (k : NAt E M G (pc + 3) ls [] ws cs) : NAt E M G pc ls [.ref a] ws cs :=
  fun p l e s m args below meth c A H locs lsr C hZ hin hX hA hP hD hS hl => W.objInit C.1 C.2.1 C.2.2.2.1 (C.2.2.2.2.1 _ h1) (C.2.2.2.2.1 _ h2) (C.2.2.2.2.1 _ h3) rfl (hl.1.trans C.2.2.1.symm) rfl hd hf (Nat.le_trans (Nat.le_of_ble_eq_true rfl) hlo) (W.eq (g2 := F0 m (pc + 3) lsr []) rfl (k p l e s m args below meth c A H locs lsr C hZ hin hX hA hP hD hS hl))
theorem cls_int {s : State} (hK : KK G s) {cA : ClassId} {ty : FieldType} (hk : ty = .int ∨ ty = .boolean) (h : va_RA s cA ty) : cA = G.2.1 ty := by
  rcases hk with rfl | rfl
  · exact Option.some.inj (Eq.trans (Eq.symm (show s.vm.findClass _ = some cA from h)) (hK.2 0 _ rfl).2)
  · exact Option.some.inj (Eq.trans (Eq.symm (show s.vm.findClass _ = some cA from h)) (hK.2 1 _ rfl).2)
theorem nq_newa {at_ : ArrayType} {ty : FieldType} {n : Int32} (N : Nat) (hd : decode M.2.1 pc = .ok (.newarray at_, 2)) (harr : Cond.arrayClass ty ∈ tblG) (hty : newarray.typeOf at_ = ty) (hk : ty = .int ∨ ty = .boolean) (hn : ¬ n < 0) (hN : n.toNatClampNeg = N) (hb : N * componentBytes ty ≤ 536870912) (hc : cs.1 + 1 ≤ E.1.cells) (hs : cs.2 + N ≤ E.1.slots)
    (k : ∀ q : Nat, NAt E M G (pc + 2) ls (.ref q :: st) (ws ++ [(q, .inl (G.2.1 ty, N, .inl (fun _ => 0)))]) (cs.1 + 1, cs.2 + N)) : NAt E M G pc ls (.int n :: st) ws cs := by
  intro p l e s m args below meth c A H locs lsr C hZ hin hX hA hP hD hS hl
  have hKK := C.2.2.2.2.2.2.2
  refine va_newa (a0 := (N, .inl (fun _ => 0))) C.1 C.2.1 (by rw [hty]; exact C.2.2.2.2.1 _ harr) hty hKK hP hD hS hA (fun cA => by rcases hk with rfl | rfl <;> rfl) hn hN hb hc hs hd (fun q cA H1 hK1 hP1 hD1 hS1 => ?_)
  have e := cls_int hKK hk (hK1.2 4 (cA, ty) rfl).2
  subst e
  exact k q p l e s m args below meth c A H1 locs lsr C hZ hin hX hA hP1 hD1 hS1 hl
theorem nq_newq {idx : Nat} {n : Int32} (N : Nat) (hd : decode M.2.1 pc = .ok (.anewarray idx, 3)) (hcl : Cond.classLink M.1.cls idx "ThreeRefusals$Sheet" ∈ tblG) (hn : ¬ n < 0) (hN : n.toNatClampNeg = N) (hb : N * 4 ≤ 536870912) (hc : cs.1 + 1 ≤ E.1.cells) (hs : cs.2 + N ≤ E.1.slots)
    (k : ∀ q : Nat, NAt E M G (pc + 3) ls (.ref q :: st) (ws ++ [(q, .inl (G.2.1 (.object "ThreeRefusals$Sheet"), N, .inr (.inr (.inr (.inr (fun _ => none))))))]) (cs.1 + 1, cs.2 + N)) : NAt E M G pc ls (.int n :: st) ws cs := by
  intro p l e s m args below meth c A H locs lsr C hZ hin hX hA hP hD hS hl
  have hKK := C.2.2.2.2.2.2.2
  refine va_newq C.1 C.2.1 C.2.2.2.1 (C.2.2.2.2.1 _ hcl) hZ.2.1 hKK hP hD hS hA hn hN hb hc hs hd (fun q cA H1 hK1 hP1 hD1 hS1 => ?_)
  obtain ⟨_, _, _, _, _, e1⟩ := (hK1.2 4 (cA, _) rfl).2
  obtain ⟨_, _, _, _, _, e2⟩ := (hKK.2 3 _ rfl).2
  have e : cA = G.2.1 (.object "ThreeRefusals$Sheet") := Option.some.inj (e1.symm.trans e2)
  subst e
  exact k q p l e s m args below meth c A H1 locs lsr C hZ hin hX hA hP1 hD1 hS1 hl
theorem nq_new {idx ci N : Nat} {Cn : String} {T : u_T} (ty : Nat → FieldType) (fs : List Value) (hd : decode M.2.1 pc = .ok (.new idx, 3)) (hf : FC ci Cn T N) (hty : ∀ k, k < N → parseFieldDescriptor (T k).2.2.1 = some (ty k)) (hcl : Cond.classLink M.1.cls idx Cn ∈ tblG) (hi : Cond.instantiable Cn N ∈ tblG) (hini : Cond.initialized Cn ∈ tblG) (hfs : ∀ j, j < N → defaultValue (ty j) = vp_V fs j) (hc : cs.1 + 1 ≤ E.1.cells) (hs : cs.2 + N ≤ E.1.slots)
    (k : ∀ q : Nat, NAt E M G (pc + 3) ls (.ref q :: st) (ws ++ [(q, .inr (ci, fs))]) (cs.1 + 1, cs.2 + N)) : NAt E M G pc ls st ws cs := by
  intro p l e s m args below meth c A H locs lsr C hZ hin hX hA hP hD hS hl
  exact va_new C.1 C.2.1 C.2.2.2.2.1 hf.2.1 ty hty C.2.2.2.1 (C.2.2.2.2.1 _ hcl) (C.2.2.2.2.1 _ hi) (C.2.2.2.2.1 _ hini) C.2.2.2.2.2.2.2 hP hD hS hA hf.1 hfs hc hs hd (fun q H1 hP1 hD1 hS1 => k q p l e s m args below meth c A H1 locs lsr C hZ hin hX hA hP1 hD1 hS1 hl)
theorem nq_putF {idx ci j a v : Nat} {ty : FieldType} {fs : List Value} {ws2 : va_W} (q0 : Nat) (hd : decode M.2.1 pc = .ok (.putfield idx, 3)) (hf : FL M.1.cls idx ci j ty true) (hde : ∀ q, vwCl[ci]? = some q → (q.2.1 j).1 = M.1.cls) (hi : M.1.name = "<init>") (he : ws[q0]? = some (a, .inr (ci, fs))) (hn : narrow ty (.ref v) = .ref v) (hfit : fits ty (.ref v) = true) (hl : j < fs.length) (h2 : ws.set q0 (a, .inr (ci, fs.set j (.ref v))) = ws2) (k : NAt E M G (pc + 3) ls st ws2 cs) : NAt E M G pc ls (.ref v :: .ref a :: st) ws cs := by
  intro p l e s m args below meth c A H locs lsr C hZ hin hX hA hP hD hS hl1
  subst h2
  obtain ⟨C0, T, N, ⟨f1, f2, ⟨f3, f3'⟩, f4⟩, f5, f6, f7, f8⟩ := hf
  exact va_putF C.1 C.2.1 C.2.2.2.2.1 f2 f3 f3' f4 C.2.2.2.1 C.2.2.2.2.2.2.2 hP hD hS q0 he f1 j f5 (C.2.2.2.2.1 _ f6) (fun _ h => h) f8 (hin hi) (hde _ f1) f7 (v := .ref v) hn hfit hl hd (fun H1 locs1 hP1 hD1 hS1 => k p l e s m args below meth c A H1 locs1 lsr C hZ hin hX hA hP1 hD1 hS1 hl1)
theorem nq_getR {idx ci j a v : Nat} {ty : FieldType} {fin : Bool} {fs : List Value} (q0 : Nat) (hd : decode M.2.1 pc = .ok (.getfield idx, 3)) (hf : FL M.1.cls idx ci j ty fin) (he : ws[q0]? = some (a, .inr (ci, fs))) (hv : fs[j]? = some (.ref v)) (k : NAt E M G (pc + 3) ls (.ref v :: st) ws cs) : NAt E M G pc ls (.ref a :: st) ws cs := by
  obtain ⟨C0, T, N, ⟨f1, f2, f3, f4⟩, f5, f6, f7, f8⟩ := hf
  exact fun p l e s m args below meth c A H locs lsr C hZ hin hX hA hP hD hS hl => va_get C.1 C.2.1 C.2.2.2.2.1 f2 C.2.2.2.1 C.2.2.2.2.2.2.2 hP q0 he f1 j f5 (C.2.2.2.2.1 _ f6) (fun _ h => h) (v := .ref v) hv hd (k p l e s m args below meth c A H locs lsr C hZ hin hX hA hP hD hS hl)
theorem nq_aast {a v n j : Nat} {x : Int32} {vs : List Value} {f : Nat → Option Nat} {ws2 : va_W} (q0 qk : Nat) (hd : decode M.2.1 pc = .ok (.aastore, 1)) (ha : ws[q0]? = some (a, .inl (G.2.1 (.object "ThreeRefusals$Sheet"), n, .inr (.inr (.inr (.inr f)))))) (hv : ws[qk]? = some (v, .inr (4, vs))) (hin : vp_in x n) (hx : x.toNatClampNeg = j) (h2 : ws.set q0 (a, .inl (G.2.1 (.object "ThreeRefusals$Sheet"), n, .inr (.inr (.inr (.inr (va_up f j (some v))))))) = ws2) (k : NAt E M G (pc + 1) ls st ws2 cs) : NAt E M G pc ls (.ref v :: .int x :: .ref a :: st) ws cs := by
  intro p l e s m args below meth c A H locs lsr C hZ hin2 hX hA hP hD hS hl
  subst h2
  subst hx
  exact va_astq (r := (RX4, TX4, 4)) C.1 C.2.1 C.2.2.2.2.2.2.2 hP hD hS q0 3 qk 4 ha rfl hv rfl hin hd (fun H1 locs1 hP1 hD1 hS1 => k p l e s m args below meth c A H1 locs1 lsr C hZ hin2 hX hA hP1 hD1 hS1 hl)
theorem nq_iast {a n j : Nat} {x y : Int32} {f : Nat → Int32} {ws2 : va_W} (q0 : Nat) (hd : decode M.2.1 pc = .ok (.iastore, 1)) (ha : ws[q0]? = some (a, .inl (G.2.1 .int, n, .inl f))) (hin : vp_in x n) (hx : x.toNatClampNeg = j) (h2 : ws.set q0 (a, .inl (G.2.1 .int, n, .inl (upd f j y))) = ws2) (k : NAt E M G (pc + 1) ls st ws2 cs) : NAt E M G pc ls (.int y :: .int x :: .ref a :: st) ws cs := by
  intro p l e s m args below meth c A H locs lsr C hZ hin2 hX hA hP hD hS hl
  subst h2
  subst hx
  exact va_iast C.1 C.2.1 C.2.2.2.2.2.2.2 hP hD hS q0 0 ha rfl hin hd (fun H1 locs1 hP1 hD1 hS1 => k p l e s m args below meth c A H1 locs1 lsr C hZ hin2 hX hA hP1 hD1 hS1 hl)
theorem nq_ret {rm : Room} {Post : va_W → Prop} (hr : M.2.2.2 = none) (hd : decode M.2.1 pc = .ok (.return_, 1)) (hc : cs = (rm.cells, rm.slots)) (hp : Post ws) : NAt (EN rm Post) M G pc ls [] ws cs := by
  subst hc
  intro p l e s m args below meth c A H locs lsr C hZ hin hX hA hP hD hS hl
  exact W.vret C.1 C.2.1 (C.2.2.2.2.2.1.trans hr) (fun t ht hW => ⟨⟨ws, rfl, hp, by rw [ht]; exact hP, va_K.moved hW.alike C.2.2.2.2.2.2.2, hD⟩, hS.F ht⟩) hS.2.2 hd C.2.2.2.2.2.2.1
end NN

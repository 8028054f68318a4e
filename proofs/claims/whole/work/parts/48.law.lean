/-! ===== the law: its engine ===== -/
def R_law : String := "ThreeRefusalsLaw"
def lw_P (b : Addr) (xs : List Int32) (args : Array Value) (s : State) : Prop := args = #[.ref b] ∧ s.IntsAt b xs ∧ xs.length ≤ 3584 ∧ (Jvm.Cond.and given_1 narrow_1).before args s = true
def lw_Q (_ : Array Value) (s : State) (o : Outcome) (t : State) : Prop := o = .returned (some (.int 1)) ∧ Framed s o t [] 600000 7302250
def lw_Z (below : List Frame) (a : Array Value) (s : State) : State → Prop := fun t => ∃ o, t.status = .running ∧ Ended t below o ∧ lw_Q a s o t
/-- the law's own end, with 1 on the stack, nothing written that was there before, its room as the claim has it -/
theorem lw_ret {p : Program} {l : Launch} {e : Env} {s : State} {m : MethodId} {below : List Frame} {meth : Method} {c : Code} {b : Nat} (hx : p.tables.exec = Jvm.exec) (hb : c.code = code) (hr : meth.sig.returnType = ret) (hlocks : meth.locks = false) {pc : Nat} {H : Heap} {ls : Array Slot} (hdg : decode code pc = .ok (.ireturn, 1)) : W p l e room_1 s m #[Value.ref b] below meth c H [] 600000 7302250 (lw_Z below #[Value.ref b] s) (F0 m pc ls [.int 1]) := by
  intro T hT X
  obtain ⟨fs, hret, hrun, hended, hW, hframe⟩ := X.leave (v := some (.int 1)) (hlocks := hlocks) (fun h => by rw [hr] at h; cases h)
  have hmeth' : T.vm.method? m = some meth := X.method'
  refine ⟨T.setFrames fs, ?_, .returned (some (.int 1)), hrun, hended, rfl, ⟨_, rfl⟩, hW, hframe⟩
  jvm_step X.here [X.here.top, hx, hb, hdg, hmeth', hr, ret, narrow_b1]
  (try refine ⟨rfl, ?_⟩); (try refine ⟨rfl, ?_⟩)
  first | (intro acts; rw [hret _ acts rfl rfl rfl]) | rw [hret _ _ rfl rfl rfl]
  exact Steps.refl _
abbrev mLw : MT := (⟨"ThreeRefusalsLaw", "law", "([I)Z"⟩, code, 4, ret)
/-- the law's walk: the script of L ints xs lies at b (cell 63); behind its end what the claim asks -/
abbrev lwZ : GX → (Nat → Prop) → List Frame → Array Value → State → State → Prop := fun _ _ below args s t => ∀ b : Nat, args = #[Value.ref b] → lw_Z below #[Value.ref b] s t
abbrev lwE (b L : Nat) (xs : Nat → Int32) (cs : Nat × Nat) : ET := (room_1, cs, fun G A s => G.2.2 63 = b ∧ va_X b L xs s s.heap ∧ b < s.heap.size ∧ ∀ q, A q → s.heap.size ≤ q, lwZ)
abbrev lwLs (i : Nat) : List (Nat × Value) := [(3, .int (nI i)), (0, .ref 63), (1, .ref 0), (2, .ref 42)]
section LW
variable {b L : Nat} {xs : Nat → Int32} {cs : Nat × Nat} {pc : Nat} {ls : List (Nat × Value)} {st : List Value} {σ : Mem}
theorem lw_sld {j : Nat} {x : Int32} (hd : decode code pc = .ok (.iaload, 1)) (hx : x = nI j) (hj : j < L) (hL : L ≤ 3584) (k : PAt (lwE b L xs cs) mLw (pc + 1) ls (.int (xs j) :: st) σ) : PAt (lwE b L xs cs) mLw pc ls (.int x :: .ref 63 :: st) σ := by
  intro p l e s m args below meth c G A H locs lsr C hX hA hP hD hS hl
  have hb : tr G.2.2 (.ref 63) = .ref b := congrArg Value.ref hX.1
  show W p l e room_1 s m args below meth c H locs cs.1 cs.2 _ (F0 m pc lsr (.int x :: tr G.2.2 (.ref 63) :: st.map (tr G.2.2)))
  rw [hb]
  refine va_sld C.1 C.2.1 hX.2.1 hX.2.2.1 (fun z => absurd (hX.2.2.2 b z) (Nat.not_le.mpr hX.2.2.1)) hS (vpN hx hj (by omega)) hd ?_
  rw [clN hx hj (by omega)]
  exact k p l e s m args below meth c G A H locs lsr C hX hA hP hD hS hl
theorem lw_slen (hd : decode code pc = .ok (.arraylength, 1)) (k : PAt (lwE b L xs cs) mLw (pc + 1) ls (.int (nI L) :: st) σ) : PAt (lwE b L xs cs) mLw pc ls (.ref 63 :: st) σ := by
  intro p l e s m args below meth c G A H locs lsr C hX hA hP hD hS hl
  have hb : tr G.2.2 (.ref 63) = .ref b := congrArg Value.ref hX.1
  show W p l e room_1 s m args below meth c H locs cs.1 cs.2 _ (F0 m pc lsr (tr G.2.2 (.ref 63) :: st.map (tr G.2.2)))
  rw [hb]
  refine va_slen C.1 C.2.1 hX.2.1 hX.2.2.1 (fun z => absurd (hX.2.2.2 b z) (Nat.not_le.mpr hX.2.2.1)) hS hd ?_
  exact k p l e s m args below meth c G A H locs lsr C hX hA hP hD hS hl
theorem lw_end (hd : decode code pc = .ok (.ireturn, 1)) (hcs : cs.1 ≤ 600000 ∧ cs.2 ≤ 7302250) : PAt (lwE b L xs cs) mLw pc ls [.int 1] σ := by
  intro p l e s m args below meth c G A H locs lsr C hX hA hP hD hS hl
  by_cases ha : args = #[Value.ref b]
  · subst ha
    have k := va_forget (locs := locs) (fun q hq => hX.2.2.2 _ (hS.2.2 q hq)) (W.widen hcs.1 hcs.2 (lw_ret (p := p) (l := l) (e := e) (s := s) (m := m) (below := below) (meth := meth) (c := c) (b := b) (H := H) (ls := lsr) C.1 C.2.1 C.2.2.2.2.2.1 C.2.2.2.2.2.2.1 hd))
    intro T hT X
    obtain ⟨t, a1, b1⟩ := k T hT X
    refine ⟨t, a1, fun b2 h2 => ?_⟩
    have : b2 = b := by
      have := congrArg (fun a : Array Value => a[0]?) h2
      simpa using this.symm
    rw [this]; exact b1
  · by_cases ha2 : ∃ b2 : Nat, args = #[Value.ref b2]
    · obtain ⟨b2, ha2⟩ := ha2
      subst ha2
      have k := va_forget (locs := locs) (fun q hq => hX.2.2.2 _ (hS.2.2 q hq)) (W.widen hcs.1 hcs.2 (lw_ret (p := p) (l := l) (e := e) (s := s) (m := m) (below := below) (meth := meth) (c := c) (b := b2) (H := H) (ls := lsr) C.1 C.2.1 C.2.2.2.2.2.1 C.2.2.2.2.2.2.1 hd))
      intro T hT X
      obtain ⟨t, a1, b1⟩ := k T hT X
      refine ⟨t, a1, fun b3 h3 => ?_⟩
      have : b3 = b2 := by
        have := congrArg (fun a : Array Value => a[0]?) h3
        simpa using this.symm
      rw [this]; exact b1
    · intro T hT X
      exact ⟨T.setTop (F0 m pc lsr _), Steps.refl _, fun b2 h2 => absurd ⟨b2, h2⟩ ha2⟩
theorem lw_arg {i a : Nat} {n : Int} {v : Int32} (h0 : decode code pc = .ok (.aload_n 0, 1)) (h1 : decode code (pc + 1) = .ok (.iload_n 3, 1)) (h2 : decode code (pc + 2) = .ok (.iconst n, 1)) (h3 : decode code (pc + 3) = .ok (.iadd, 1)) (h4 : decode code (pc + 4) = .ok (.iaload, 1)) (hv : Int32.ofInt n = v) (he : nI i + v = nI (i + a)) (hi : i + a < L) (hL : L ≤ 3584) (k : PAt (lwE b L xs cs) mLw (pc + 5) (lwLs i) (.int (xs (i + a)) :: st) σ) : PAt (lwE b L xs cs) mLw pc (lwLs i) st σ := by
  refine tq_aload_n 1 h0 rfl rfl ?_
  refine tq_iload_n 0 h1 rfl rfl ?_
  refine tq_iconst h2 hv ?_
  refine tq_iadd h3 ?_
  exact lw_sld h4 he hi hL k
theorem lw_arg6 {i a : Nat} {n : Int} {v : Int32} (h0 : decode code pc = .ok (.aload_n 0, 1)) (h1 : decode code (pc + 1) = .ok (.iload_n 3, 1)) (h2 : decode code (pc + 2) = .ok (.bipush n, 2)) (h3 : decode code (pc + 4) = .ok (.iadd, 1)) (h4 : decode code (pc + 5) = .ok (.iaload, 1)) (hv : (Int8.ofInt n).toInt32 = v) (he : nI i + v = nI (i + a)) (hi : i + a < L) (hL : L ≤ 3584) (k : PAt (lwE b L xs cs) mLw (pc + 6) (lwLs i) (.int (xs (i + a)) :: st) σ) : PAt (lwE b L xs cs) mLw pc (lwLs i) st σ := by
  refine tq_aload_n 1 h0 rfl rfl ?_
  refine tq_iload_n 0 h1 rfl rfl ?_
  refine tq_bipush h2 hv ?_
  refine tq_iadd h3 ?_
  exact lw_sld h4 he hi hL k
end LW
theorem lw_cmp {v w : Int64} (h : v = w) : lg_cmp v w = 0 := by
  subst h
  unfold lg_cmp
  rw [if_neg (fun z => by rw [gt_iff_lt, Int64.lt_iff_toInt_lt] at z; omega), if_pos rfl]
theorem lw_sw {x : Int32} (h : ¬ (x.toInt < 0 ∨ 28 < x.toInt)) : ∃ j : Nat, j < 29 ∧ x = nI j := by
  refine ⟨x.toInt.toNat, by omega, Int32.toInt_inj.mp ?_⟩
  rw [nI_toInt (by omega)]
  omega
theorem lw_29 {j : Nat} (h : j < 29) : j = 0 ∨ j = 1 ∨ j = 2 ∨ j = 3 ∨ j = 4 ∨ j = 5 ∨ j = 6 ∨ j = 7 ∨ j = 8 ∨ j = 9 ∨ j = 10 ∨ j = 11 ∨ j = 12 ∨ j = 13 ∨ j = 14 ∨ j = 15 ∨ j = 16 ∨ j = 17 ∨ j = 18 ∨ j = 19 ∨ j = 20 ∨ j = 21 ∨ j = 22 ∨ j = 23 ∨ j = 24 ∨ j = 25 ∨ j = 26 ∨ j = 27 ∨ j = 28 := by omega
theorem lw_le {L i : Nat} (hL : L ≤ 3584) (h1 : i ≤ L) (c : ¬ nI L - 7 < nI i) : i + 7 ≤ L := by
  by_cases q : 7 ≤ L
  · rw [show (7 : Int32) = nI 7 from rfl, nI_subN q, nI_ltI (by omega) (by omega)] at c
    omega
  · exfalso
    have h : ∀ L, L < 7 → ∀ i, i < 7 → nI L - 7 < nI i := by decide
    exact c (h L (by omega) i (by omega))

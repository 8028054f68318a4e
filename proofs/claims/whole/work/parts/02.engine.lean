/-! ===== the engine: one memory (cell, place -> int) for both sides; every reference is fixed once the constructors are through ===== -/
/-- the tables' words that a callee may have of its caller -/
def tblG : List Cond := lw_tbl.filter goodWord
theorem tblG_in {w : Cond} (i : Nat) (h : lw_tbl[i]? = some w) (hg : goodWord w = true) : w ∈ tblG := List.mem_filter.mpr ⟨List.mem_of_getElem? h, hg⟩
theorem tblG_hts {s : State} {args : Array Value} (h : ∀ w ∈ lw_tbl, w.before args s = true) : ∀ w ∈ tblG, w.before args s = true := fun w hw => h w (List.mem_filter.mp hw).1
abbrev Mem : Type := Nat → Nat → Int32
/-- a row of the memory becomes f -/
def upR (σ : Mem) (i : Nat) (f : Nat → Int32) : Mem := fun a => if a = i then f else σ a
def up (σ : Mem) (i k : Nat) (v : Int32) : Mem := upR σ i (upd (σ i) k v)
theorem upR_s (σ : Mem) (i : Nat) (f : Nat → Int32) : upR σ i f i = f := if_pos rfl
theorem upR_n {σ : Mem} {i j : Nat} {f : Nat → Int32} (h : j ≠ i) : upR σ i f j = σ j := if_neg h
theorem upR_self (σ : Mem) (i : Nat) : upR σ i (σ i) = σ := by
  funext a
  by_cases h : a = i
  · subst h; exact upR_s _ _ _
  · exact upR_n h
theorem upR_upR (σ : Mem) (i : Nat) (f g : Nat → Int32) : upR (upR σ i f) i g = upR σ i g := by
  funext a
  by_cases h : a = i
  · subst h; rw [upR_s, upR_s]
  · rw [upR_n h, upR_n h, upR_n h]
/-- what a cell is: a row of ints or booleans (type, length); a row of references; an object (class, its fields: an int, or a reference) -/
abbrev ShT : Type := (FieldType × Nat) ⊕ ((FieldType × List Nat) ⊕ (Nat × List (Option Nat)))
def shL : List ShT := [
  .inr (.inr (6, [some 1, some 13, some 21, some 26, some 32, some 33, none, none])),
  .inr (.inr (5, [none, none, none, some 2, some 3, some 8])),
  .inl (.int, 4),
  .inr (.inl (.array .int, [4, 5, 6, 7])),
  .inl (.int, 6), .inl (.int, 6), .inl (.int, 6), .inl (.int, 6),
  .inr (.inl (.array .int, [9, 10, 11, 12])),
  .inl (.int, 6), .inl (.int, 6), .inl (.int, 6), .inl (.int, 6),
  .inr (.inr (2, [some 14, some 15, some 16, some 17, none])),
  .inl (.int, 24), .inl (.int, 24), .inl (.int, 24),
  .inr (.inr (0, [some 18, some 19, some 20])),
  .inl (.int, 4), .inl (.int, 4), .inl (.int, 6),
  .inr (.inr (3, [some 22, some 23, some 24, some 25, none])),
  .inl (.int, 8), .inl (.int, 8), .inl (.int, 8), .inl (.boolean, 8),
  .inr (.inr (1, [some 27, some 31, none])),
  .inr (.inr (0, [some 28, some 29, some 30])),
  .inl (.int, 4), .inl (.int, 4), .inl (.int, 6),
  .inl (.int, 6),
  .inr (.inl (.object "ThreeRefusals$Sheet", [34, 36, 38, 40])),
  .inl (.int, 100),
  .inr (.inr (4, [some 35, none, none, none])), .inl (.int, 100),
  .inr (.inr (4, [some 37, none, none, none])), .inl (.int, 100),
  .inr (.inr (4, [some 39, none, none, none])), .inl (.int, 100),
  .inr (.inr (4, [some 41, none, none, none])), .inl (.int, 100),
  .inr (.inr (7, [none, none, none, some 43, some 44, some 45, none, none, none, none, some 46, some 47, some 48, none, some 49, some 50, some 51, some 52, some 53, some 54, none, some 55, some 56, some 57, some 58, some 59, some 60, some 61, some 62, none])),
  .inl (.int, 4), .inl (.int, 24), .inl (.int, 24), .inl (.int, 4), .inl (.int, 24), .inl (.int, 24),
  .inl (.int, 24), .inl (.int, 24), .inl (.int, 24), .inl (.int, 4), .inl (.int, 4), .inl (.int, 6),
  .inl (.int, 8), .inl (.int, 8), .inl (.int, 8), .inl (.boolean, 8),
  .inl (.int, 4), .inl (.int, 4), .inl (.int, 400), .inl (.int, 100)]
abbrev NC : Nat := 63
def SH (i : Nat) : Option ShT := shL[i]?
theorem SH_lt {i : Nat} {x : ShT} (h : SH i = some x) : i < NC := (List.getElem?_eq_some_iff.mp h).1
/-- what a start gives: the numbers of classes and slots, the classes of arrays, where each cell lies -/
abbrev GX : Type := va_G × (FieldType → ClassId) × (Nat → Nat)
def tr (ad : Nat → Nat) : Value → Value
  | .ref i => .ref (ad i)
  | v => v
theorem tr_cat (ad : Nat → Nat) (v : Value) : (tr ad v).category = v.category := by cases v <;> rfl
def flds (ad : Nat → Nat) (f : Nat → Int32) : Nat → List (Option Nat) → List Value
  | _, [] => []
  | k, none :: l => .int (f k) :: flds ad f (k + 1) l
  | k, some i :: l => .ref (ad i) :: flds ad f (k + 1) l
def cellS (G : GX) (f : Nat → Int32) : ShT → va_E
  | .inl q => .inl (G.2.1 q.1, q.2, .inl f)
  | .inr (.inl q) => .inl (G.2.1 q.1, q.2.length, .inr (.inr (.inr (.inr (fun j => (q.2[j]?).map G.2.2)))))
  | .inr (.inr q) => .inr (q.1, flds G.2.2 f 0 q.2)
def cellOf (G : GX) (f : Nat → Int32) (i : Nat) : va_E := cellS G f ((SH i).getD (.inl (.int, 0)))
theorem cellOf_at {G : GX} {f : Nat → Int32} {i : Nat} {x : ShT} (h : SH i = some x) : cellOf G f i = cellS G f x := by unfold cellOf; rw [h]; rfl
def wd (G : GX) (σ : Mem) : va_W := (List.range NC).map (fun i => (G.2.2 i, cellOf G (σ i) i))
theorem wd_at {G : GX} {σ : Mem} {i : Nat} {x : ShT} (h : SH i = some x) : (wd G σ)[i]? = some (G.2.2 i, cellS G (σ i) x) := by
  have hi := SH_lt h
  unfold wd
  rw [List.getElem?_map, List.getElem?_range hi, Option.map_some, cellOf_at h]
theorem wd_set {G : GX} {σ : Mem} {i : Nat} {x : ShT} {f : Nat → Int32} (h : SH i = some x) : (wd G σ).set i (G.2.2 i, cellS G f x) = wd G (upR σ i f) := by
  have hi := SH_lt h
  apply List.ext_getElem?
  intro j
  unfold wd
  rw [List.getElem?_set, List.getElem?_map, List.getElem?_map]
  by_cases hj : i = j
  · subst hj
    rw [if_pos rfl, List.getElem?_range hi, if_pos (by simp [hi]), Option.map_some, upR_s, cellOf_at h]
  · rw [if_neg hj]
    by_cases hn : j < NC
    · rw [List.getElem?_range hn, Option.map_some, Option.map_some, upR_n (Ne.symm hj)]
    · rw [List.getElem?_eq_none (by simpa using hn)]; rfl
theorem flds_get (ad : Nat → Nat) (f : Nat → Int32) : ∀ (fs : List (Option Nat)) (k j : Nat), (flds ad f k fs)[j]? = (fs[j]?).map (fun o => match o with | none => .int (f (k + j)) | some i => .ref (ad i))
  | [], k, j => by simp [flds]
  | none :: l, k, 0 => by simp [flds]
  | some i :: l, k, 0 => by simp [flds]
  | none :: l, k, j + 1 => by
    simp only [flds, List.getElem?_cons_succ]
    rw [flds_get ad f l (k + 1) j, show k + 1 + j = k + (j + 1) by omega]
  | some i :: l, k, j + 1 => by
    simp only [flds, List.getElem?_cons_succ]
    rw [flds_get ad f l (k + 1) j, show k + 1 + j = k + (j + 1) by omega]
theorem flds_set (ad : Nat → Nat) (f : Nat → Int32) (v : Int32) (fs : List (Option Nat)) (j : Nat) (h : fs[j]? = some none) : (flds ad f 0 fs).set j (.int v) = flds ad (upd f j v) 0 fs := by
  apply List.ext_getElem?
  intro k
  have hl : j < (flds ad f 0 fs).length := by
    have h1 := flds_get ad f fs 0 j
    rw [h] at h1
    exact (List.getElem?_eq_some_iff.mp h1).1
  rw [List.getElem?_set, flds_get ad (upd f j v) fs 0 k]
  by_cases hk : j = k
  · subst hk
    rw [if_pos rfl, if_pos hl, h]
    simp [upd]
  · rw [if_neg hk, flds_get ad f fs 0 k]
    cases hx : fs[k]? with
    | none => rfl
    | some o =>
      cases o with
      | none => simp [upd, Ne.symm hk]
      | some i => rfl
def tysOf (G : GX) : List (ClassId × FieldType) := [(G.2.1 .int, .int), (G.2.1 .boolean, .boolean), (G.2.1 (.array .int), .array .int), (G.2.1 (.object "ThreeRefusals$Sheet"), .object "ThreeRefusals$Sheet")]
def KK (G : GX) (U : State) : Prop := va_K G.1 vwCl (tysOf G) U
def Adr (G : GX) (sz : Nat) : Nat → Prop := fun q => (∃ i, i < NC ∧ q = G.2.2 i) ∨ sz ≤ q
/-- a method: its name, its bytes, how many locals, what it answers -/
abbrev MT : Type := MethodName × ByteArray × Nat × Option FieldType
def wsM (M : MT) : List Cond := .code M.1 M.2.1 M.2.2.1 M.2.2.2 :: tblG
/-- an end: the room, cells and slots so far, what else a start gives, where the walk comes to -/
abbrev ET : Type := Room × (Nat × Nat) × (GX → (Nat → Prop) → State → Prop) × (GX → (Nat → Prop) → List Frame → Array Value → State → State → Prop)
def CX (M : MT) (p : Program) (s : State) (m : MethodId) (args : Array Value) (meth : Method) (c : Code) (G : GX) : Prop :=
  p.tables.exec = Jvm.exec ∧ c.code = M.2.1 ∧ c.maxLocals = M.2.2.1 ∧ s.vm.findClass M.1.cls = some m.cls ∧ (∀ w ∈ tblG, w.before args s = true) ∧ meth.sig.returnType = M.2.2.2 ∧ meth.locks = false ∧ KK G s
def lsT (ad : Nat → Nat) (ls : List (Nat × Value)) : List (Nat × Value) := ls.map (fun q => (q.1, tr ad q.2))
def PAt (E : ET) (M : MT) (pc : Nat) (ls : List (Nat × Value)) (st : List Value) (σ : Mem) : Prop :=
  ∀ (p : Program) (l : Launch) (e : Env) (s : State) (m : MethodId) (args : Array Value) (below : List Frame) (meth : Method) (c : Code) (G : GX) (A : Nat → Prop) (H : Heap) (locs : List Loc) (lsr : Array Slot),
    CX M p s m args meth c G → E.2.2.1 G A s → (∀ q : Nat, s.heap.size ≤ q → A q) → va_P G.1 vwCl (wd G σ) H → va_D A (wd G σ) → va_S A s.heap H locs → lv_has lsr M.2.2.1 (lsT G.2.2 ls) →
    W p l e E.1 s m args below meth c H locs E.2.1.1 E.2.1.2 (E.2.2.2 G A below args s) (F0 m pc lsr (st.map (tr G.2.2)))
def PQ (G : GX) (A : Nat → Prop) (Post : Option Value → Mem → Prop) : Array Value → State → Outcome → State → Prop := fun _ st oc t =>
  (∃ (r : Option Value) (σ : Mem), oc = .returned (r.map (tr G.2.2)) ∧ Post r σ ∧ va_P G.1 vwCl (wd G σ) t.heap ∧ KK G t ∧ va_D A (wd G σ)) ∧ va_F A st t
def rmD (d : Nat) : Room := { frames := d, cells := 0, slots := 0, locals := 40 * d }
/-- the end of a method at depth d -/
def EM (d : Nat) (Post : Option Value → Mem → Prop) : ET := (rmD d, (0, 0), fun _ _ _ => True, fun G A below args s => MQ below (PQ G A Post) args s 0 0 A)
def Pst (G : GX) (σ : Mem) (sz : Nat) (U : State) : Prop := U.heap.size = sz ∧ va_P G.1 vwCl (wd G σ) U.heap ∧ KK G U ∧ va_D (fun _ => True) (wd G σ)
/-- a method's contract, at depth d: from the memory σ it answers r and leaves σ' with Post r σ' -/
def PMet (d : Nat) (M : MT) (args : List Value) (σ : Mem) (Post : Option Value → Mem → Prop) : Prop :=
  ∀ (l : Launch) (G : GX) (sz : Nat), Met l M.1 (wsM M) (rmD d) (va_Pc (args.map (tr G.2.2)) (Pst G σ sz)) (PQ G (Adr G sz) Post) 0 0 (Adr G sz)

theorem lsT_at {ad : Nat → Nat} {lsr : Array Slot} {n : Nat} {ls : List (Nat × Value)} (h : lv_has lsr n (lsT ad ls)) (k : Nat) {i : Nat} {v : Value} (hk : ls[k]? = some (i, v)) : lsr[i]? = some (.val (tr ad v)) :=
  lv_at h k (by unfold lsT; rw [List.getElem?_map, hk]; rfl)
def lset1 (ls : List (Nat × Value)) (i : Nat) (v : Value) : List (Nat × Value) := (i, v) :: ls.filter (fun q => !(q.1 == i) && !(q.1 + 1 == i && q.2.category == 2))
def lset2 (ls : List (Nat × Value)) (i : Nat) (v : Value) : List (Nat × Value) := (i, v) :: ls.filter (fun q => !(q.1 == i) && (!(q.1 == i + 1) && !(q.1 + 1 == i && q.2.category == 2)))
theorem lset1_T (ad : Nat → Nat) (ls : List (Nat × Value)) (i : Nat) (v : Value) : (i, tr ad v) :: (lsT ad ls).filter (fun q => !(q.1 == i) && !(q.1 + 1 == i && q.2.category == 2)) = lsT ad (lset1 ls i v) := by
  unfold lset1 lsT
  rw [List.map_cons, List.filter_map]
  congr 3
  funext q
  simp [tr_cat]
theorem lset2_T (ad : Nat → Nat) (ls : List (Nat × Value)) (i : Nat) (v : Value) : (i, tr ad v) :: (lsT ad ls).filter (fun q => !(q.1 == i) && (!(q.1 == i + 1) && !(q.1 + 1 == i && q.2.category == 2))) = lsT ad (lset2 ls i v) := by
  unfold lset2 lsT
  rw [List.map_cons, List.filter_map]
  congr 3
  funext q
  simp [tr_cat]
theorem lsT_pick {ad : Nat → Nat} {ls ls' : List (Nat × Value)} (ks : List Nat) (h : lv_pick ls ks = ls') : lv_pick (lsT ad ls) ks = lsT ad ls' := by
  subst h
  unfold lv_pick lsT
  rw [List.map_filterMap]
  congr 1
  funext k
  rw [List.getElem?_map]
section TQ
variable {E : ET} {M : MT} {pc : Nat} {ls : List (Nat × Value)} {st : List Value} {σ : Mem}
/-- fewer locals, in another order -/
theorem tq_sub (ks : List Nat) {ls' : List (Nat × Value)} (h : lv_pick ls ks = ls') (k : PAt E M pc ls' st σ) : PAt E M pc ls st σ :=
  fun p l e s m args below meth c G A H locs lsr C hX hA hP hD hS hl => k p l e s m args below meth c G A H locs lsr C hX hA hP hD hS (lv_sub hl ks (lsT_pick ks h))
theorem tq_top {x : Int32} (k : ∀ y : Int32, y = x → PAt E M pc ls (.int y :: st) σ) : PAt E M pc ls (.int x :: st) σ := k x rfl
theorem tq_topl {x : Int64} (k : ∀ y : Int64, y = x → PAt E M pc ls (.long y :: st) σ) : PAt E M pc ls (.long x :: st) σ := k x rfl
theorem tq_mem {σ' : Mem} (h : σ = σ') (k : PAt E M pc ls st σ') : PAt E M pc ls st σ := h ▸ k
theorem tq_eqi {x y : Int32} (h : x = y) (k : PAt E M pc ls (.int y :: st) σ) : PAt E M pc ls (.int x :: st) σ := h ▸ k
theorem tq_iconst {n : Int} {v : Int32} (hd : decode M.2.1 pc = .ok (.iconst n, 1)) (hv : Int32.ofInt n = v) (k : PAt E M (pc + 1) ls (.int v :: st) σ) : PAt E M pc ls (st) σ :=
  fun p l e s m args below meth c G A H locs lsr C hX hA hP hD hS hl => lv_iconst C.1 C.2.1 hd hv (k p l e s m args below meth c G A H locs lsr C hX hA hP hD hS hl)
theorem tq_bipush {n : Int} {v : Int32} (hd : decode M.2.1 pc = .ok (.bipush n, 2)) (hv : (Int8.ofInt n).toInt32 = v) (k : PAt E M (pc + 2) ls (.int v :: st) σ) : PAt E M pc ls (st) σ :=
  fun p l e s m args below meth c G A H locs lsr C hX hA hP hD hS hl => lv_bipush C.1 C.2.1 hd hv (k p l e s m args below meth c G A H locs lsr C hX hA hP hD hS hl)
theorem tq_sipush {n : Int} {v : Int32} (hd : decode M.2.1 pc = .ok (.sipush n, 3)) (hv : (Int16.ofInt n).toInt32 = v) (k : PAt E M (pc + 3) ls (.int v :: st) σ) : PAt E M pc ls (st) σ :=
  fun p l e s m args below meth c G A H locs lsr C hX hA hP hD hS hl => lv_sipush C.1 C.2.1 hd hv (k p l e s m args below meth c G A H locs lsr C hX hA hP hD hS hl)
theorem tq_lconst {n : Fin 2} {v : Int64} (hd : decode M.2.1 pc = .ok (.lconst n, 1)) (hv : Int64.ofNat (n : Nat) = v) (k : PAt E M (pc + 1) ls (.long v :: st) σ) : PAt E M pc ls (st) σ :=
  fun p l e s m args below meth c G A H locs lsr C hX hA hP hD hS hl => lv_lconst C.1 C.2.1 hd hv (k p l e s m args below meth c G A H locs lsr C hX hA hP hD hS hl)
theorem tq_ldc2 {n : Nat} {v : Int64} (hd : decode M.2.1 pc = .ok (.ldc2_w n, 3)) (hw : Cond.constantLong M.1.cls n v ∈ tblG) (k : PAt E M (pc + 3) ls (.long v :: st) σ) : PAt E M pc ls (st) σ :=
  fun p l e s m args below meth c G A H locs lsr C hX hA hP hD hS hl => lv_ldc2 C.1 C.2.1 C.2.2.2.1 (C.2.2.2.2.1 _ hw) hd (k p l e s m args below meth c G A H locs lsr C hX hA hP hD hS hl)
theorem tq_ldcw {n : Nat} {v : Int32} (hd : decode M.2.1 pc = .ok (.ldc_w n, 3)) (hw : Cond.constant M.1.cls n v ∈ tblG) (k : PAt E M (pc + 3) ls (.int v :: st) σ) : PAt E M pc ls (st) σ :=
  fun p l e s m args below meth c G A H locs lsr C hX hA hP hD hS hl => lv_ldcw C.1 C.2.1 C.2.2.2.1 (C.2.2.2.2.1 _ hw) hd (k p l e s m args below meth c G A H locs lsr C hX hA hP hD hS hl)
theorem tq_iload_n (j : Nat) {k : Fin 4} {i : Nat} {x : Int32} (hd : decode M.2.1 pc = .ok (.iload_n k, 1)) (hi : (k : Nat) = i) (hk : ls[j]? = some (i, .int x)) (k : PAt E M (pc + 1) ls (.int x :: st) σ) : PAt E M pc ls (st) σ :=
  fun p l e s m args below meth c G A H locs lsr C hX hA hP hD hS hl => lv_iload_n C.1 C.2.1 hd hi (lsT_at hl j hk) (k p l e s m args below meth c G A H locs lsr C hX hA hP hD hS hl)
theorem tq_iload (j : Nat) {i : Nat} {x : Int32} (hd : decode M.2.1 pc = .ok (.iload i, 2)) (hk : ls[j]? = some (i, .int x)) (k : PAt E M (pc + 2) ls (.int x :: st) σ) : PAt E M pc ls (st) σ :=
  fun p l e s m args below meth c G A H locs lsr C hX hA hP hD hS hl => lv_iload C.1 C.2.1 hd (lsT_at hl j hk) (k p l e s m args below meth c G A H locs lsr C hX hA hP hD hS hl)
theorem tq_lload_n (j : Nat) {k : Fin 4} {i : Nat} {x : Int64} (hd : decode M.2.1 pc = .ok (.lload_n k, 1)) (hi : (k : Nat) = i) (hk : ls[j]? = some (i, .long x)) (k : PAt E M (pc + 1) ls (.long x :: st) σ) : PAt E M pc ls (st) σ :=
  fun p l e s m args below meth c G A H locs lsr C hX hA hP hD hS hl => lv_lload_n C.1 C.2.1 hd hi (lsT_at hl j hk) (k p l e s m args below meth c G A H locs lsr C hX hA hP hD hS hl)
theorem tq_lload (j : Nat) {i : Nat} {x : Int64} (hd : decode M.2.1 pc = .ok (.lload i, 2)) (hk : ls[j]? = some (i, .long x)) (k : PAt E M (pc + 2) ls (.long x :: st) σ) : PAt E M pc ls (st) σ :=
  fun p l e s m args below meth c G A H locs lsr C hX hA hP hD hS hl => lv_lload C.1 C.2.1 hd (lsT_at hl j hk) (k p l e s m args below meth c G A H locs lsr C hX hA hP hD hS hl)
theorem tq_aload_n (j : Nat) {k : Fin 4} {i : Nat} {x : Nat} (hd : decode M.2.1 pc = .ok (.aload_n k, 1)) (hi : (k : Nat) = i) (hk : ls[j]? = some (i, .ref x)) (k : PAt E M (pc + 1) ls (.ref x :: st) σ) : PAt E M pc ls (st) σ :=
  fun p l e s m args below meth c G A H locs lsr C hX hA hP hD hS hl => lv_aload_n C.1 C.2.1 hd hi (lsT_at hl j hk) (k p l e s m args below meth c G A H locs lsr C hX hA hP hD hS hl)
theorem tq_aload (j : Nat) {i : Nat} {x : Nat} (hd : decode M.2.1 pc = .ok (.aload i, 2)) (hk : ls[j]? = some (i, .ref x)) (k : PAt E M (pc + 2) ls (.ref x :: st) σ) : PAt E M pc ls (st) σ :=
  fun p l e s m args below meth c G A H locs lsr C hX hA hP hD hS hl => lv_aload C.1 C.2.1 hd (lsT_at hl j hk) (k p l e s m args below meth c G A H locs lsr C hX hA hP hD hS hl)
theorem tq_istore_n {k : Fin 4} {i : Nat} {x : Int32} {ls2 : List (Nat × Value)} (hd : decode M.2.1 pc = .ok (.istore_n k, 1)) (hi : (k : Nat) = i) (hn : i < M.2.2.1) (h2 : lset1 ls i (.int x) = ls2) (k : PAt E M (pc + 1) ls2 st σ) : PAt E M pc ls (.int x :: st) σ :=
  fun p l e s m args below meth c G A H locs lsr C hX hA hP hD hS hl => lv_istore_n C.1 C.2.1 hd hi hl hn ((lset1_T G.2.2 ls i (.int x)).trans (congrArg _ h2)) (fun lsr2 hl2 => k p l e s m args below meth c G A H locs lsr2 C hX hA hP hD hS hl2)
theorem tq_istore {i : Nat} {x : Int32} {ls2 : List (Nat × Value)} (hd : decode M.2.1 pc = .ok (.istore i, 2)) (hn : i < M.2.2.1) (h2 : lset1 ls i (.int x) = ls2) (k : PAt E M (pc + 2) ls2 st σ) : PAt E M pc ls (.int x :: st) σ :=
  fun p l e s m args below meth c G A H locs lsr C hX hA hP hD hS hl => lv_istore C.1 C.2.1 hd hl hn ((lset1_T G.2.2 ls i (.int x)).trans (congrArg _ h2)) (fun lsr2 hl2 => k p l e s m args below meth c G A H locs lsr2 C hX hA hP hD hS hl2)
theorem tq_lstore_n {k : Fin 4} {i : Nat} {x : Int64} {ls2 : List (Nat × Value)} (hd : decode M.2.1 pc = .ok (.lstore_n k, 1)) (hi : (k : Nat) = i) (hn : i + 1 < M.2.2.1) (h2 : lset2 ls i (.long x) = ls2) (k : PAt E M (pc + 1) ls2 st σ) : PAt E M pc ls (.long x :: st) σ :=
  fun p l e s m args below meth c G A H locs lsr C hX hA hP hD hS hl => lv_lstore_n C.1 C.2.1 hd hi hl hn ((lset2_T G.2.2 ls i (.long x)).trans (congrArg _ h2)) (fun lsr2 hl2 => k p l e s m args below meth c G A H locs lsr2 C hX hA hP hD hS hl2)
theorem tq_lstore {i : Nat} {x : Int64} {ls2 : List (Nat × Value)} (hd : decode M.2.1 pc = .ok (.lstore i, 2)) (hn : i + 1 < M.2.2.1) (h2 : lset2 ls i (.long x) = ls2) (k : PAt E M (pc + 2) ls2 st σ) : PAt E M pc ls (.long x :: st) σ :=
  fun p l e s m args below meth c G A H locs lsr C hX hA hP hD hS hl => lv_lstore C.1 C.2.1 hd hl hn ((lset2_T G.2.2 ls i (.long x)).trans (congrArg _ h2)) (fun lsr2 hl2 => k p l e s m args below meth c G A H locs lsr2 C hX hA hP hD hS hl2)
theorem tq_astore_n {k : Fin 4} {i : Nat} {x : Nat} {ls2 : List (Nat × Value)} (hd : decode M.2.1 pc = .ok (.astore_n k, 1)) (hi : (k : Nat) = i) (hn : i < M.2.2.1) (h2 : lset1 ls i (.ref x) = ls2) (k : PAt E M (pc + 1) ls2 st σ) : PAt E M pc ls (.ref x :: st) σ :=
  fun p l e s m args below meth c G A H locs lsr C hX hA hP hD hS hl => lv_astore_n C.1 C.2.1 hd hi hl hn ((lset1_T G.2.2 ls i (.ref x)).trans (congrArg _ h2)) (fun lsr2 hl2 => k p l e s m args below meth c G A H locs lsr2 C hX hA hP hD hS hl2)
theorem tq_astore {i : Nat} {x : Nat} {ls2 : List (Nat × Value)} (hd : decode M.2.1 pc = .ok (.astore i, 2)) (hn : i < M.2.2.1) (h2 : lset1 ls i (.ref x) = ls2) (k : PAt E M (pc + 2) ls2 st σ) : PAt E M pc ls (.ref x :: st) σ :=
  fun p l e s m args below meth c G A H locs lsr C hX hA hP hD hS hl => lv_astore C.1 C.2.1 hd hl hn ((lset1_T G.2.2 ls i (.ref x)).trans (congrArg _ h2)) (fun lsr2 hl2 => k p l e s m args below meth c G A H locs lsr2 C hX hA hP hD hS hl2)
theorem tq_iinc (j : Nat) {i : Nat} {n : Int} {x v : Int32} {ls2 : List (Nat × Value)} (hd : decode M.2.1 pc = .ok (.iinc i n, 3)) (hk : ls[j]? = some (i, .int x)) (hv : x + Int32.ofInt n = v) (hn : i < M.2.2.1) (h2 : lset1 ls i (.int v) = ls2) (k : PAt E M (pc + 3) ls2 st σ) : PAt E M pc ls st σ :=
  fun p l e s m args below meth c G A H locs lsr C hX hA hP hD hS hl => lv_iinc (k := j) C.1 C.2.1 hd hl (by unfold lsT; rw [List.getElem?_map, hk]; rfl) hv hn ((lset1_T G.2.2 ls i (.int v)).trans (congrArg _ h2)) (fun lsr2 hl2 => k p l e s m args below meth c G A H locs lsr2 C hX hA hP hD hS hl2)
theorem tq_iadd {x y : Int32} (hd : decode M.2.1 pc = .ok (.iadd, 1)) (k : PAt E M (pc + 1) ls (.int (x + y) :: st) σ) : PAt E M pc ls (.int y :: .int x :: st) σ :=
  fun p l e s m args below meth c G A H locs lsr C hX hA hP hD hS hl => lv_iadd C.1 C.2.1 hd (k p l e s m args below meth c G A H locs lsr C hX hA hP hD hS hl)
theorem tq_isub {x y : Int32} (hd : decode M.2.1 pc = .ok (.isub, 1)) (k : PAt E M (pc + 1) ls (.int (x - y) :: st) σ) : PAt E M pc ls (.int y :: .int x :: st) σ :=
  fun p l e s m args below meth c G A H locs lsr C hX hA hP hD hS hl => lv_isub C.1 C.2.1 hd (k p l e s m args below meth c G A H locs lsr C hX hA hP hD hS hl)
theorem tq_imul {x y : Int32} (hd : decode M.2.1 pc = .ok (.imul, 1)) (k : PAt E M (pc + 1) ls (.int (x * y) :: st) σ) : PAt E M pc ls (.int y :: .int x :: st) σ :=
  fun p l e s m args below meth c G A H locs lsr C hX hA hP hD hS hl => lv_imul C.1 C.2.1 hd (k p l e s m args below meth c G A H locs lsr C hX hA hP hD hS hl)
theorem tq_iand {x y : Int32} (hd : decode M.2.1 pc = .ok (.iand, 1)) (k : PAt E M (pc + 1) ls (.int (x &&& y) :: st) σ) : PAt E M pc ls (.int y :: .int x :: st) σ :=
  fun p l e s m args below meth c G A H locs lsr C hX hA hP hD hS hl => lv_iand C.1 C.2.1 hd (k p l e s m args below meth c G A H locs lsr C hX hA hP hD hS hl)
theorem tq_ior {x y : Int32} (hd : decode M.2.1 pc = .ok (.ior, 1)) (k : PAt E M (pc + 1) ls (.int (x ||| y) :: st) σ) : PAt E M pc ls (.int y :: .int x :: st) σ :=
  fun p l e s m args below meth c G A H locs lsr C hX hA hP hD hS hl => lv_ior C.1 C.2.1 hd (k p l e s m args below meth c G A H locs lsr C hX hA hP hD hS hl)
theorem tq_ishl {x y : Int32} (hd : decode M.2.1 pc = .ok (.ishl, 1)) (k : PAt E M (pc + 1) ls (.int (x <<< (y &&& 31)) :: st) σ) : PAt E M pc ls (.int y :: .int x :: st) σ :=
  fun p l e s m args below meth c G A H locs lsr C hX hA hP hD hS hl => lv_ishl C.1 C.2.1 hd (k p l e s m args below meth c G A H locs lsr C hX hA hP hD hS hl)
theorem tq_ishr {x y : Int32} (hd : decode M.2.1 pc = .ok (.ishr, 1)) (k : PAt E M (pc + 1) ls (.int (x >>> (y &&& 31)) :: st) σ) : PAt E M pc ls (.int y :: .int x :: st) σ :=
  fun p l e s m args below meth c G A H locs lsr C hX hA hP hD hS hl => lv_ishr C.1 C.2.1 hd (k p l e s m args below meth c G A H locs lsr C hX hA hP hD hS hl)
theorem tq_iushr {x y : Int32} (hd : decode M.2.1 pc = .ok (.iushr, 1)) (k : PAt E M (pc + 1) ls (.int ((x.toUInt32 >>> (y.toUInt32 &&& Int32.toUInt32 31)).toInt32) :: st) σ) : PAt E M pc ls (.int y :: .int x :: st) σ :=
  fun p l e s m args below meth c G A H locs lsr C hX hA hP hD hS hl => lv_iushr C.1 C.2.1 hd rfl (k p l e s m args below meth c G A H locs lsr C hX hA hP hD hS hl)
theorem tq_idiv {x y : Int32} (hd : decode M.2.1 pc = .ok (.idiv, 1)) (hne : ¬ y = 0) (k : PAt E M (pc + 1) ls (.int (x / y) :: st) σ) : PAt E M pc ls (.int y :: .int x :: st) σ :=
  fun p l e s m args below meth c G A H locs lsr C hX hA hP hD hS hl => lv_idiv C.1 C.2.1 hd hne (k p l e s m args below meth c G A H locs lsr C hX hA hP hD hS hl)
theorem tq_irem {x y : Int32} (hd : decode M.2.1 pc = .ok (.irem, 1)) (hne : ¬ y = 0) (k : PAt E M (pc + 1) ls (.int (x - x / y * y) :: st) σ) : PAt E M pc ls (.int y :: .int x :: st) σ :=
  fun p l e s m args below meth c G A H locs lsr C hX hA hP hD hS hl => lv_irem C.1 C.2.1 hd hne (k p l e s m args below meth c G A H locs lsr C hX hA hP hD hS hl)
theorem tq_ladd {x y : Int64} (hd : decode M.2.1 pc = .ok (.ladd, 1)) (k : PAt E M (pc + 1) ls (.long (x + y) :: st) σ) : PAt E M pc ls (.long y :: .long x :: st) σ :=
  fun p l e s m args below meth c G A H locs lsr C hX hA hP hD hS hl => lv_ladd C.1 C.2.1 hd (k p l e s m args below meth c G A H locs lsr C hX hA hP hD hS hl)
theorem tq_lsub {x y : Int64} (hd : decode M.2.1 pc = .ok (.lsub, 1)) (k : PAt E M (pc + 1) ls (.long (x - y) :: st) σ) : PAt E M pc ls (.long y :: .long x :: st) σ :=
  fun p l e s m args below meth c G A H locs lsr C hX hA hP hD hS hl => lv_lsub C.1 C.2.1 hd (k p l e s m args below meth c G A H locs lsr C hX hA hP hD hS hl)
theorem tq_lmul {x y : Int64} (hd : decode M.2.1 pc = .ok (.lmul, 1)) (k : PAt E M (pc + 1) ls (.long (x * y) :: st) σ) : PAt E M pc ls (.long y :: .long x :: st) σ :=
  fun p l e s m args below meth c G A H locs lsr C hX hA hP hD hS hl => lv_lmul C.1 C.2.1 hd (k p l e s m args below meth c G A H locs lsr C hX hA hP hD hS hl)
theorem tq_ldiv {x y : Int64} (hd : decode M.2.1 pc = .ok (.ldiv, 1)) (hne : ¬ y = 0) (k : PAt E M (pc + 1) ls (.long (x / y) :: st) σ) : PAt E M pc ls (.long y :: .long x :: st) σ :=
  fun p l e s m args below meth c G A H locs lsr C hX hA hP hD hS hl => lv_ldiv C.1 C.2.1 hd hne (k p l e s m args below meth c G A H locs lsr C hX hA hP hD hS hl)
theorem tq_lrem {x y : Int64} (hd : decode M.2.1 pc = .ok (.lrem, 1)) (hne : ¬ y = 0) (k : PAt E M (pc + 1) ls (.long (x - x / y * y) :: st) σ) : PAt E M pc ls (.long y :: .long x :: st) σ :=
  fun p l e s m args below meth c G A H locs lsr C hX hA hP hD hS hl => lv_lrem C.1 C.2.1 hd hne (k p l e s m args below meth c G A H locs lsr C hX hA hP hD hS hl)
theorem tq_lcmp {x y : Int64} (hd : decode M.2.1 pc = .ok (.lcmp, 1)) (k : PAt E M (pc + 1) ls (.int (lg_cmp x y) :: st) σ) : PAt E M pc ls (.long y :: .long x :: st) σ :=
  fun p l e s m args below meth c G A H locs lsr C hX hA hP hD hS hl => W.lcmp C.1 C.2.1 hd (k p l e s m args below meth c G A H locs lsr C hX hA hP hD hS hl)
theorem tq_i2l {x : Int32} (hd : decode M.2.1 pc = .ok (.i2l, 1)) (k : PAt E M (pc + 1) ls (.long x.toInt64 :: st) σ) : PAt E M pc ls (.int x :: st) σ :=
  fun p l e s m args below meth c G A H locs lsr C hX hA hP hD hS hl => lv_i2l C.1 C.2.1 hd rfl (k p l e s m args below meth c G A H locs lsr C hX hA hP hD hS hl)
theorem tq_i2b {x : Int32} (hd : decode M.2.1 pc = .ok (.i2b, 1)) (k : PAt E M (pc + 1) ls (.int x.toInt8.toInt32 :: st) σ) : PAt E M pc ls (.int x :: st) σ :=
  fun p l e s m args below meth c G A H locs lsr C hX hA hP hD hS hl => lv_i2b C.1 C.2.1 hd rfl (k p l e s m args below meth c G A H locs lsr C hX hA hP hD hS hl)
theorem tq_i2s {x : Int32} (hd : decode M.2.1 pc = .ok (.i2s, 1)) (k : PAt E M (pc + 1) ls (.int x.toInt16.toInt32 :: st) σ) : PAt E M pc ls (.int x :: st) σ :=
  fun p l e s m args below meth c G A H locs lsr C hX hA hP hD hS hl => lv_i2s C.1 C.2.1 hd rfl (k p l e s m args below meth c G A H locs lsr C hX hA hP hD hS hl)
theorem tq_dup {v : Value} (hd : decode M.2.1 pc = .ok (.dup, 1)) (hc : v.category = 1) (k : PAt E M (pc + 1) ls (v :: v :: st) σ) : PAt E M pc ls (v :: st) σ :=
  fun p l e s m args below meth c G A H locs lsr C hX hA hP hD hS hl => lv_dup C.1 C.2.1 hd ((tr_cat _ _).trans hc) (k p l e s m args below meth c G A H locs lsr C hX hA hP hD hS hl)
theorem tq_pop {v : Value} (hd : decode M.2.1 pc = .ok (.pop, 1)) (hc : v.category = 1) (k : PAt E M (pc + 1) ls (st) σ) : PAt E M pc ls (v :: st) σ :=
  fun p l e s m args below meth c G A H locs lsr C hX hA hP hD hS hl => lv_pop C.1 C.2.1 hd ((tr_cat _ _).trans hc) (k p l e s m args below meth c G A H locs lsr C hX hA hP hD hS hl)
theorem tq_dup2 {v u : Value} (hd : decode M.2.1 pc = .ok (.dup2, 1)) (hc : v.category = 1) (hc2 : u.category = 1) (k : PAt E M (pc + 1) ls (v :: u :: v :: u :: st) σ) : PAt E M pc ls (v :: u :: st) σ :=
  fun p l e s m args below meth c G A H locs lsr C hX hA hP hD hS hl => lv_dup2_11 C.1 C.2.1 hd ((tr_cat _ _).trans hc) ((tr_cat _ _).trans hc2) (k p l e s m args below meth c G A H locs lsr C hX hA hP hD hS hl)
theorem tq_goto {off : Int} {tgt : Nat} (hd : decode M.2.1 pc = .ok (.goto off, 3)) (ht : (pc : Int) + off = (tgt : Int)) (k : PAt E M tgt ls st σ) : PAt E M pc ls st σ :=
  fun p l e s m args below meth c G A H locs lsr C hX hA hP hD hS hl => lv_goto C.1 C.2.1 hd ht (k p l e s m args below meth c G A H locs lsr C hX hA hP hD hS hl)
theorem tq_if_eq {x : Int32} {off : Int} {tgt : Nat} (hd : decode M.2.1 pc = .ok (.ifCond .eq off, 3)) (ht : (pc : Int) + off = (tgt : Int)) (kt : x = 0 → PAt E M tgt ls st σ) (kf : ¬ x = 0 → PAt E M (pc + 3) ls st σ) : PAt E M pc ls (.int x :: st) σ :=
  fun p l e s m args below meth c G A H locs lsr C hX hA hP hD hS hl => lv_if_eq C.1 C.2.1 hd ht (fun h => kt h p l e s m args below meth c G A H locs lsr C hX hA hP hD hS hl) (fun h => kf h p l e s m args below meth c G A H locs lsr C hX hA hP hD hS hl)
theorem tq_icmp_eq {x y : Int32} {off : Int} {tgt : Nat} (hd : decode M.2.1 pc = .ok (.if_icmp .eq off, 3)) (ht : (pc : Int) + off = (tgt : Int)) (kt : x = y → PAt E M tgt ls st σ) (kf : ¬ x = y → PAt E M (pc + 3) ls st σ) : PAt E M pc ls (.int y :: .int x :: st) σ :=
  fun p l e s m args below meth c G A H locs lsr C hX hA hP hD hS hl => lv_icmp_eq C.1 C.2.1 hd ht (fun h => kt h p l e s m args below meth c G A H locs lsr C hX hA hP hD hS hl) (fun h => kf h p l e s m args below meth c G A H locs lsr C hX hA hP hD hS hl)
theorem tq_if_ne {x : Int32} {off : Int} {tgt : Nat} (hd : decode M.2.1 pc = .ok (.ifCond .ne off, 3)) (ht : (pc : Int) + off = (tgt : Int)) (kt : ¬ x = 0 → PAt E M tgt ls st σ) (kf : x = 0 → PAt E M (pc + 3) ls st σ) : PAt E M pc ls (.int x :: st) σ :=
  fun p l e s m args below meth c G A H locs lsr C hX hA hP hD hS hl => lv_if_ne C.1 C.2.1 hd ht (fun h => kt h p l e s m args below meth c G A H locs lsr C hX hA hP hD hS hl) (fun h => kf h p l e s m args below meth c G A H locs lsr C hX hA hP hD hS hl)
theorem tq_icmp_ne {x y : Int32} {off : Int} {tgt : Nat} (hd : decode M.2.1 pc = .ok (.if_icmp .ne off, 3)) (ht : (pc : Int) + off = (tgt : Int)) (kt : ¬ x = y → PAt E M tgt ls st σ) (kf : x = y → PAt E M (pc + 3) ls st σ) : PAt E M pc ls (.int y :: .int x :: st) σ :=
  fun p l e s m args below meth c G A H locs lsr C hX hA hP hD hS hl => lv_icmp_ne C.1 C.2.1 hd ht (fun h => kt h p l e s m args below meth c G A H locs lsr C hX hA hP hD hS hl) (fun h => kf h p l e s m args below meth c G A H locs lsr C hX hA hP hD hS hl)
theorem tq_if_lt {x : Int32} {off : Int} {tgt : Nat} (hd : decode M.2.1 pc = .ok (.ifCond .lt off, 3)) (ht : (pc : Int) + off = (tgt : Int)) (kt : x < 0 → PAt E M tgt ls st σ) (kf : ¬ x < 0 → PAt E M (pc + 3) ls st σ) : PAt E M pc ls (.int x :: st) σ :=
  fun p l e s m args below meth c G A H locs lsr C hX hA hP hD hS hl => lv_if_lt C.1 C.2.1 hd ht (fun h => kt h p l e s m args below meth c G A H locs lsr C hX hA hP hD hS hl) (fun h => kf h p l e s m args below meth c G A H locs lsr C hX hA hP hD hS hl)
theorem tq_icmp_lt {x y : Int32} {off : Int} {tgt : Nat} (hd : decode M.2.1 pc = .ok (.if_icmp .lt off, 3)) (ht : (pc : Int) + off = (tgt : Int)) (kt : x < y → PAt E M tgt ls st σ) (kf : ¬ x < y → PAt E M (pc + 3) ls st σ) : PAt E M pc ls (.int y :: .int x :: st) σ :=
  fun p l e s m args below meth c G A H locs lsr C hX hA hP hD hS hl => lv_icmp_lt C.1 C.2.1 hd ht (fun h => kt h p l e s m args below meth c G A H locs lsr C hX hA hP hD hS hl) (fun h => kf h p l e s m args below meth c G A H locs lsr C hX hA hP hD hS hl)
theorem tq_if_ge {x : Int32} {off : Int} {tgt : Nat} (hd : decode M.2.1 pc = .ok (.ifCond .ge off, 3)) (ht : (pc : Int) + off = (tgt : Int)) (kt : 0 ≤ x → PAt E M tgt ls st σ) (kf : ¬ 0 ≤ x → PAt E M (pc + 3) ls st σ) : PAt E M pc ls (.int x :: st) σ :=
  fun p l e s m args below meth c G A H locs lsr C hX hA hP hD hS hl => lv_if_ge C.1 C.2.1 hd ht (fun h => kt h p l e s m args below meth c G A H locs lsr C hX hA hP hD hS hl) (fun h => kf h p l e s m args below meth c G A H locs lsr C hX hA hP hD hS hl)
theorem tq_icmp_ge {x y : Int32} {off : Int} {tgt : Nat} (hd : decode M.2.1 pc = .ok (.if_icmp .ge off, 3)) (ht : (pc : Int) + off = (tgt : Int)) (kt : y ≤ x → PAt E M tgt ls st σ) (kf : ¬ y ≤ x → PAt E M (pc + 3) ls st σ) : PAt E M pc ls (.int y :: .int x :: st) σ :=
  fun p l e s m args below meth c G A H locs lsr C hX hA hP hD hS hl => lv_icmp_ge C.1 C.2.1 hd ht (fun h => kt h p l e s m args below meth c G A H locs lsr C hX hA hP hD hS hl) (fun h => kf h p l e s m args below meth c G A H locs lsr C hX hA hP hD hS hl)
theorem tq_if_gt {x : Int32} {off : Int} {tgt : Nat} (hd : decode M.2.1 pc = .ok (.ifCond .gt off, 3)) (ht : (pc : Int) + off = (tgt : Int)) (kt : 0 < x → PAt E M tgt ls st σ) (kf : ¬ 0 < x → PAt E M (pc + 3) ls st σ) : PAt E M pc ls (.int x :: st) σ :=
  fun p l e s m args below meth c G A H locs lsr C hX hA hP hD hS hl => lv_if_gt C.1 C.2.1 hd ht (fun h => kt h p l e s m args below meth c G A H locs lsr C hX hA hP hD hS hl) (fun h => kf h p l e s m args below meth c G A H locs lsr C hX hA hP hD hS hl)
theorem tq_icmp_gt {x y : Int32} {off : Int} {tgt : Nat} (hd : decode M.2.1 pc = .ok (.if_icmp .gt off, 3)) (ht : (pc : Int) + off = (tgt : Int)) (kt : y < x → PAt E M tgt ls st σ) (kf : ¬ y < x → PAt E M (pc + 3) ls st σ) : PAt E M pc ls (.int y :: .int x :: st) σ :=
  fun p l e s m args below meth c G A H locs lsr C hX hA hP hD hS hl => lv_icmp_gt C.1 C.2.1 hd ht (fun h => kt h p l e s m args below meth c G A H locs lsr C hX hA hP hD hS hl) (fun h => kf h p l e s m args below meth c G A H locs lsr C hX hA hP hD hS hl)
theorem tq_if_le {x : Int32} {off : Int} {tgt : Nat} (hd : decode M.2.1 pc = .ok (.ifCond .le off, 3)) (ht : (pc : Int) + off = (tgt : Int)) (kt : x ≤ 0 → PAt E M tgt ls st σ) (kf : ¬ x ≤ 0 → PAt E M (pc + 3) ls st σ) : PAt E M pc ls (.int x :: st) σ :=
  fun p l e s m args below meth c G A H locs lsr C hX hA hP hD hS hl => lv_if_le C.1 C.2.1 hd ht (fun h => kt h p l e s m args below meth c G A H locs lsr C hX hA hP hD hS hl) (fun h => kf h p l e s m args below meth c G A H locs lsr C hX hA hP hD hS hl)
theorem tq_icmp_le {x y : Int32} {off : Int} {tgt : Nat} (hd : decode M.2.1 pc = .ok (.if_icmp .le off, 3)) (ht : (pc : Int) + off = (tgt : Int)) (kt : x ≤ y → PAt E M tgt ls st σ) (kf : ¬ x ≤ y → PAt E M (pc + 3) ls st σ) : PAt E M pc ls (.int y :: .int x :: st) σ :=
  fun p l e s m args below meth c G A H locs lsr C hX hA hP hD hS hl => lv_icmp_le C.1 C.2.1 hd ht (fun h => kt h p l e s m args below meth c G A H locs lsr C hX hA hP hD hS hl) (fun h => kf h p l e s m args below meth c G A H locs lsr C hX hA hP hD hS hl)
theorem tq_lookup {dflt : Int} {ps : Array (Int × Int)} {len : Nat} {x : Int32} {off : Int} {tgt : Nat} (hd : decode M.2.1 pc = .ok (.lookupswitch dflt ps, len)) (hp : (ps.toList.zip (ps.toList.drop 1)).all (fun (a, next) => a.1 < next.1) = true) (ho : Op.lookupswitch.offset ps.toList dflt x.toInt = off) (ht : (pc : Int) + off = (tgt : Int)) (k : PAt E M tgt ls st σ) : PAt E M pc ls (.int x :: st) σ :=
  fun p l e s m args below meth c G A H locs lsr C hX hA hP hD hS hl => lv_lookup C.1 C.2.1 hd hp ho ht (k p l e s m args below meth c G A H locs lsr C hX hA hP hD hS hl)
theorem tq_tableOut {dflt lo hi : Int} {offs : Array Int} {len : Nat} {x : Int32} {tgt : Nat} (hd : decode M.2.1 pc = .ok (.tableswitch dflt lo hi offs, len)) (h : x.toInt < lo ∨ hi < x.toInt) (ht : (pc : Int) + dflt = (tgt : Int)) (k : PAt E M tgt ls st σ) : PAt E M pc ls (.int x :: st) σ :=
  fun p l e s m args below meth c G A H locs lsr C hX hA hP hD hS hl => lv_tableOut C.1 C.2.1 hd h ht (k p l e s m args below meth c G A H locs lsr C hX hA hP hD hS hl)
theorem tq_tableIn {dflt lo hi : Int} {offs : Array Int} {len : Nat} {x : Int32} {off : Int} {tgt : Nat} (hd : decode M.2.1 pc = .ok (.tableswitch dflt lo hi offs, len)) (h1 : ¬ x.toInt < lo) (h2 : ¬ hi < x.toInt) (ho : offs[(x.toInt - lo).toNat]? = some off) (ht : (pc : Int) + off = (tgt : Int)) (k : PAt E M tgt ls st σ) : PAt E M pc ls (.int x :: st) σ :=
  fun p l e s m args below meth c G A H locs lsr C hX hA hP hD hS hl => lv_tableIn C.1 C.2.1 hd h1 h2 ho ht (k p l e s m args below meth c G A H locs lsr C hX hA hP hD hS hl)
/-- what is known of a class of the worlds -/
def FC (ci : Nat) (C : String) (T : u_T) (N : Nat) : Prop := vwCl[ci]? = some (C, T, N) ∧ (∀ w ∈ u_ws C T N, w ∈ tblG) ∧ (∃ ty : Nat → FieldType, (∀ k, k < N → parseFieldDescriptor (T k).2.2.1 = some (ty k))) ∧ ∀ a, a < N → ∀ b, b < N → a ≠ b → (T a).2.1 ≠ (T b).2.1
/-- what the entry idx of own's pool says: field k of class ci -/
def FL (own : String) (idx ci k : Nat) (ty : FieldType) (fin : Bool) : Prop := ∃ (C : String) (T : u_T) (N : Nat), FC ci C T N ∧ k < N ∧ Cond.fieldLink own idx (T k).1 (T k).2.1 (T k).2.2.1 ∈ tblG ∧ parseFieldDescriptor (T k).2.2.1 = some ty ∧ (T k).2.2.2 = fin
theorem tq_getI {idx ci j i : Nat} {ty : FieldType} {fin : Bool} {fs : List (Option Nat)} (hd : decode M.2.1 pc = .ok (.getfield idx, 3)) (hf : FL M.1.cls idx ci j ty fin) (hs : SH i = some (.inr (.inr (ci, fs)))) (hk : fs[j]? = some none) (k : PAt E M (pc + 3) ls (.int (σ i j) :: st) σ) : PAt E M pc ls (.ref i :: st) σ := by
  obtain ⟨C0, T, N, ⟨f1, f2, f3, f4⟩, f5, f6, f7, f8⟩ := hf
  exact fun p l e s m args below meth c G A H locs lsr C hX hA hP hD hS hl => va_get C.1 C.2.1 C.2.2.2.2.1 f2 C.2.2.2.1 C.2.2.2.2.2.2.2 hP i (wd_at hs) f1 j f5 (C.2.2.2.2.1 _ f6) (fun _ h => h) (v := .int (σ i j)) (by rw [flds_get, hk]; simp) hd (k p l e s m args below meth c G A H locs lsr C hX hA hP hD hS hl)
theorem tq_getR {idx ci j i q : Nat} {ty : FieldType} {fin : Bool} {fs : List (Option Nat)} (hd : decode M.2.1 pc = .ok (.getfield idx, 3)) (hf : FL M.1.cls idx ci j ty fin) (hs : SH i = some (.inr (.inr (ci, fs)))) (hk : fs[j]? = some (some q)) (k : PAt E M (pc + 3) ls (.ref q :: st) σ) : PAt E M pc ls (.ref i :: st) σ := by
  obtain ⟨C0, T, N, ⟨f1, f2, f3, f4⟩, f5, f6, f7, f8⟩ := hf
  exact fun p l e s m args below meth c G A H locs lsr C hX hA hP hD hS hl => va_get C.1 C.2.1 C.2.2.2.2.1 f2 C.2.2.2.1 C.2.2.2.2.2.2.2 hP i (wd_at hs) f1 j f5 (C.2.2.2.2.1 _ f6) (fun _ h => h) (v := .ref (G.2.2 q)) (by rw [flds_get, hk]; simp) hd (k p l e s m args below meth c G A H locs lsr C hX hA hP hD hS hl)
theorem tq_putI {idx ci j i : Nat} {ty : FieldType} {fs : List (Option Nat)} {v : Int32} (hd : decode M.2.1 pc = .ok (.putfield idx, 3)) (hf : FL M.1.cls idx ci j ty false) (hs : SH i = some (.inr (.inr (ci, fs)))) (hk : fs[j]? = some none) (hn : narrow ty (.int v) = .int v) (hfit : fits ty (.int v) = true) (k : PAt E M (pc + 3) ls st (up σ i j v)) : PAt E M pc ls (.int v :: .ref i :: st) σ := by
  obtain ⟨C0, T, N, ⟨f1, f2, ⟨f3, f3'⟩, f4⟩, f5, f6, f7, f8⟩ := hf
  intro p l e s m args below meth c G A H locs lsr C hX hA hP hD hS hl
  have hset : (wd G σ).set i (G.2.2 i, .inr (ci, (flds G.2.2 (σ i) 0 fs).set j (.int v))) = wd G (up σ i j v) := by
    rw [flds_set _ _ _ _ _ hk]
    exact wd_set hs
  refine va_put C.1 C.2.1 C.2.2.2.2.1 f2 f3 f3' f4 C.2.2.2.1 C.2.2.2.2.2.2.2 hP hD hS i (wd_at hs) f1 j f5 (C.2.2.2.2.1 _ f6) (fun _ h => h) f8 f7 (v := .int v) hn hfit ?_ hd (fun H1 locs1 hP1 hD1 hS1 => ?_)
  · have h1 := flds_get G.2.2 (σ i) fs 0 j
    rw [hk] at h1
    exact (List.getElem?_eq_some_iff.mp h1).1
  · rw [hset] at hP1 hD1
    exact k p l e s m args below meth c G A H1 locs1 lsr C hX hA hP1 hD1 hS1 hl
theorem tq_iald {i n : Nat} {x : Int32} (hd : decode M.2.1 pc = .ok (.iaload, 1)) (hs : SH i = some (.inl (.int, n))) (hin : vp_in x n) (k : PAt E M (pc + 1) ls (.int (σ i x.toNatClampNeg) :: st) σ) : PAt E M pc ls (.int x :: .ref i :: st) σ :=
  fun p l e s m args below meth c G A H locs lsr C hX hA hP hD hS hl => va_iald C.1 C.2.1 C.2.2.2.2.2.2.2 hP i 0 (wd_at hs) rfl hin hd (k p l e s m args below meth c G A H locs lsr C hX hA hP hD hS hl)
theorem tq_zald {i n : Nat} {x : Int32} (hd : decode M.2.1 pc = .ok (.baload, 1)) (hs : SH i = some (.inl (.boolean, n))) (hin : vp_in x n) (k : PAt E M (pc + 1) ls (.int (σ i x.toNatClampNeg) :: st) σ) : PAt E M pc ls (.int x :: .ref i :: st) σ :=
  fun p l e s m args below meth c G A H locs lsr C hX hA hP hD hS hl => va_zald C.1 C.2.1 C.2.2.2.2.2.2.2 hP i 1 (wd_at hs) rfl hin hd (k p l e s m args below meth c G A H locs lsr C hX hA hP hD hS hl)
theorem tq_iast {i n : Nat} {x v : Int32} (hd : decode M.2.1 pc = .ok (.iastore, 1)) (hs : SH i = some (.inl (.int, n))) (hin : vp_in x n) (k : PAt E M (pc + 1) ls st (up σ i x.toNatClampNeg v)) : PAt E M pc ls (.int v :: .int x :: .ref i :: st) σ := by
  intro p l e s m args below meth c G A H locs lsr C hX hA hP hD hS hl
  refine va_iast C.1 C.2.1 C.2.2.2.2.2.2.2 hP hD hS i 0 (wd_at hs) rfl hin hd (fun H1 locs1 hP1 hD1 hS1 => ?_)
  rw [show (wd G σ).set i (G.2.2 i, .inl (G.2.1 .int, n, .inl (upd (σ i) x.toNatClampNeg v))) = wd G (up σ i x.toNatClampNeg v) from wd_set hs] at hP1 hD1
  exact k p l e s m args below meth c G A H1 locs1 lsr C hX hA hP1 hD1 hS1 hl
theorem tq_zast {i n : Nat} {x v : Int32} (hd : decode M.2.1 pc = .ok (.bastore, 1)) (hs : SH i = some (.inl (.boolean, n))) (hin : vp_in x n) (k : PAt E M (pc + 1) ls st (up σ i x.toNatClampNeg (vp_nar .boolean v))) : PAt E M pc ls (.int v :: .int x :: .ref i :: st) σ := by
  intro p l e s m args below meth c G A H locs lsr C hX hA hP hD hS hl
  refine va_zast C.1 C.2.1 C.2.2.2.2.2.2.2 hP hD hS i 1 (wd_at hs) rfl hin hd (fun H1 locs1 hP1 hD1 hS1 => ?_)
  rw [show (wd G σ).set i (G.2.2 i, .inl (G.2.1 .boolean, n, .inl (upd (σ i) x.toNatClampNeg (vp_nar .boolean v)))) = wd G (up σ i x.toNatClampNeg (vp_nar .boolean v)) from wd_set hs] at hP1 hD1
  exact k p l e s m args below meth c G A H1 locs1 lsr C hX hA hP1 hD1 hS1 hl
theorem tq_alen {i n : Nat} {v : Int32} (hd : decode M.2.1 pc = .ok (.arraylength, 1)) (hs : SH i = some (.inl (.int, n))) (hv : Int32.ofNat n = v) (k : PAt E M (pc + 1) ls (.int v :: st) σ) : PAt E M pc ls (.ref i :: st) σ :=
  fun p l e s m args below meth c G A H locs lsr C hX hA hP hD hS hl => va_alen C.1 C.2.1 C.2.2.2.2.2.2.2 hP i 0 (wd_at hs) rfl hv hd (k p l e s m args below meth c G A H locs lsr C hX hA hP hD hS hl)
theorem tq_aaldR {i q : Nat} {rs : List Nat} {x : Int32} (hd : decode M.2.1 pc = .ok (.aaload, 1)) (hs : SH i = some (.inr (.inl (.array .int, rs)))) (hin : vp_in x rs.length) (hq : rs[x.toNatClampNeg]? = some q) (k : PAt E M (pc + 1) ls (.ref q :: st) σ) : PAt E M pc ls (.int x :: .ref i :: st) σ := by
  intro p l e s m args below meth c G A H locs lsr C hX hA hP hD hS hl
  have hlt : x.toNatClampNeg < rs.length := Nat.not_le.mp fun q => hin (Or.inr q)
  refine W.aald (v := .ref (G.2.2 q)) (ty := .array .int) C.1 C.2.1 (hP i _ (wd_at hs)) ((C.2.2.2.2.2.2.2.2 2 _ rfl).1 rs.length (fun j => va_rf ((rs[j]?).map G.2.2))) rfl (fun q => by cases q) (by show ¬ (x < 0 ∨ (arrV _ _ _).slots.size ≤ _); rw [arrV_size]; exact hin) (by show (arrV _ _ _).slots[_]? = _; rw [arrV_read _ _ hlt]; show some (va_rf ((rs[x.toNatClampNeg]?).map G.2.2)) = _; rw [hq]; rfl) rfl rfl hd (k p l e s m args below meth c G A H locs lsr C hX hA hP hD hS hl)
theorem tq_aaldS {i q : Nat} {rs : List Nat} {x : Int32} (hd : decode M.2.1 pc = .ok (.aaload, 1)) (hs : SH i = some (.inr (.inl (.object "ThreeRefusals$Sheet", rs)))) (hin : vp_in x rs.length) (hq : rs[x.toNatClampNeg]? = some q) (k : PAt E M (pc + 1) ls (.ref q :: st) σ) : PAt E M pc ls (.int x :: .ref i :: st) σ := by
  intro p l e s m args below meth c G A H locs lsr C hX hA hP hD hS hl
  have hlt : x.toNatClampNeg < rs.length := Nat.not_le.mp fun q => hin (Or.inr q)
  refine W.aald (v := .ref (G.2.2 q)) (ty := .object "ThreeRefusals$Sheet") C.1 C.2.1 (hP i _ (wd_at hs)) ((C.2.2.2.2.2.2.2.2 3 _ rfl).1 rs.length (fun j => va_rf ((rs[j]?).map G.2.2))) rfl (fun q => by cases q) (by show ¬ (x < 0 ∨ (arrV _ _ _).slots.size ≤ _); rw [arrV_size]; exact hin) (by show (arrV _ _ _).slots[_]? = _; rw [arrV_read _ _ hlt]; show some (va_rf ((rs[x.toNatClampNeg]?).map G.2.2)) = _; rw [hq]; rfl) rfl rfl hd (k p l e s m args below meth c G A H locs lsr C hX hA hP hD hS hl)
theorem tq_max {idx : Nat} {x y : Int32} (hd : decode M.2.1 pc = .ok (.invokestatic idx, 3)) (hlink : Cond.methodLink M.1.cls idx Lib.Math.max.name ∈ tblG) (hstat : Cond.static Lib.Math.max.name ∈ tblG) (hini : Cond.initialized "java/lang/Math" ∈ tblG) (hcode : Cond.code Lib.Math.max.name Lib.Math.max.code 2 (some .int) ∈ tblG) (hfr : 1 ≤ E.1.frames) (hlo : (st.map (fun v => v.category)).sum + 13 ≤ E.1.locals) (hc : E.2.1.1 ≤ E.1.cells) (hs : E.2.1.2 ≤ E.1.slots) (k : PAt E M (pc + 3) ls (.int (if x < y then y else x) :: st) σ) : PAt E M pc ls (.int y :: .int x :: st) σ := by
  intro p l e s m args below meth c G A H locs lsr C hX hA hP hD hS hl
  refine va_mmax C.1 C.2.1 (C.2.2.1.trans hl.1.symm) C.2.2.2.1 (C.2.2.2.2.1 _ hlink) (C.2.2.2.2.1 _ hstat) (C.2.2.2.2.1 _ hini) (C.2.2.2.2.1 _ hcode) hfr ?_ hc hs hd (k p l e s m args below meth c G A H locs lsr C hX hA hP hD hS hl)
  rw [List.map_map, show ((fun v : Value => v.category) ∘ tr G.2.2) = (fun v => v.category) from funext (fun v => tr_cat _ v)]
  exact hlo
theorem tq_copy {idx i j n0 n1 : Nat} {sp dp n : Int32} (hd : decode M.2.1 pc = .ok (.invokestatic idx, 3)) (hlink : Cond.methodLink M.1.cls idx arraycopyName ∈ tblG) (hnat : Cond.native arraycopyName ∈ tblG) (hstat : Cond.static arraycopyName ∈ tblG) (hini : Cond.initialized "java/lang/System" ∈ tblG) (hs0 : SH i = some (.inl (.int, n0))) (hs1 : SH j = some (.inl (.int, n1))) (h1 : ¬ sp < 0) (h2 : ¬ dp < 0) (h3 : ¬ n < 0) (h4 : sp.toNatClampNeg + n.toNatClampNeg ≤ n0) (h5 : dp.toNatClampNeg + n.toNatClampNeg ≤ n1) (hfr : 1 ≤ E.1.frames) (hlo : (st.map (fun v => v.category)).sum + (nativeFrameWords "java/lang/System" "arraycopy" 5 + 11) ≤ E.1.locals) (k : PAt E M (pc + 3) ls st (upR σ j (va_cpy (σ i) (σ j) sp.toNatClampNeg dp.toNatClampNeg n.toNatClampNeg))) : PAt E M pc ls (.int n :: .int dp :: .ref j :: .int sp :: .ref i :: st) σ := by
  intro p l e s m args below meth c G A H locs lsr C hX hA hP hD hS hl
  refine va_copyi C.1 C.2.1 (C.2.2.1.trans hl.1.symm) C.2.2.2.1 (C.2.2.2.2.1 _ hlink) (C.2.2.2.2.1 _ hnat) (C.2.2.2.2.1 _ hstat) (C.2.2.2.2.1 _ hini) C.2.2.2.2.2.2.2 hP hD hS i j 0 0 (wd_at hs0) (wd_at hs1) rfl rfl rfl h1 h2 h3 h4 h5 (fun _ _ => rfl) hfr ?_ hd (fun H1 locs1 hP1 hD1 hS1 => ?_)
  · rw [List.map_map, show ((fun v : Value => v.category) ∘ tr G.2.2) = (fun v => v.category) from funext (fun v => tr_cat _ v)]
    exact hlo
  · rw [show (wd G σ).set j (G.2.2 j, .inl (G.2.1 .int, n1, .inl (va_cpy (σ i) (σ j) sp.toNatClampNeg dp.toNatClampNeg n.toNatClampNeg))) = wd G (upR σ j (va_cpy (σ i) (σ j) sp.toNatClampNeg dp.toNatClampNeg n.toNatClampNeg)) from wd_set hs1] at hP1 hD1
    exact k p l e s m args below meth c G A H1 locs1 lsr C hX hA hP1 hD1 hS1 hl
end TQ
/-! ===== a method's end, its start, its calls ===== -/
section TM
variable {d : Nat} {Post : Option Value → Mem → Prop} {M : MT} {pc : Nat} {ls : List (Nat × Value)} {σ : Mem}
theorem PQ_of {G : GX} {A : Nat → Prop} {s t : State} {H : Heap} {locs : List Loc} {args : Array Value} (r : Option Value) (hp : Post r σ) (hP : va_P G.1 vwCl (wd G σ) H) (hK : KK G s) (hD : va_D A (wd G σ)) (hS : va_S A s.heap H locs) (ht : t.heap = H) (hW : s.WarmedH t.vm) : PQ G A Post args s (.returned (r.map (tr G.2.2))) t :=
  ⟨⟨r, σ, rfl, hp, by rw [ht]; exact hP, va_K.moved hW.alike hK, hD⟩, hS.F ht⟩
theorem tq_iret {v : Int32} (hr : M.2.2.2 = some .int) (hd : decode M.2.1 pc = .ok (.ireturn, 1)) (hp : Post (some (.int v)) σ) : PAt (EM d Post) M pc ls [.int v] σ :=
  fun p l e s m args below meth c G A H locs lsr C hX hA hP hD hS hl => W.iret (v := v) C.1 C.2.1 (C.2.2.2.2.2.1.trans hr) (fun t ht hW => PQ_of (some (.int v)) hp hP C.2.2.2.2.2.2.2 hD hS ht hW) hS.2.2 hd C.2.2.2.2.2.2.1
theorem tq_zret {v : Int32} (hr : M.2.2.2 = some .boolean) (hn : narrow .boolean (.int v) = .int v) (hd : decode M.2.1 pc = .ok (.ireturn, 1)) (hp : Post (some (.int v)) σ) : PAt (EM d Post) M pc ls [.int v] σ :=
  fun p l e s m args below meth c G A H locs lsr C hX hA hP hD hS hl => W.zret (v := v) (ty := .boolean) C.1 C.2.1 (C.2.2.2.2.2.1.trans hr) hn (fun t ht hW => PQ_of (some (.int v)) hp hP C.2.2.2.2.2.2.2 hD hS ht hW) hS.2.2 hd C.2.2.2.2.2.2.1
theorem tq_lret {v : Int64} (hr : M.2.2.2 = some .long) (hd : decode M.2.1 pc = .ok (.lreturn, 1)) (hp : Post (some (.long v)) σ) : PAt (EM d Post) M pc ls [.long v] σ :=
  fun p l e s m args below meth c G A H locs lsr C hX hA hP hD hS hl => W.lret (v := v) C.1 C.2.1 (C.2.2.2.2.2.1.trans hr) (fun t ht hW => PQ_of (some (.long v)) hp hP C.2.2.2.2.2.2.2 hD hS ht hW) hS.2.2 hd C.2.2.2.2.2.2.1
theorem tq_vret (hr : M.2.2.2 = none) (hd : decode M.2.1 pc = .ok (.return_, 1)) (hp : Post none σ) : PAt (EM d Post) M pc ls [] σ :=
  fun p l e s m args below meth c G A H locs lsr C hX hA hP hD hS hl => W.vret C.1 C.2.1 (C.2.2.2.2.2.1.trans hr) (fun t ht hW => PQ_of none hp hP C.2.2.2.2.2.2.2 hD hS ht hW) hS.2.2 hd C.2.2.2.2.2.2.1

/-- answers by kind -/
def Pi (P : Int32 → Mem → Prop) : Option Value → Mem → Prop := fun r σ => ∃ v, r = some (.int v) ∧ P v σ
def Pl (P : Int64 → Mem → Prop) : Option Value → Mem → Prop := fun r σ => ∃ v, r = some (.long v) ∧ P v σ
def Pa (P : Nat → Mem → Prop) : Option Value → Mem → Prop := fun r σ => ∃ v, r = some (.ref v) ∧ P v σ
def Pv (P : Mem → Prop) : Option Value → Mem → Prop := fun r σ => r = none ∧ P σ
theorem tbl_good : ∀ w ∈ tblG, goodWord w = true := fun w h => (List.mem_filter.mp h).2
theorem goodT {ws : List Cond} (h : ∀ w ∈ ws, w ∈ tblG) : GoodIn tblG ws := fun w hw => ⟨h w hw, good_of_word (tbl_good w (h w hw))⟩
/-- a method of ours, as the tables have it: n arguments besides the object -/
def MB (n : Nat) (M : MT) : Prop := Cond.code M.1 M.2.1 M.2.2.1 M.2.2.2 ∈ tblG ∧ Cond.initialized M.1.cls ∈ tblG ∧ (M.1.cls ≠ "java/lang/invoke/MethodHandle" ∧ M.1.cls ≠ "java/lang/invoke/VarHandle") ∧ plainName M.1.cls = true ∧ (parseMethodDescriptor M.1.desc).map (fun d => d.parameters.length) = some n
def MI (n : Nat) (M : MT) : Prop := MB n M ∧ Cond.instanceMethod M.1 ∈ tblG ∧ Cond.selects M.1.cls M.1 M.1 ∈ tblG
def MS (n : Nat) (M : MT) : Prop := MB n M ∧ Cond.static M.1 ∈ tblG
def ML (own : String) (idx : Nat) (M : MT) : Prop := Cond.methodLink own idx M.1 ∈ tblG
theorem lv_args_T (ad : Nat → Nat) : ∀ (i : Nat) (vs : List Value), lv_args i (vs.map (tr ad)) = lsT ad (lv_args i vs)
  | _, [] => rfl
  | i, v :: vs => by
    simp only [List.map_cons, lv_args, tr_cat]
    rw [lv_args_T ad _ vs]
    rfl
theorem lg_sl_T (ad : Nat → Nat) : ∀ vs : List Value, (lg_sl (vs.map (tr ad))).length = (lg_sl vs).length
  | [] => rfl
  | v :: vs => by
    have h := lg_sl_T ad vs
    unfold lg_sl at h ⊢
    simp only [List.map_cons, List.flatMap_cons, List.length_append, tr_cat] at h ⊢
    rw [h]
    split <;> rfl
theorem wd_addr {G : GX} {σ : Mem} {k : Nat} {q : Nat × va_E} (h : (wd G σ)[k]? = some q) : ∃ i, i < NC ∧ q.1 = G.2.2 i := by
  unfold wd at h
  rw [List.getElem?_map] at h
  by_cases hk : k < NC
  · rw [List.getElem?_range hk] at h
    cases h
    exact ⟨k, hk, rfl⟩
  · rw [List.getElem?_eq_none (by simpa using hk)] at h
    cases h
theorem wd_at2 {G : GX} {σ : Mem} {i : Nat} (hi : i < NC) : (wd G σ)[i]? = some (G.2.2 i, cellOf G (σ i) i) := by
  unfold wd
  rw [List.getElem?_map, List.getElem?_range hi, Option.map_some]
/-- a contract by a walk -/
theorem PMet.start (ls0 : List (Nat × Value)) {as : List Value} {n : Nat} (hM : MB n M) (hn : (lg_sl as).length ≤ M.2.2.1) (h0 : lv_args 0 as = ls0) (k : PAt (EM d Post) M 0 ls0 [] σ) : PMet d M as σ Post := by
  subst h0
  intro l G sz
  refine Met.ofW (cc := M.2.1) (maxL := M.2.2.1) (ret := M.2.2.2) hM.2.2.2.1 rfl ?_
  intro p e s m args below meth c s₁ B hml hv
  obtain ⟨rfl, hsz, hP, hK, hD0⟩ := hv
  subst hsz
  have hts := atoms_spec (ws := wsM M) B.pre
  have hD : va_D (Adr G s.heap.size) (wd G σ) := ⟨hD0.1, fun k q hk => Or.inl (wd_addr hk)⟩
  have hl := lv_entry (as.map (tr G.2.2)) (n := M.2.2.1) (by rw [lg_sl_T]; exact hn)
  rw [lv_args_T] at hl
  rw [lg_entry_eq]
  exact k p l e s m _ below meth c G (Adr G s.heap.size) s.heap [] _ ⟨B.exec, B.bytes, hml, findClass_of_methodNamed B.named, fun w hw => hts w (List.mem_cons_of_mem _ hw), B.returns, B.notSynchronized, hK⟩ trivial (fun q h => Or.inr h) hP hD va_S.rf hl
theorem Pst_blind (G : GX) (σ : Mem) (sz : Nat) (av : List Value) : FrameBlind (va_Pc av (Pst G σ sz)) := fun a U g mk q => by
  obtain ⟨q0, q1, qP, qK, qD⟩ := q
  exact ⟨q0, q1, qP, va_K.moved (u := U) (U := U.calling g mk a) (Vm.Alike.refl U.vm) qK, qD⟩
end TM
section TC
variable {E : ET} {M M2 : MT} {pc idx d i n : Nat} {ls : List (Nat × Value)} {st As rest : List Value} {σ : Mem} {Post : Option Value → Mem → Prop}
theorem Adr_in {G : GX} {A : Nat → Prop} {s : State} {H : Heap} {locs : List Loc} (hA : ∀ q : Nat, s.heap.size ≤ q → A q) (hD : va_D A (wd G σ)) (hS : va_S A s.heap H locs) : ∀ q, Adr G H.size q → A q := by
  intro q h
  rcases h with ⟨i, hi, rfl⟩ | h
  · exact hD.2 i _ (wd_at2 hi)
  · exact hA q (Nat.le_trans hS.1 h)
/-- behind a call -/
theorem tq_run {p : Program} {l : Launch} {e : Env} {s : State} {m : MethodId} {args : Array Value} {below : List Frame} {meth : Method} {c : Code} {G : GX} {A : Nat → Prop} {H : Heap} {locs : List Loc} {lsr : Array Slot} {R : Room} {cells slots : Nat} {Q : State → Prop} {st0 rest : List Value} {a : Array Value}
    (hr : va_Run p l e R s m args below meth c H locs cells slots 0 0 (F0 m pc lsr st0) rest (PQ G (Adr G H.size) Post a) (Adr G H.size))
    (hA : ∀ q : Nat, s.heap.size ≤ q → A q) (hD : va_D A (wd G σ)) (hS : va_S A s.heap H locs)
    (kk : ∀ (r : Option Value) (σ' : Mem) (H1 : Heap) (locs1 : List Loc), Post r σ' → va_P G.1 vwCl (wd G σ') H1 → va_D A (wd G σ') → va_S A s.heap H1 locs1 → W p l e R s m args below meth c H1 locs1 cells slots Q (F0 m (pc + 3) lsr ((r.map (tr G.2.2)).toList ++ rest))) :
    W p l e R s m args below meth c H locs cells slots Q (F0 m pc lsr st0) := by
  have hf := Adr_in (σ := σ) hA hD hS
  intro T hT X
  obtain ⟨v, st₀, t, T', L, h0, X', hL, e1, e2, ⟨⟨r, σ', hv, hp, hP1, hK1, hD1⟩, hz, hk⟩, stp⟩ := hr T hT X
  cases hv
  rw [h0] at hz hk
  obtain ⟨t2, a1, b1⟩ := kk r σ' T'.heap (locs ++ L) hp (by rw [e1]; exact hP1) (hD1.weaken (fun k q _ h => hf q.1 h))
    ⟨Nat.le_trans hS.1 (by rw [e1]; exact hz), fun q h1 h2 => by rw [e1, hk q (Nat.lt_of_lt_of_le h1 hS.1) (fun z => h2 (hf q z))]; exact hS.2.1 q h1 h2, fun q hq => by
      rcases List.mem_append.mp hq with h | h
      · exact hS.2.2 q h
      · exact hf _ (hL q h)⟩ T' rfl X'
  exact ⟨t2, stp t2 a1, b1⟩
theorem roomT {ad : Nat → Nat} {rest : List Value} (h : (rest.map (fun v => v.category)).sum ≤ 8) : ((rest.map (tr ad)).map (fun v => v.category)).sum ≤ 8 := by
  rw [List.map_map, show ((fun v : Value => v.category) ∘ tr ad) = (fun v => v.category) from funext (fun v => tr_cat _ v)]
  exact h
theorem st_T {ad : Nat → Nat} (o : List Value) (h : st = As.reverse ++ (o ++ rest)) : st.map (tr ad) = (As.map (tr ad)).reverse ++ (o.map (tr ad) ++ rest.map (tr ad)) := by
  rw [h]; simp
theorem tq_callV {ci N : Nat} {T : u_T} {fs : List (Option Nat)} (hd : decode M.2.1 pc = .ok (.invokevirtual idx, 3)) (hli : ML M.1.cls idx M2) (hMI : MI n M2) (hM : PMet d M2 (.ref i :: As) σ Post) (hs : SH i = some (.inr (.inr (ci, fs)))) (hc : vwCl[ci]? = some (M2.1.cls, T, N)) (hn : As.length = n) (hst : st = As.reverse ++ ([.ref i] ++ rest)) (hW : (rest.map (fun v => v.category)).sum ≤ 8) (hfr : d + 1 ≤ E.1.frames) (hlo : 8 + (M2.2.2.1 + 11) + 40 * d ≤ E.1.locals) (hcs : E.2.1.1 ≤ E.1.cells ∧ E.2.1.2 ≤ E.1.slots)
    (kk : ∀ (r : Option Value) (σ' : Mem), Post r σ' → PAt E M (pc + 3) ls (r.toList ++ rest) σ') : PAt E M pc ls st σ := by
  intro p l e s m args below meth c G A H locs lsr C hX hA hP hD hS hl
  obtain ⟨⟨m1, m2, m3, m4, m5⟩, m6, m7⟩ := hMI
  have hG : GoodIn tblG (wsV M.1.cls idx M2.1.cls M2.1 (wsM M2)) := goodT (fun w hw => by
    unfold wsV wsM at hw
    simp only [List.cons_append, List.nil_append, List.mem_cons] at hw
    rcases hw with rfl | rfl | rfl | rfl | rfl | hw
    · exact hli
    · exact m6
    · exact m7
    · exact m2
    · exact m1
    · exact hw)
  have hD1 : va_D (fun _ : Nat => True) (wd G σ) := ⟨hD.1, fun _ _ _ => trivial⟩
  refine tq_run (σ := σ) (rest := rest.map (tr G.2.2)) (Post := Post) (a := (Value.ref (G.2.2 i) :: As.map (tr G.2.2)).toArray) (va_runV (As := As.map (tr G.2.2)) (rest := rest.map (tr G.2.2)) (b := G.2.2 i) (mc := 0) (ms := 0) ⟨C.1, C.2.1, C.2.2.1, C.2.2.2.1, C.2.2.2.2.1⟩ (hM l G H.size) (cwV n C.2.2.2.2.1 hG rfl rfl rfl ⟨rfl, m3.1, m3.2, m5⟩ ⟨hfr, hlo⟩) ⟨Pst_blind G σ H.size _, va_recv C.2.2.2.2.2.2.2 hP hc (wd_at hs), fun U hU hW2 => ⟨rfl, by rw [hU], by rw [hU]; exact hP, va_K.moved hW2.alike C.2.2.2.2.2.2.2, hD1⟩⟩ rfl (by rw [List.length_map]; exact hn) hl.1 (st_T [.ref i] hst) (lv_room (ls := lsr) (pc := pc) (m := m) (rest := []) (roomT hW)) hd ⟨hcs.1, hcs.2⟩) hA hD hS (fun r σ' H1 locs1 hp hP1 hD1 hS1 => ?_)
  have h := kk r σ' hp p l e s m args below meth c G A H1 locs1 lsr C hX hA hP1 hD1 hS1 hl
  rw [List.map_append, show r.toList.map (tr G.2.2) = (r.map (tr G.2.2)).toList by cases r <;> rfl] at h
  exact h
theorem tq_callS (hd : decode M.2.1 pc = .ok (.invokestatic idx, 3)) (hli : ML M.1.cls idx M2) (hMS : MS n M2) (hM : PMet d M2 As σ Post) (hn : As.length = n) (hst : st = As.reverse ++ ([] ++ rest)) (hW : (rest.map (fun v => v.category)).sum ≤ 8) (hfr : d + 1 ≤ E.1.frames) (hlo : 8 + (M2.2.2.1 + 11) + 40 * d ≤ E.1.locals) (hcs : E.2.1.1 ≤ E.1.cells ∧ E.2.1.2 ≤ E.1.slots)
    (kk : ∀ (r : Option Value) (σ' : Mem), Post r σ' → PAt E M (pc + 3) ls (r.toList ++ rest) σ') : PAt E M pc ls st σ := by
  intro p l e s m args below meth c G A H locs lsr C hX hA hP hD hS hl
  obtain ⟨⟨m1, m2, m3, m4, m5⟩, m6⟩ := hMS
  have hG : GoodIn tblG (va_wsS M.1.cls idx M2.1 (wsM M2)) := goodT (fun w hw => by
    unfold va_wsS wsM at hw
    simp only [List.cons_append, List.nil_append, List.mem_cons] at hw
    rcases hw with rfl | rfl | rfl | rfl | hw
    · exact hli
    · exact m6
    · exact m2
    · exact m1
    · exact hw)
  have hD1 : va_D (fun _ : Nat => True) (wd G σ) := ⟨hD.1, fun _ _ _ => trivial⟩
  refine tq_run (σ := σ) (rest := rest.map (tr G.2.2)) (Post := Post) (a := (As.map (tr G.2.2)).toArray) (va_runS (As := As.map (tr G.2.2)) (rest := rest.map (tr G.2.2)) (mc := 0) (ms := 0) ⟨C.1, C.2.1, C.2.2.1, C.2.2.2.1, C.2.2.2.2.1⟩ (hM l G H.size) (va_cwS n C.2.2.2.2.1 hG rfl rfl rfl ⟨m3.1, m3.2, m5⟩ ⟨hfr, hlo⟩) ⟨Pst_blind G σ H.size _, fun U hU hW2 => ⟨rfl, by rw [hU], by rw [hU]; exact hP, va_K.moved hW2.alike C.2.2.2.2.2.2.2, hD1⟩⟩ rfl (by rw [List.length_map]; exact hn) hl.1 (st_T [] hst) (lv_room (ls := lsr) (pc := pc) (m := m) (rest := []) (roomT hW)) hd ⟨hcs.1, hcs.2⟩) hA hD hS (fun r σ' H1 locs1 hp hP1 hD1 hS1 => ?_)
  have h := kk r σ' hp p l e s m args below meth c G A H1 locs1 lsr C hX hA hP1 hD1 hS1 hl
  rw [List.map_append, show r.toList.map (tr G.2.2) = (r.map (tr G.2.2)).toList by cases r <;> rfl] at h
  exact h
theorem tq_callVi {P : Int32 → Mem → Prop} {ci N : Nat} {T : u_T} {fs : List (Option Nat)} (hd : decode M.2.1 pc = .ok (.invokevirtual idx, 3)) (hli : ML M.1.cls idx M2) (hMI : MI n M2) (hM : PMet d M2 (.ref i :: As) σ (Pi P)) (hs : SH i = some (.inr (.inr (ci, fs)))) (hc : vwCl[ci]? = some (M2.1.cls, T, N)) (hn : As.length = n) (hst : st = As.reverse ++ ([.ref i] ++ rest)) (hW : (rest.map (fun v => v.category)).sum ≤ 8) (hfr : d + 1 ≤ E.1.frames) (hlo : 8 + (M2.2.2.1 + 11) + 40 * d ≤ E.1.locals) (hcs : E.2.1.1 ≤ E.1.cells ∧ E.2.1.2 ≤ E.1.slots)
    (kk : ∀ (v : Int32) (σ' : Mem), P v σ' → PAt E M (pc + 3) ls (.int v :: rest) σ') : PAt E M pc ls st σ :=
  tq_callV hd hli hMI hM hs hc hn hst hW hfr hlo hcs (fun r σ' h => by obtain ⟨v, rfl, h⟩ := h; exact kk v σ' h)
theorem tq_callSi {P : Int32 → Mem → Prop} (hd : decode M.2.1 pc = .ok (.invokestatic idx, 3)) (hli : ML M.1.cls idx M2) (hMS : MS n M2) (hM : PMet d M2 As σ (Pi P)) (hn : As.length = n) (hst : st = As.reverse ++ ([] ++ rest)) (hW : (rest.map (fun v => v.category)).sum ≤ 8) (hfr : d + 1 ≤ E.1.frames) (hlo : 8 + (M2.2.2.1 + 11) + 40 * d ≤ E.1.locals) (hcs : E.2.1.1 ≤ E.1.cells ∧ E.2.1.2 ≤ E.1.slots)
    (kk : ∀ (v : Int32) (σ' : Mem), P v σ' → PAt E M (pc + 3) ls (.int v :: rest) σ') : PAt E M pc ls st σ :=
  tq_callS hd hli hMS hM hn hst hW hfr hlo hcs (fun r σ' h => by obtain ⟨v, rfl, h⟩ := h; exact kk v σ' h)
theorem tq_callVl {P : Int64 → Mem → Prop} {ci N : Nat} {T : u_T} {fs : List (Option Nat)} (hd : decode M.2.1 pc = .ok (.invokevirtual idx, 3)) (hli : ML M.1.cls idx M2) (hMI : MI n M2) (hM : PMet d M2 (.ref i :: As) σ (Pl P)) (hs : SH i = some (.inr (.inr (ci, fs)))) (hc : vwCl[ci]? = some (M2.1.cls, T, N)) (hn : As.length = n) (hst : st = As.reverse ++ ([.ref i] ++ rest)) (hW : (rest.map (fun v => v.category)).sum ≤ 8) (hfr : d + 1 ≤ E.1.frames) (hlo : 8 + (M2.2.2.1 + 11) + 40 * d ≤ E.1.locals) (hcs : E.2.1.1 ≤ E.1.cells ∧ E.2.1.2 ≤ E.1.slots)
    (kk : ∀ (v : Int64) (σ' : Mem), P v σ' → PAt E M (pc + 3) ls (.long v :: rest) σ') : PAt E M pc ls st σ :=
  tq_callV hd hli hMI hM hs hc hn hst hW hfr hlo hcs (fun r σ' h => by obtain ⟨v, rfl, h⟩ := h; exact kk v σ' h)
theorem tq_callSl {P : Int64 → Mem → Prop} (hd : decode M.2.1 pc = .ok (.invokestatic idx, 3)) (hli : ML M.1.cls idx M2) (hMS : MS n M2) (hM : PMet d M2 As σ (Pl P)) (hn : As.length = n) (hst : st = As.reverse ++ ([] ++ rest)) (hW : (rest.map (fun v => v.category)).sum ≤ 8) (hfr : d + 1 ≤ E.1.frames) (hlo : 8 + (M2.2.2.1 + 11) + 40 * d ≤ E.1.locals) (hcs : E.2.1.1 ≤ E.1.cells ∧ E.2.1.2 ≤ E.1.slots)
    (kk : ∀ (v : Int64) (σ' : Mem), P v σ' → PAt E M (pc + 3) ls (.long v :: rest) σ') : PAt E M pc ls st σ :=
  tq_callS hd hli hMS hM hn hst hW hfr hlo hcs (fun r σ' h => by obtain ⟨v, rfl, h⟩ := h; exact kk v σ' h)
theorem tq_callVa {P : Nat → Mem → Prop} {ci N : Nat} {T : u_T} {fs : List (Option Nat)} (hd : decode M.2.1 pc = .ok (.invokevirtual idx, 3)) (hli : ML M.1.cls idx M2) (hMI : MI n M2) (hM : PMet d M2 (.ref i :: As) σ (Pa P)) (hs : SH i = some (.inr (.inr (ci, fs)))) (hc : vwCl[ci]? = some (M2.1.cls, T, N)) (hn : As.length = n) (hst : st = As.reverse ++ ([.ref i] ++ rest)) (hW : (rest.map (fun v => v.category)).sum ≤ 8) (hfr : d + 1 ≤ E.1.frames) (hlo : 8 + (M2.2.2.1 + 11) + 40 * d ≤ E.1.locals) (hcs : E.2.1.1 ≤ E.1.cells ∧ E.2.1.2 ≤ E.1.slots)
    (kk : ∀ (v : Nat) (σ' : Mem), P v σ' → PAt E M (pc + 3) ls (.ref v :: rest) σ') : PAt E M pc ls st σ :=
  tq_callV hd hli hMI hM hs hc hn hst hW hfr hlo hcs (fun r σ' h => by obtain ⟨v, rfl, h⟩ := h; exact kk v σ' h)
theorem tq_callSa {P : Nat → Mem → Prop} (hd : decode M.2.1 pc = .ok (.invokestatic idx, 3)) (hli : ML M.1.cls idx M2) (hMS : MS n M2) (hM : PMet d M2 As σ (Pa P)) (hn : As.length = n) (hst : st = As.reverse ++ ([] ++ rest)) (hW : (rest.map (fun v => v.category)).sum ≤ 8) (hfr : d + 1 ≤ E.1.frames) (hlo : 8 + (M2.2.2.1 + 11) + 40 * d ≤ E.1.locals) (hcs : E.2.1.1 ≤ E.1.cells ∧ E.2.1.2 ≤ E.1.slots)
    (kk : ∀ (v : Nat) (σ' : Mem), P v σ' → PAt E M (pc + 3) ls (.ref v :: rest) σ') : PAt E M pc ls st σ :=
  tq_callS hd hli hMS hM hn hst hW hfr hlo hcs (fun r σ' h => by obtain ⟨v, rfl, h⟩ := h; exact kk v σ' h)
theorem tq_callVv {P : Mem → Prop} {ci N : Nat} {T : u_T} {fs : List (Option Nat)} (hd : decode M.2.1 pc = .ok (.invokevirtual idx, 3)) (hli : ML M.1.cls idx M2) (hMI : MI n M2) (hM : PMet d M2 (.ref i :: As) σ (Pv P)) (hs : SH i = some (.inr (.inr (ci, fs)))) (hc : vwCl[ci]? = some (M2.1.cls, T, N)) (hn : As.length = n) (hst : st = As.reverse ++ ([.ref i] ++ rest)) (hW : (rest.map (fun v => v.category)).sum ≤ 8) (hfr : d + 1 ≤ E.1.frames) (hlo : 8 + (M2.2.2.1 + 11) + 40 * d ≤ E.1.locals) (hcs : E.2.1.1 ≤ E.1.cells ∧ E.2.1.2 ≤ E.1.slots)
    (kk : ∀ (σ' : Mem), P σ' → PAt E M (pc + 3) ls rest σ') : PAt E M pc ls st σ :=
  tq_callV hd hli hMI hM hs hc hn hst hW hfr hlo hcs (fun r σ' h => by obtain ⟨rfl, h⟩ := h; exact kk σ' h)
theorem tq_callSv {P : Mem → Prop} (hd : decode M.2.1 pc = .ok (.invokestatic idx, 3)) (hli : ML M.1.cls idx M2) (hMS : MS n M2) (hM : PMet d M2 As σ (Pv P)) (hn : As.length = n) (hst : st = As.reverse ++ ([] ++ rest)) (hW : (rest.map (fun v => v.category)).sum ≤ 8) (hfr : d + 1 ≤ E.1.frames) (hlo : 8 + (M2.2.2.1 + 11) + 40 * d ≤ E.1.locals) (hcs : E.2.1.1 ≤ E.1.cells ∧ E.2.1.2 ≤ E.1.slots)
    (kk : ∀ (σ' : Mem), P σ' → PAt E M (pc + 3) ls rest σ') : PAt E M pc ls st σ :=
  tq_callS hd hli hMS hM hn hst hW hfr hlo hcs (fun r σ' h => by obtain ⟨rfl, h⟩ := h; exact kk σ' h)
end TC
theorem PMet.weaken {d : Nat} {M : MT} {as : List Value} {σ : Mem} {P Q : Option Value → Mem → Prop} (h : PMet d M as σ P) (hPQ : ∀ r σ', P r σ' → Q r σ') : PMet d M as σ Q := fun l G sz =>
  MetFree.mono (h l G sz) (fun _ _ hp => hp) (fun _ _ _ _ _ hk => hk) (fun a st o t _ hq => ⟨by
    obtain ⟨⟨⟨r, σ', h1, h2, h3⟩, h4⟩, h5⟩ := hq
    exact ⟨⟨r, σ', h1, hPQ r σ' h2, h3⟩, h4⟩, hq.2⟩)
/-! ===== the constructors (2): rows of rows, calls ===== -/
theorem arrV_congr {c : ClassId} {N : Nat} {f g : Nat → Value} (h : ∀ j, j < N → f j = g j) : arrV c N f = arrV c N g := by
  unfold arrV
  congr 1
  congr 1
  funext j
  exact h j.val j.isLt
theorem mna_out (c : ClassId) (h : Nat) : Jvm.Free.Multi.outerC c 4 h 4 = vp_cell c (4, .inr (.inr (.inr (.inr (fun i => [h + 1 + 0, h + 1 + 1, h + 1 + 2, h + 1 + 3][i]?))))) := by
  rw [vp_cell_q]
  show ((((({ cls := c, slots := Array.replicate 4 .null, vm := .none } : Cell).setSlot 0 (.ref (h + 1 + 0))).setSlot 1 (.ref (h + 1 + 1))).setSlot 2 (.ref (h + 1 + 2))).setSlot 3 (.ref (h + 1 + 3))) = _
  rw [arrV_new, arrV_store, arrV_store, arrV_store, arrV_store]
  refine arrV_congr (fun j hj => ?_)
  rcases (show j = 0 ∨ j = 1 ∨ j = 2 ∨ j = 3 by omega) with rfl | rfl | rfl | rfl <;> rfl
theorem mna_in (c : ClassId) : Jvm.Free.Multi.innerC c 6 (defaultValue .int) = vp_cell c (6, .inl (fun _ => 0)) := by
  rw [vp_cell_i]
  exact arrV_new c 6 (.int 0)
theorem va_D.seq {A : Nat → Prop} {L : va_W} {h : Nat} (hL : ∀ (k : Nat) (q : Nat × va_E), L[k]? = some q → q.1 = h + k) (hA : ∀ q, h ≤ q → A q) : va_D A L :=
  ⟨fun i j p q hi hj e => by have a := hL i p hi; have b := hL j q hj; omega, fun k q hk => hA _ (by rw [hL k q hk]; omega)⟩
section NC2
variable {E : ET} {M M2 : MT} {G : GX} {pc idx o : Nat} {ls : List (Nat × Value)} {st : List Value} {ws wr : va_W} {cs : Nat × Nat}
set_option maxHeartbeats 4000000 in
theorem nq_mna (hd : decode M.2.1 pc = .ok (.multianewarray idx 2, 4)) (hcl : Cond.classLink M.1.cls idx "[[I" ∈ tblG) (harr : Cond.arrayClass .int ∈ tblG) (hc : cs.1 + 5 ≤ E.1.cells) (hs : cs.2 + 28 ≤ E.1.slots)
    (k : ∀ q r0 r1 r2 r3 : Nat, NAt E M G (pc + 4) ls (.ref q :: st) (ws ++ [(q, .inl (G.2.1 (.array .int), 4, .inr (.inr (.inr (.inr (fun i => [r0, r1, r2, r3][i]?)))))), (r0, .inl (G.2.1 .int, 6, .inl (fun _ => 0))), (r1, .inl (G.2.1 .int, 6, .inl (fun _ => 0))), (r2, .inl (G.2.1 .int, 6, .inl (fun _ => 0))), (r3, .inl (G.2.1 .int, 6, .inl (fun _ => 0)))]) (cs.1 + 5, cs.2 + 28)) : NAt E M G pc ls (.int 6 :: .int 4 :: st) ws cs := by
  intro p l e s m args below meth c A H locs lsr C hZ hin hX hA hP hD hS hl T hT Xs
  have hKK := C.2.2.2.2.2.2.2
  have e4 : (4 : Int32).toNatClampNeg = 4 := by decide
  have e6 : (6 : Int32).toNatClampNeg = 6 := by decide
  have es : "[" ++ (FieldType.array .int).toString = "[[I" := by decide +kernel
  obtain ⟨vm₁, cA, comp, -, fA, fC, -, -, X', step⟩ := Xs.multianewarray2F C.1 (own := M.1.cls) (index := idx) (ty := .int) C.2.2.2.1 (by rw [es]; exact C.2.2.2.2.1 _ hcl) (show (Cond.arrayOver (.array .int)).before args s = true from hZ.2.2) (C.2.2.2.2.1 _ harr) (g := F0 m pc lsr (.int 6 :: .int 4 :: st)) rfl (by rw [C.2.1]; exact hd) (n := 4) (k := 6) (rest := st) rfl (by decide) (by decide) (by rw [e4]; decide) (by rw [e6]; decide) (by rw [e6]; decide) rfl rfl (by rw [e4]; exact hc) (by rw [e4, e6]; exact hs)
  rw [e4, e6] at X' step
  have hci : comp = G.2.1 .int := Option.some.inj (fC.symm.trans (hKK.2 0 _ rfl).2)
  have hca : cA = G.2.1 (.array .int) := Option.some.inj (fA.symm.trans (hKK.2 2 _ rfl).2)
  subst hci
  subst hca
  generalize hF : Jvm.Free.Multi.fill (T.setVm vm₁) (G.2.1 (.array .int)) (G.2.1 .int) 4 6 (defaultValue .int) 4 = F at X' step
  have hTh : (T.setVm vm₁).heap = H := hT
  obtain ⟨f1, f2, -, -⟩ := Jvm.Free.Multi.fill_facts (T.setVm vm₁) (G.2.1 (.array .int)) (G.2.1 .int) 4 6 (defaultValue .int) 4
  rw [hF, hTh] at f1 f2
  have hold : ∀ x : Nat, x < H.size → F.heap[x]? = H[x]? := fun x hx => by
    have := Jvm.Free.Multi.fill_old (T.setVm vm₁) (G.2.1 (.array .int)) (G.2.1 .int) 4 6 (defaultValue .int) (a := x) (by rw [hTh]; exact hx) 4
    rw [hF, hTh] at this
    exact this
  have hrow : ∀ j : Nat, j < 4 → F.heap[H.size + 1 + j]? = some (vp_cell (G.2.1 .int) (6, .inl (fun _ => 0))) := fun j hj => by
    have := Jvm.Free.Multi.fill_inner (T.setVm vm₁) (G.2.1 (.array .int)) (G.2.1 .int) 4 6 (defaultValue .int) 4 j hj
    rw [hF, hTh, mna_in] at this
    exact this
  rw [mna_out] at f2
  have hP0 : va_P G.1 vwCl ws F.heap := hP.kept (fun k9 x hx => hold x.1 ((hP k9 x hx).lt))
  have hP1 := hP0.app (w2 := [(H.size, .inl (G.2.1 (.array .int), 4, .inr (.inr (.inr (.inr (fun i => [H.size + 1 + 0, H.size + 1 + 1, H.size + 1 + 2, H.size + 1 + 3][i]?)))))), (H.size + 1 + 0, .inl (G.2.1 .int, 6, .inl (fun _ => 0))), (H.size + 1 + 1, .inl (G.2.1 .int, 6, .inl (fun _ => 0))), (H.size + 1 + 2, .inl (G.2.1 .int, 6, .inl (fun _ => 0))), (H.size + 1 + 3, .inl (G.2.1 .int, 6, .inl (fun _ => 0)))]) (fun k9 x hx => by
    match k9, hx with
    | 0, hx => cases hx; exact f2
    | 1, hx => cases hx; exact hrow 0 (by omega)
    | 2, hx => cases hx; exact hrow 1 (by omega)
    | 3, hx => cases hx; exact hrow 2 (by omega)
    | 4, hx => cases hx; exact hrow 3 (by omega)
    | k + 5, hx => simp at hx)
  have hD1 : va_D A (ws ++ [(H.size, .inl (G.2.1 (.array .int), 4, .inr (.inr (.inr (.inr (fun i => [H.size + 1 + 0, H.size + 1 + 1, H.size + 1 + 2, H.size + 1 + 3][i]?)))))), (H.size + 1 + 0, .inl (G.2.1 .int, 6, .inl (fun _ => 0))), (H.size + 1 + 1, .inl (G.2.1 .int, 6, .inl (fun _ => 0))), (H.size + 1 + 2, .inl (G.2.1 .int, 6, .inl (fun _ => 0))), (H.size + 1 + 3, .inl (G.2.1 .int, 6, .inl (fun _ => 0)))]) := by
    have hq : ∀ (k9 : Nat) (x : Nat × va_E), ([(H.size, .inl (G.2.1 (.array .int), 4, .inr (.inr (.inr (.inr (fun i => [H.size + 1 + 0, H.size + 1 + 1, H.size + 1 + 2, H.size + 1 + 3][i]?)))))), (H.size + 1 + 0, .inl (G.2.1 .int, 6, .inl (fun _ => 0))), (H.size + 1 + 1, .inl (G.2.1 .int, 6, .inl (fun _ => 0))), (H.size + 1 + 2, .inl (G.2.1 .int, 6, .inl (fun _ => 0))), (H.size + 1 + 3, .inl (G.2.1 .int, 6, .inl (fun _ => 0)))] : va_W)[k9]? = some x → x.1 = H.size + k9 := fun k9 x hx => by
      match k9, hx with
      | 0, hx => cases hx; rfl
      | 1, hx => cases hx; rfl
      | 2, hx => cases hx; rfl
      | 3, hx => cases hx; rfl
      | 4, hx => cases hx; rfl
      | k + 5, hx => simp at hx
    refine va_D.app hD (va_D.seq hq (fun q h => hA q (Nat.le_trans hS.1 h))) (fun i j x y hx hy hxy => ?_)
    have a := (hP i x hx).lt
    have b := hq j y hy
    omega
  have hS1 : va_S A s.heap F.heap locs := ⟨by have := hS.1; omega, fun x h1 h2 => (hold x (Nat.lt_of_lt_of_le h1 hS.1)).trans (hS.2.1 x h1 h2), hS.2.2⟩
  obtain ⟨t, a1, b1⟩ := k H.size (H.size + 1 + 0) (H.size + 1 + 1) (H.size + 1 + 2) (H.size + 1 + 3) p l e s m args below meth c A F.heap locs lsr C hZ hin hX hA hP1 hD1 hS1 hl F rfl X'
  refine ⟨t, step t ?_, b1⟩
  have e : T.heap.size = H.size := by rw [hT]
  rw [e]
  exact a1
/-- behind a constructor's call: the caller's cells, and the new object's world -/
theorem nw_join {A : Nat → Prop} {G : GX} {x : va_E} {w : va_W} {H0 H H1 : Heap} {locs : List Loc} (hA : ∀ q : Nat, H0.size ≤ q → A q) (hS : va_S A H0 H locs) (hP : va_P G.1 vwCl (wr ++ [(o, x)]) H) (hD : va_D A (wr ++ [(o, x)])) :
    (∀ q, va_A [(o, x)] H.size q → A q) ∧ ((∀ q : Nat, q < H.size → ¬ va_A [(o, x)] H.size q → H1[q]? = H[q]?) → va_P G.1 vwCl w H1 → va_D (va_A [(o, x)] H.size) w → va_P G.1 vwCl (wr ++ w) H1 ∧ va_D A (wr ++ w)) := by
  have hlast : (wr ++ [(o, x)])[wr.length]? = some (o, x) := by simp
  have hf : ∀ q, va_A [(o, x)] H.size q → A q := fun q h => by
    rcases h with ⟨k, e, h⟩ | h
    · have h0 : k < 1 := (List.getElem?_eq_some_iff.mp h).1
      rw [show k = 0 by omega] at h
      cases h
      exact hD.2 _ _ hlast
    · exact hA q (Nat.le_trans hS.1 h)
  refine ⟨hf, fun hk hP1 hD1 => ?_⟩
  have pre : ∀ (k : Nat) (q : Nat × va_E), wr[k]? = some q → (wr ++ [(o, x)])[k]? = some q ∧ k < wr.length := fun k q h => by
    have hl := (List.getElem?_eq_some_iff.mp h).1
    exact ⟨by rw [List.getElem?_append_left hl]; exact h, hl⟩
  have ap : ∀ (k : Nat) (q : Nat × va_E), wr[k]? = some q → q.1 < H.size ∧ ¬ va_A [(o, x)] H.size q.1 := fun k q h => by
    have hl := (hP k q (pre k q h).1).lt
    refine ⟨hl, fun z => ?_⟩
    rcases z with ⟨k2, e, z⟩ | z
    · have h0 : k2 < 1 := (List.getElem?_eq_some_iff.mp z).1
      rw [show k2 = 0 by omega] at z
      have z2 : (o, x) = (q.1, e) := Option.some.inj z
      have := hD.1 k wr.length q (o, x) (pre k q h).1 hlast (congrArg Prod.fst z2).symm
      have := (pre k q h).2
      omega
    · omega
  refine ⟨va_P.app (fun k q h => (hP k q (pre k q h).1).kept (hk q.1 (ap k q h).1 (ap k q h).2)) hP1, va_D.app ⟨fun i j a b hi hj e => hD.1 i j a b (pre i a hi).1 (pre j b hj).1 e, fun k q h => hD.2 k q (pre k q h).1⟩ (hD1.weaken (fun k q _ h => hf q.1 h)) (fun i j a b hi hj e => ?_)⟩
  exact (ap i a hi).2 (by rw [e]; exact hD1.2 j b hj)
theorem nq_good (h : MB 0 M2) : GoodIn tblG (wsM M2) := goodT (fun w hw => by
  unfold wsM at hw
  rcases List.mem_cons.mp hw with rfl | hw
  · exact h.1
  · exact hw)
theorem nq_callN {rm : Room} {x : va_E} {Post : Nat → va_W → Prop} {y : MethodName} {cb : ByteArray} {nl : Nat} (hd : decode M.2.1 pc = .ok (.invokespecial idx, 3)) (hq : (M.1.cls, idx, y) ∈ NZq) (hM : NMet (y, cb, nl, none) rm G x Post) (hB : MB 0 (y, cb, nl, none)) (hi : y.name = "<init>") (hin : Cond.instanceMethod y ∈ tblG) (hw : ws = wr ++ [(o, x)]) (hcat : (st.map (fun v => v.category)).sum ≤ 8) (hfr : rm.frames + 1 ≤ E.1.frames) (hlo : 8 + (nl + 11) + rm.locals ≤ E.1.locals) (hc : cs.1 + rm.cells ≤ E.1.cells) (hs : cs.2 + rm.slots ≤ E.1.slots)
    (k : ∀ w, Post o w → NAt E M G (pc + 3) ls st (wr ++ w) (cs.1 + rm.cells, cs.2 + rm.slots)) : NAt E M G pc ls (.ref o :: st) ws cs := by
  subst hw
  intro p l e s m args below meth c A H locs lsr C hZ hin2 hX hA hP hD hS hl
  have hlast : (wr ++ [(o, x)])[wr.length]? = some (o, x) := by simp
  have hPx : va_P G.1 vwCl [(o, x)] H := fun k q hk => by
    have h0 : k < 1 := (List.getElem?_eq_some_iff.mp hk).1
    rw [show k = 0 by omega] at hk
    cases hk
    exact hP _ _ hlast
  have hDx : va_D (fun _ : Nat => True) [(o, x)] := ⟨fun i j a b hi hj _ => by
    have h0 : i < 1 := (List.getElem?_eq_some_iff.mp hi).1
    have h1 : j < 1 := (List.getElem?_eq_some_iff.mp hj).1
    omega, fun _ _ _ => trivial⟩
  have hf := (nw_join (w := []) (H1 := H) hA hS hP hD).1
  refine va_callv (va_runIN (As := []) (rest := st) ⟨C.1, C.2.1, C.2.2.1, C.2.2.2.1, C.2.2.2.2.1⟩ (hM l o H.size) ⟨va_cnB 0 C.2.2.2.2.1 (nq_good hB) rfl rfl rfl (hZ.1 _ hq) (C.2.2.2.2.1 _ hB.2.1) ⟨hB.2.2.1.1, hB.2.2.1.2, hB.2.2.2.2⟩ ⟨hfr, hlo⟩, hi, C.2.2.2.2.1 _ hin⟩ ⟨NPst_blind G _ _ _, fun U hU hW => ⟨rfl, by rw [hU], by rw [hU]; exact hPx, ⟨va_K.moved hW.alike C.2.2.2.2.2.2.2, hZ.warm hW⟩, hDx⟩⟩ rfl rfl hl.1 rfl (lv_room (ls := lsr) (pc := pc) (m := m) (rest := []) hcat) hd ⟨hc, hs⟩) hS (fun q _ h => hf q h) hf (fun w t H1 locs1 ht hvm hp hB1 hz hk hS1 => ?_)
  obtain ⟨hP1, _, hD1⟩ := hB1
  rw [ht] at hP1
  obtain ⟨hP2, hD2⟩ := (nw_join hA hS hP hD).2 hk hP1 hD1
  exact k w hp p l e s m args below meth c A H1 locs1 lsr C hZ hin2 hX hA hP2 hD2 hS1 hl
theorem nq_callI {rm : Room} {x : va_E} {Post : Nat → va_W → Prop} {y : MethodName} {cb : ByteArray} {nl : Nat} (hd : decode M.2.1 pc = .ok (.invokespecial idx, 3)) (hq : Cond.methodLink M.1.cls idx y ∈ tblG) (hM : NMet (y, cb, nl, none) rm G x Post) (hB : MB 0 (y, cb, nl, none)) (hi : y.name = "<init>") (hin : Cond.instanceMethod y ∈ tblG) (hw : ws = wr ++ [(o, x)]) (hcat : (st.map (fun v => v.category)).sum ≤ 8) (hfr : rm.frames + 1 ≤ E.1.frames) (hlo : 8 + (nl + 11) + rm.locals ≤ E.1.locals) (hc : cs.1 + rm.cells ≤ E.1.cells) (hs : cs.2 + rm.slots ≤ E.1.slots)
    (k : ∀ w, Post o w → NAt E M G (pc + 3) ls st (wr ++ w) (cs.1 + rm.cells, cs.2 + rm.slots)) : NAt E M G pc ls (.ref o :: st) ws cs := by
  subst hw
  intro p l e s m args below meth c A H locs lsr C hZ hin2 hX hA hP hD hS hl
  have hlast : (wr ++ [(o, x)])[wr.length]? = some (o, x) := by simp
  have hPx : va_P G.1 vwCl [(o, x)] H := fun k q hk => by
    have h0 : k < 1 := (List.getElem?_eq_some_iff.mp hk).1
    rw [show k = 0 by omega] at hk
    cases hk
    exact hP _ _ hlast
  have hDx : va_D (fun _ : Nat => True) [(o, x)] := ⟨fun i j a b hi hj _ => by
    have h0 : i < 1 := (List.getElem?_eq_some_iff.mp hi).1
    have h1 : j < 1 := (List.getElem?_eq_some_iff.mp hj).1
    omega, fun _ _ _ => trivial⟩
  have hf := (nw_join (w := []) (H1 := H) hA hS hP hD).1
  refine va_callv (va_runI (As := []) (rest := st) ⟨C.1, C.2.1, C.2.2.1, C.2.2.2.1, C.2.2.2.2.1⟩ (hM l o H.size) (cwI 0 C.2.2.2.2.1 (nq_good hB) rfl rfl rfl (C.2.2.2.2.1 _ hB.2.1) (C.2.2.2.2.1 _ hq) (C.2.2.2.2.1 _ hin) hi ⟨hB.2.2.1.1, hB.2.2.1.2, hB.2.2.2.2⟩ ⟨hfr, hlo⟩) ⟨NPst_blind G _ _ _, fun U hU hW => ⟨rfl, by rw [hU], by rw [hU]; exact hPx, ⟨va_K.moved hW.alike C.2.2.2.2.2.2.2, hZ.warm hW⟩, hDx⟩⟩ rfl rfl hl.1 rfl (lv_room (ls := lsr) (pc := pc) (m := m) (rest := []) hcat) hd ⟨hc, hs⟩) hS (fun q _ h => hf q h) hf (fun w t H1 locs1 ht hvm hp hB1 hz hk hS1 => ?_)
  obtain ⟨hP1, _, hD1⟩ := hB1
  rw [ht] at hP1
  obtain ⟨hP2, hD2⟩ := (nw_join hA hS hP hD).2 hk hP1 hD1
  exact k w hp p l e s m args below meth c A H1 locs1 lsr C hZ hin2 hX hA hP2 hD2 hS1 hl
end NC2

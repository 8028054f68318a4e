/-! ===== the law: its start ===== -/
theorem arr_of {s : State} {args : Array Value} {ty : FieldType} (h : (Cond.arrayClass ty).before args s = true) : ∃ cA, ArrOfT s cA ty ∧ s.vm.findClass ("[" ++ ty.toString) = some cA := by
  unfold Cond.before at h
  simp only [Cond.holds, Cond.value, beq_iff_eq] at h
  cases hc : s.vm.findClass ("[" ++ ty.toString) with
  | none => simp [hc] at h
  | some c =>
    simp only [hc, Option.bind_some, Option.map_eq_some_iff] at h
    obtain ⟨k, hk, hb⟩ := h
    cases hkind : k.kind with
    | array comp t =>
      rw [hkind] at hb
      simp only [decide_eq_true_eq] at hb
      subst hb
      exact ⟨c, fun n z => ⟨fun k h => (by cases h), k, hk, comp, hkind⟩, rfl⟩
    | _ => rw [hkind] at hb; simp at hb
theorem aoO_spec {C : String} {U : State} (h : va_AO C U) : ∃ comp c k, U.vm.findClass C = some comp ∧ U.vm.classes[c]? = some k ∧ k.kind = .array comp (.object C) ∧ U.vm.findClass ("[" ++ (FieldType.object C).toString) = some c := by
  unfold va_AO Cond.before at h
  simp only [Cond.holds, Cond.value, beq_iff_eq] at h
  cases hc : U.vm.findClass C with
  | none => simp [hc] at h
  | some comp =>
    simp only [hc, Option.bind_some, Option.bind_eq_some_iff, Option.map_eq_some_iff] at h
    obtain ⟨c, hi, k, hk, hb⟩ := h
    obtain ⟨hlt, hp, -⟩ := Array.findIdx?_eq_some_iff_getElem.mp hi
    have hk2 : U.vm.classes[c] = k := by
      have h9 := hk
      rw [Array.getElem?_eq_getElem hlt] at h9
      exact Option.some.inj h9
    rw [hk2] at hp
    cases hkind : k.kind with
    | array component ty =>
      rw [hkind] at hp hb
      simp only [beq_iff_eq] at hp
      simp only [Bool.and_eq_true, decide_eq_true_eq] at hb
      exact ⟨comp, c, k, rfl, hk, by rw [hkind, hp, hb.1], hb.2⟩
    | _ => rw [hkind] at hp; simp at hp
theorem lwt_1 {w : Cond} (i : Nat) (h : tables_1_1[i]? = some w) : w ∈ lw_tbl := List.mem_append_right _ (List.mem_append_left _ (List.mem_of_getElem? h))
theorem lw_NZ {s : State} {args : Array Value} (hts : ∀ w ∈ lw_tbl, w.before args s = true) : NZ s := by
  refine ⟨List.forall_mem_cons.mpr ⟨va_Nw.of rfl (hts _ (lwt_1 24 rfl)), List.forall_mem_cons.mpr ⟨va_Nw.of rfl (hts _ (lwt_1 66 rfl)), List.forall_mem_cons.mpr ⟨va_Nw.of rfl (hts _ (lwt_1 72 rfl)), List.forall_mem_cons.mpr ⟨va_Nw.of rfl (hts _ (lwt_1 112 rfl)), List.forall_mem_cons.mpr ⟨va_Nw.of rfl (hts _ (lwt_1 136 rfl)), List.forall_mem_cons.mpr ⟨va_Nw.of rfl (hts _ (lwt_1 141 rfl)), List.forall_mem_cons.mpr ⟨va_Nw.of rfl (hts _ (lwt_1 156 rfl)), fun _ h => absurd h List.not_mem_nil⟩⟩⟩⟩⟩⟩⟩, va_AO.of (hts _ (lwt_1 154 rfl)), ?_⟩
  exact hts (Cond.arrayOver (.array .int)) (lwt_1 29 rfl)
theorem lw_known {s : State} {args : Array Value} (hts : ∀ w ∈ lw_tbl, w.before args s = true) : ∃ (g1 : va_G) (g2 : FieldType → ClassId), ∀ ad : Nat → Nat, KK (g1, g2, ad) s := by
  have hG := tblG_hts hts
  obtain ⟨c0, i0, h0⟩ := u_known (C := RX0) (T := TX0) (N := 3) hG fc0.2.1 (hG _ (tblG_1 71 rfl rfl))
  obtain ⟨c1, i1, h1⟩ := u_known (C := RX1) (T := TX1) (N := 3) hG fc1.2.1 (hG _ (tblG_1 135 rfl rfl))
  obtain ⟨c2, i2, h2⟩ := u_known (C := RX2) (T := TX2) (N := 5) hG fc2.2.1 (hG _ (tblG_1 65 rfl rfl))
  obtain ⟨c3, i3, h3⟩ := u_known (C := RX3) (T := TX3) (N := 5) hG fc3.2.1 (hG _ (tblG_1 111 rfl rfl))
  obtain ⟨c4, i4, h4⟩ := u_known (C := RX4) (T := TX4) (N := 4) hG fc4.2.1 (hG _ (tblG_1 155 rfl rfl))
  obtain ⟨c5, i5, h5⟩ := u_known (C := RX6) (T := TX6) (N := 6) hG fc6.2.1 (hG _ (tblG_1 23 rfl rfl))
  obtain ⟨c6, i6, h6⟩ := u_known (C := RX7) (T := TX7) (N := 8) hG fc7.2.1 (hG _ (tblG_1 15 rfl rfl))
  obtain ⟨c7, i7, h7⟩ := u_known (C := RX8) (T := TX8) (N := 30) hG fc8.2.1 (hG _ (tblG_3 115 rfl rfl))
  obtain ⟨a1, f1, e1⟩ := arr_of (hts _ (lwt_1 63 rfl))
  obtain ⟨a2, f2, e2⟩ := arr_of (hts _ (lwt_1 133 rfl))
  obtain ⟨comp3, a3, k3, p3, -, q3, r3, e3⟩ := aoA_spec (U := s) (hts (Cond.arrayOver (.array .int)) (lwt_1 29 rfl))
  obtain ⟨comp4, a4, k4, p4, q4, r4, e4⟩ := aoO_spec (U := s) (va_AO.of (hts _ (lwt_1 154 rfl)))
  refine ⟨(fun k => match k with | 0 => c0 | 1 => c1 | 2 => c2 | 3 => c3 | 4 => c4 | 5 => c5 | 6 => c6 | _ => c7, fun k => match k with | 0 => i0 | 1 => i1 | 2 => i2 | 3 => i3 | 4 => i4 | 5 => i5 | 6 => i6 | _ => i7), fun t => match t with | .int => a1 | .boolean => a2 | .array _ => a3 | _ => a4, fun ad => ⟨fun k q hq => ?_, fun k q hq => ?_⟩⟩
  · match k, hq with
    | 0, hq => cases hq; exact h0
    | 1, hq => cases hq; exact h1
    | 2, hq => cases hq; exact h2
    | 3, hq => cases hq; exact h3
    | 4, hq => cases hq; exact h4
    | 5, hq => cases hq; exact h5
    | 6, hq => cases hq; exact h6
    | 7, hq => cases hq; exact h7
    | k + 8, hq => simp [vwCl] at hq
  · match k, hq with
    | 0, hq => cases hq; exact ⟨f1, e1⟩
    | 1, hq => cases hq; exact ⟨f2, e2⟩
    | 2, hq => cases hq; exact ⟨fun n z => ⟨fun k h => (by cases h), k3, q3, comp3, r3⟩, e3⟩
    | 3, hq => cases hq; exact ⟨fun n z => ⟨fun k h => (by cases h), k4, q4, comp4, r4⟩, k4, comp4, q4, r4, p4, e4⟩
    | k + 4, hq => simp [tysOf] at hq
/-! the memory behind both constructors -/
def lwM0 : Mem := fun i => if i = 59 then upd (upd (upd (upd (fun _ => 0) 0 (-1)) 1 (-1)) 2 (-1)) 3 (-1) else fun _ => 0
theorem ra4 (ad : Nat → Nat) (i0 i1 i2 i3 : Nat) : (fun j : Nat => [ad i0, ad i1, ad i2, ad i3][j]?) = fun j => ([i0, i1, i2, i3][j]?).map ad := by
  funext j
  rw [← List.getElem?_map]
  rfl
theorem rau (ad : Nat → Nat) (i0 i1 i2 i3 : Nat) : va_up (va_up (va_up (va_up (fun _ => none) 0 (some (ad i0))) 1 (some (ad i1))) 2 (some (ad i2))) 3 (some (ad i3)) = fun j => ([i0, i1, i2, i3][j]?).map ad := by
  funext j
  unfold va_up
  match j with
  | 0 => rfl
  | 1 => rfl
  | 2 => rfl
  | 3 => rfl
  | j + 4 => simp
set_option maxHeartbeats 4000000 in
set_option maxRecDepth 20000 in
theorem lw_wd (g1 : va_G) (g2 : FieldType → ClassId) (ad : Nat → Nat) : ([((ad 0), .inr (6, [.ref (ad 1), .ref (ad 13), .ref (ad 21), .ref (ad 26), .ref (ad 32), .ref (ad 33), .int 0, .int 0])), ((ad 1), .inr (5, [.int 0, .int 0, .int 0, .ref (ad 2), .ref (ad 3), .ref (ad 8)])), ((ad 2), .inl (g2 .int, 4, .inl (fun _ => 0))), ((ad 3), .inl (g2 (.array .int), 4, .inr (.inr (.inr (.inr (fun i => [(ad 4), (ad 5), (ad 6), (ad 7)][i]?)))))), ((ad 4), .inl (g2 .int, 6, .inl (fun _ => 0))), ((ad 5), .inl (g2 .int, 6, .inl (fun _ => 0))), ((ad 6), .inl (g2 .int, 6, .inl (fun _ => 0))), ((ad 7), .inl (g2 .int, 6, .inl (fun _ => 0))), ((ad 8), .inl (g2 (.array .int), 4, .inr (.inr (.inr (.inr (fun i => [(ad 9), (ad 10), (ad 11), (ad 12)][i]?)))))), ((ad 9), .inl (g2 .int, 6, .inl (fun _ => 0))), ((ad 10), .inl (g2 .int, 6, .inl (fun _ => 0))), ((ad 11), .inl (g2 .int, 6, .inl (fun _ => 0))), ((ad 12), .inl (g2 .int, 6, .inl (fun _ => 0))), ((ad 13), .inr (2, [.ref (ad 14), .ref (ad 15), .ref (ad 16), .ref (ad 17), .int 0])), ((ad 14), .inl (g2 .int, 24, .inl (fun _ => 0))), ((ad 15), .inl (g2 .int, 24, .inl (fun _ => 0))), ((ad 16), .inl (g2 .int, 24, .inl (fun _ => 0))), ((ad 17), .inr (0, [.ref (ad 18), .ref (ad 19), .ref (ad 20)])), ((ad 18), .inl (g2 .int, 4, .inl (fun _ => 0))), ((ad 19), .inl (g2 .int, 4, .inl (fun _ => 0))), ((ad 20), .inl (g2 .int, 6, .inl (fun _ => 0))), ((ad 21), .inr (3, [.ref (ad 22), .ref (ad 23), .ref (ad 24), .ref (ad 25), .int 0])), ((ad 22), .inl (g2 .int, 8, .inl (fun _ => 0))), ((ad 23), .inl (g2 .int, 8, .inl (fun _ => 0))), ((ad 24), .inl (g2 .int, 8, .inl (fun _ => 0))), ((ad 25), .inl (g2 .boolean, 8, .inl (fun _ => 0))), ((ad 26), .inr (1, [.ref (ad 27), .ref (ad 31), .int 0])), ((ad 27), .inr (0, [.ref (ad 28), .ref (ad 29), .ref (ad 30)])), ((ad 28), .inl (g2 .int, 4, .inl (fun _ => 0))), ((ad 29), .inl (g2 .int, 4, .inl (fun _ => 0))), ((ad 30), .inl (g2 .int, 6, .inl (fun _ => 0))), ((ad 31), .inl (g2 .int, 6, .inl (fun _ => 0))), ((ad 32), .inl (g2 (.object "ThreeRefusals$Sheet"), 4, .inr (.inr (.inr (.inr (va_up (va_up (va_up (va_up (fun _ => none) 0 (some (ad 34))) 1 (some (ad 36))) 2 (some (ad 38))) 3 (some (ad 40)))))))), ((ad 33), .inl (g2 .int, 100, .inl (fun _ => 0))), ((ad 34), .inr (4, [.ref (ad 35), .int 0, .int 0, .int 0])), ((ad 35), .inl (g2 .int, 100, .inl (fun _ => 0))), ((ad 36), .inr (4, [.ref (ad 37), .int 0, .int 0, .int 0])), ((ad 37), .inl (g2 .int, 100, .inl (fun _ => 0))), ((ad 38), .inr (4, [.ref (ad 39), .int 0, .int 0, .int 0])), ((ad 39), .inl (g2 .int, 100, .inl (fun _ => 0))), ((ad 40), .inr (4, [.ref (ad 41), .int 0, .int 0, .int 0])), ((ad 41), .inl (g2 .int, 100, .inl (fun _ => 0))), ((ad 42), .inr (7, [.int 0, .int 0, .int 0, .ref (ad 43), .ref (ad 44), .ref (ad 45), .int 0, .int 0, .int 0, .int 0, .ref (ad 46), .ref (ad 47), .ref (ad 48), .int 0, .ref (ad 49), .ref (ad 50), .ref (ad 51), .ref (ad 52), .ref (ad 53), .ref (ad 54), .int 0, .ref (ad 55), .ref (ad 56), .ref (ad 57), .ref (ad 58), .ref (ad 59), .ref (ad 60), .ref (ad 61), .ref (ad 62), .int 0])), ((ad 43), .inl (g2 .int, 4, .inl (fun _ => 0))), ((ad 44), .inl (g2 .int, 24, .inl (fun _ => 0))), ((ad 45), .inl (g2 .int, 24, .inl (fun _ => 0))), ((ad 46), .inl (g2 .int, 4, .inl (fun _ => 0))), ((ad 47), .inl (g2 .int, 24, .inl (fun _ => 0))), ((ad 48), .inl (g2 .int, 24, .inl (fun _ => 0))), ((ad 49), .inl (g2 .int, 24, .inl (fun _ => 0))), ((ad 50), .inl (g2 .int, 24, .inl (fun _ => 0))), ((ad 51), .inl (g2 .int, 24, .inl (fun _ => 0))), ((ad 52), .inl (g2 .int, 4, .inl (fun _ => 0))), ((ad 53), .inl (g2 .int, 4, .inl (fun _ => 0))), ((ad 54), .inl (g2 .int, 6, .inl (fun _ => 0))), ((ad 55), .inl (g2 .int, 8, .inl (fun _ => 0))), ((ad 56), .inl (g2 .int, 8, .inl (fun _ => 0))), ((ad 57), .inl (g2 .int, 8, .inl (fun _ => 0))), ((ad 58), .inl (g2 .boolean, 8, .inl (fun _ => 0))), ((ad 59), .inl (g2 .int, 4, .inl (upd (upd (upd (upd (fun _ => 0) 0 (-1)) 1 (-1)) 2 (-1)) 3 (-1)))), ((ad 60), .inl (g2 .int, 4, .inl (fun _ => 0))), ((ad 61), .inl (g2 .int, 400, .inl (fun _ => 0))), ((ad 62), .inl (g2 .int, 100, .inl (fun _ => 0)))] : va_W) = wd (g1, g2, ad) lwM0 := by
  rw [ra4 ad 4 5 6 7, ra4 ad 9 10 11 12, rau ad 34 36 38 40]
  rfl
theorem lw_INV : INV lwM0 := by
  have z : ∀ a b, a ≠ 59 → lwM0 a b = 0 := fun a b h => by
    unfold lwM0
    rw [if_neg h]
  refine ⟨0, 0, 0, 0, fun _ => 0, fun _ => 0, fun _ => 0, fun _ => 0, ⟨⟨z _ _ (by decide), z _ _ (by decide)⟩, ⟨z _ _ (by decide), z _ _ (by decide)⟩, ⟨by decide, by decide, fun h => absurd h (by decide)⟩, by rw [z _ _ (by decide), z _ _ (by decide)], fun m hm => absurd hm (by omega), fun m hm => absurd hm (by omega), fun m hm => absurd hm (by omega)⟩, ⟨z _ _ (by decide), z _ _ (by decide), by decide, fun k hk => absurd hk (by omega)⟩, fun h => absurd h (by decide), ⟨z _ _ (by decide), z _ _ (by decide), by decide, fun k hk => absurd hk (by omega)⟩, fun k hk => ⟨⟨0, by decide, z _ _ (by omega)⟩, Or.inl ⟨z _ _ (by omega), ?_⟩⟩, by rw [z _ _ (by decide), z _ _ (by decide)], by rw [z _ _ (by decide), z _ _ (by decide)]⟩
  rcases (show k = 0 ∨ k = 1 ∨ k = 2 ∨ k = 3 by omega) with rfl | rfl | rfl | rfl <;> rfl
abbrev lwE0 (b L : Nat) (xs : Nat → Int32) : ET := (room_1, (0, 0), fun _ A s => va_X b L xs s s.heap ∧ b < s.heap.size ∧ ∀ q, A q → s.heap.size ≤ q, lwZ)
theorem nq_go {b L : Nat} {xs : Nat → Int32} {cs : Nat × Nat} {G : GX} {ws : va_W} {ls : List (Nat × Value)} {σ : Mem} (ad : Nat → Nat) (ks : List Nat) (had : ad 63 = b) (hws : ws = wd (G.1, G.2.1, ad) σ) (hls : lv_pick ls ks = lsT ad (lwLs 0)) (k : PAt (lwE b L xs cs) mLw 18 (lwLs 0) [] σ) : NAt (lwE0 b L xs) mLw G 18 ls [] ws cs := by
  intro p l e s m args below meth c A H locs lsr C hZ hin hX hA hP hD hS hl
  subst hws
  exact k p l e s m args below meth c (G.1, G.2.1, ad) A H locs lsr C ⟨had, hX⟩ hA hP hD hS (lv_sub hl ks hls)
set_option maxHeartbeats 4000000 in
set_option maxRecDepth 20000 in
theorem lw_news {b L : Nat} {xs : Nat → Int32} (hL : L ≤ 3584) (G : GX) : NAt (lwE0 b L xs) mLw G 0 [(0, .ref b)] [] [] (0, 0) := by
  refine nq_new tyX7 [.null, .null, .null, .null, .null, .null, .int 0, .int 0] (dget dL0 0 rfl) fc7 tyX7_ok (tblG_1 14 rfl rfl) (tblG_1 15 rfl rfl) kcX7.1 (by decide) (Nat.le_of_ble_eq_true rfl) (Nat.le_of_ble_eq_true rfl) (fun o => ?_)
  refine nq_ws (ws2 := [(o, .inr (6, [.null, .null, .null, .null, .null, .null, .int 0, .int 0]))]) rfl ?_
  refine nq_cs (cs2 := (1, 8)) rfl ?_
  refine nq_dup (dget dL0 1 rfl) rfl ?_
  refine nq_callI (wr := []) (dget dL0 2 rfl) (tblG_1 16 rfl rfl) (n_X7_init G) mbX7_init rfl (tblG_1 17 rfl rfl) rfl (Nat.le_of_ble_eq_true rfl) (Nat.le_of_ble_eq_true rfl) (Nat.le_of_ble_eq_true rfl) (Nat.le_of_ble_eq_true rfl) (Nat.le_of_ble_eq_true rfl) (fun w hw => ?_)
  obtain ⟨a1, a2, a3, a4, a5, a6, a7, a8, a9, a10, a11, a12, a13, a14, a15, a16, a17, a18, a19, a20, a21, a22, a23, a24, a25, a26, a27, a28, a29, a30, a31, a32, a33, a34, a35, a36, a37, a38, a39, a40, a41, rfl⟩ := hw
  refine nq_ws (ws2 := [(o, .inr (6, [.ref a1, .ref a13, .ref a21, .ref a26, .ref a32, .ref a33, .int 0, .int 0])), (a1, .inr (5, [.int 0, .int 0, .int 0, .ref a2, .ref a3, .ref a8])), (a2, .inl (G.2.1 .int, 4, .inl (fun _ => 0))), (a3, .inl (G.2.1 (.array .int), 4, .inr (.inr (.inr (.inr (fun i => [a4, a5, a6, a7][i]?)))))), (a4, .inl (G.2.1 .int, 6, .inl (fun _ => 0))), (a5, .inl (G.2.1 .int, 6, .inl (fun _ => 0))), (a6, .inl (G.2.1 .int, 6, .inl (fun _ => 0))), (a7, .inl (G.2.1 .int, 6, .inl (fun _ => 0))), (a8, .inl (G.2.1 (.array .int), 4, .inr (.inr (.inr (.inr (fun i => [a9, a10, a11, a12][i]?)))))), (a9, .inl (G.2.1 .int, 6, .inl (fun _ => 0))), (a10, .inl (G.2.1 .int, 6, .inl (fun _ => 0))), (a11, .inl (G.2.1 .int, 6, .inl (fun _ => 0))), (a12, .inl (G.2.1 .int, 6, .inl (fun _ => 0))), (a13, .inr (2, [.ref a14, .ref a15, .ref a16, .ref a17, .int 0])), (a14, .inl (G.2.1 .int, 24, .inl (fun _ => 0))), (a15, .inl (G.2.1 .int, 24, .inl (fun _ => 0))), (a16, .inl (G.2.1 .int, 24, .inl (fun _ => 0))), (a17, .inr (0, [.ref a18, .ref a19, .ref a20])), (a18, .inl (G.2.1 .int, 4, .inl (fun _ => 0))), (a19, .inl (G.2.1 .int, 4, .inl (fun _ => 0))), (a20, .inl (G.2.1 .int, 6, .inl (fun _ => 0))), (a21, .inr (3, [.ref a22, .ref a23, .ref a24, .ref a25, .int 0])), (a22, .inl (G.2.1 .int, 8, .inl (fun _ => 0))), (a23, .inl (G.2.1 .int, 8, .inl (fun _ => 0))), (a24, .inl (G.2.1 .int, 8, .inl (fun _ => 0))), (a25, .inl (G.2.1 .boolean, 8, .inl (fun _ => 0))), (a26, .inr (1, [.ref a27, .ref a31, .int 0])), (a27, .inr (0, [.ref a28, .ref a29, .ref a30])), (a28, .inl (G.2.1 .int, 4, .inl (fun _ => 0))), (a29, .inl (G.2.1 .int, 4, .inl (fun _ => 0))), (a30, .inl (G.2.1 .int, 6, .inl (fun _ => 0))), (a31, .inl (G.2.1 .int, 6, .inl (fun _ => 0))), (a32, .inl (G.2.1 (.object "ThreeRefusals$Sheet"), 4, .inr (.inr (.inr (.inr (va_up (va_up (va_up (va_up (fun _ => none) 0 (some a34)) 1 (some a36)) 2 (some a38)) 3 (some a40))))))), (a33, .inl (G.2.1 .int, 100, .inl (fun _ => 0))), (a34, .inr (4, [.ref a35, .int 0, .int 0, .int 0])), (a35, .inl (G.2.1 .int, 100, .inl (fun _ => 0))), (a36, .inr (4, [.ref a37, .int 0, .int 0, .int 0])), (a37, .inl (G.2.1 .int, 100, .inl (fun _ => 0))), (a38, .inr (4, [.ref a39, .int 0, .int 0, .int 0])), (a39, .inl (G.2.1 .int, 100, .inl (fun _ => 0))), (a40, .inr (4, [.ref a41, .int 0, .int 0, .int 0])), (a41, .inl (G.2.1 .int, 100, .inl (fun _ => 0)))]) rfl ?_
  refine nq_cs (cs2 := (42, 751)) rfl ?_
  refine nq_astore_n (ls2 := [(1, .ref o), (0, .ref b)]) (dget dL0 3 rfl) rfl (by decide) rfl ?_
  refine nq_new tyX8 [.int 0, .int 0, .int 0, .null, .null, .null, .int 0, .int 0, .int 0, .int 0, .null, .null, .null, .int 0, .null, .null, .null, .null, .null, .null, .int 0, .null, .null, .null, .null, .null, .null, .null, .null, .int 0] (dget dL0 4 rfl) fc8 tyX8_ok (tblG_3 114 rfl rfl) (tblG_3 115 rfl rfl) kcX8.1 (by decide) (Nat.le_of_ble_eq_true rfl) (Nat.le_of_ble_eq_true rfl) (fun o2 => ?_)
  refine nq_cs (cs2 := (43, 781)) rfl ?_
  refine nq_dup (dget dL0 5 rfl) rfl ?_
  refine nq_callI (wr := [(o, .inr (6, [.ref a1, .ref a13, .ref a21, .ref a26, .ref a32, .ref a33, .int 0, .int 0])), (a1, .inr (5, [.int 0, .int 0, .int 0, .ref a2, .ref a3, .ref a8])), (a2, .inl (G.2.1 .int, 4, .inl (fun _ => 0))), (a3, .inl (G.2.1 (.array .int), 4, .inr (.inr (.inr (.inr (fun i => [a4, a5, a6, a7][i]?)))))), (a4, .inl (G.2.1 .int, 6, .inl (fun _ => 0))), (a5, .inl (G.2.1 .int, 6, .inl (fun _ => 0))), (a6, .inl (G.2.1 .int, 6, .inl (fun _ => 0))), (a7, .inl (G.2.1 .int, 6, .inl (fun _ => 0))), (a8, .inl (G.2.1 (.array .int), 4, .inr (.inr (.inr (.inr (fun i => [a9, a10, a11, a12][i]?)))))), (a9, .inl (G.2.1 .int, 6, .inl (fun _ => 0))), (a10, .inl (G.2.1 .int, 6, .inl (fun _ => 0))), (a11, .inl (G.2.1 .int, 6, .inl (fun _ => 0))), (a12, .inl (G.2.1 .int, 6, .inl (fun _ => 0))), (a13, .inr (2, [.ref a14, .ref a15, .ref a16, .ref a17, .int 0])), (a14, .inl (G.2.1 .int, 24, .inl (fun _ => 0))), (a15, .inl (G.2.1 .int, 24, .inl (fun _ => 0))), (a16, .inl (G.2.1 .int, 24, .inl (fun _ => 0))), (a17, .inr (0, [.ref a18, .ref a19, .ref a20])), (a18, .inl (G.2.1 .int, 4, .inl (fun _ => 0))), (a19, .inl (G.2.1 .int, 4, .inl (fun _ => 0))), (a20, .inl (G.2.1 .int, 6, .inl (fun _ => 0))), (a21, .inr (3, [.ref a22, .ref a23, .ref a24, .ref a25, .int 0])), (a22, .inl (G.2.1 .int, 8, .inl (fun _ => 0))), (a23, .inl (G.2.1 .int, 8, .inl (fun _ => 0))), (a24, .inl (G.2.1 .int, 8, .inl (fun _ => 0))), (a25, .inl (G.2.1 .boolean, 8, .inl (fun _ => 0))), (a26, .inr (1, [.ref a27, .ref a31, .int 0])), (a27, .inr (0, [.ref a28, .ref a29, .ref a30])), (a28, .inl (G.2.1 .int, 4, .inl (fun _ => 0))), (a29, .inl (G.2.1 .int, 4, .inl (fun _ => 0))), (a30, .inl (G.2.1 .int, 6, .inl (fun _ => 0))), (a31, .inl (G.2.1 .int, 6, .inl (fun _ => 0))), (a32, .inl (G.2.1 (.object "ThreeRefusals$Sheet"), 4, .inr (.inr (.inr (.inr (va_up (va_up (va_up (va_up (fun _ => none) 0 (some a34)) 1 (some a36)) 2 (some a38)) 3 (some a40))))))), (a33, .inl (G.2.1 .int, 100, .inl (fun _ => 0))), (a34, .inr (4, [.ref a35, .int 0, .int 0, .int 0])), (a35, .inl (G.2.1 .int, 100, .inl (fun _ => 0))), (a36, .inr (4, [.ref a37, .int 0, .int 0, .int 0])), (a37, .inl (G.2.1 .int, 100, .inl (fun _ => 0))), (a38, .inr (4, [.ref a39, .int 0, .int 0, .int 0])), (a39, .inl (G.2.1 .int, 100, .inl (fun _ => 0))), (a40, .inr (4, [.ref a41, .int 0, .int 0, .int 0])), (a41, .inl (G.2.1 .int, 100, .inl (fun _ => 0)))]) (dget dL0 6 rfl) (tblG_3 116 rfl rfl) (n_X8_init G) mbX8_init rfl (tblG_3 117 rfl rfl) rfl (Nat.le_of_ble_eq_true rfl) (Nat.le_of_ble_eq_true rfl) (Nat.le_of_ble_eq_true rfl) (Nat.le_of_ble_eq_true rfl) (Nat.le_of_ble_eq_true rfl) (fun w hw => ?_)
  obtain ⟨c1, c2, c3, c4, c5, c6, c7, c8, c9, c10, c11, c12, c13, c14, c15, c16, c17, c18, c19, c20, rfl⟩ := hw
  refine nq_cs (cs2 := (63, 1511)) rfl ?_
  refine nq_astore_n (ls2 := [(2, .ref o2), (1, .ref o), (0, .ref b)]) (dget dL0 7 rfl) rfl (by decide) rfl ?_
  refine nq_iconst (v := 0) (dget dL0 8 rfl) (by decide) ?_
  refine nq_istore_n (ls2 := [(3, .int 0), (2, .ref o2), (1, .ref o), (0, .ref b)]) (dget dL0 9 rfl) rfl (by decide) rfl ?_
  exact nq_go (fun i => (([o, a1, a2, a3, a4, a5, a6, a7, a8, a9, a10, a11, a12, a13, a14, a15, a16, a17, a18, a19, a20, a21, a22, a23, a24, a25, a26, a27, a28, a29, a30, a31, a32, a33, a34, a35, a36, a37, a38, a39, a40, a41, o2, c1, c2, c3, c4, c5, c6, c7, c8, c9, c10, c11, c12, c13, c14, c15, c16, c17, c18, c19, c20, b] : List Nat)[i]?).getD 0) [0, 3, 2, 1] rfl (lw_wd G.1 G.2.1 (fun i => (([o, a1, a2, a3, a4, a5, a6, a7, a8, a9, a10, a11, a12, a13, a14, a15, a16, a17, a18, a19, a20, a21, a22, a23, a24, a25, a26, a27, a28, a29, a30, a31, a32, a33, a34, a35, a36, a37, a38, a39, a40, a41, o2, c1, c2, c3, c4, c5, c6, c7, c8, c9, c10, c11, c12, c13, c14, c15, c16, c17, c18, c19, c20, b] : List Nat)[i]?).getD 0)) rfl (lw_loop hL ⟨by decide, by decide⟩ (L + 1) 0 lwM0 (Nat.zero_le L) (by omega) lw_INV)

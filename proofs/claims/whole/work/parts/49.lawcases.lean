/-! ===== the law: a case each ===== -/
theorem lw_c0 {b L : Nat} {xs : Nat → Int32} {cs : Nat × Nat} (hL : L ≤ 3584) (hcs : cs.1 ≤ 600000 ∧ cs.2 ≤ 7302250) {i : Nat} (hi : i + 7 ≤ L) {σ : Mem} (hI : INV σ) (kk : ∀ σ2, INV σ2 → PAt (lwE b L xs cs) mLw 1162 (lwLs i) [] σ2) : PAt (lwE b L xs cs) mLw 164 (lwLs i) [] σ := by
  refine tq_aload_n 2 (dget dL0 22 rfl) rfl rfl ?_
  refine lw_arg (a := 1) (dget dL0 23 rfl) (dget dL0 24 rfl) (dget dL0 25 rfl) (dget dL0 26 rfl) (dget dL0 27 rfl) rfl (nI_add i 1) (by omega) hL ?_
  refine lw_arg (a := 2) (dget dL0 28 rfl) (dget dL0 29 rfl) (dget dL0 30 rfl) (dget dL0 31 rfl) (dget dL0 32 rfl) rfl (nI_add i 2) (by omega) hL ?_
  refine lw_arg (a := 3) (dget dL0 33 rfl) (dget dL0 34 rfl) (dget dL0 35 rfl) (dget dL0 36 rfl) (dget dL0 37 rfl) rfl (nI_add i 3) (by omega) hL ?_
  refine lw_arg (a := 4) (dget dL0 38 rfl) (dget dL0 39 rfl) (dget dL0 40 rfl) (dget dL0 41 rfl) (dget dL0 42 rfl) rfl (nI_add i 4) (by omega) hL ?_
  refine tq_callVi (As := [.int (xs (i + 1)), .int (xs (i + 2)), .int (xs (i + 3)), .int (xs (i + 4))]) (rest := []) (dget dL0 43 rfl) lL_13 miX7_valley (t_valley hI (xs (i + 1)) (xs (i + 2)) (xs (i + 3)) (xs (i + 4)) (Nat.le_refl 12)) rfl rfl rfl rfl (Nat.le_of_ble_eq_true rfl) (Nat.le_of_ble_eq_true rfl) (Nat.le_of_ble_eq_true rfl) hcs (fun v σ1 h1 => ?_)
  refine tq_aload_n 3 (dget dL0 44 rfl) rfl rfl ?_
  refine lw_arg (a := 1) (dget dL0 45 rfl) (dget dL0 46 rfl) (dget dL0 47 rfl) (dget dL0 48 rfl) (dget dL0 49 rfl) rfl (nI_add i 1) (by omega) hL ?_
  refine lw_arg (a := 2) (dget dL0 50 rfl) (dget dL0 51 rfl) (dget dL0 52 rfl) (dget dL0 53 rfl) (dget dL0 54 rfl) rfl (nI_add i 2) (by omega) hL ?_
  refine lw_arg (a := 3) (dget dL0 55 rfl) (dget dL0 56 rfl) (dget dL0 57 rfl) (dget dL0 58 rfl) (dget dL0 59 rfl) rfl (nI_add i 3) (by omega) hL ?_
  refine lw_arg (a := 4) (dget dL1 0 rfl) (dget dL1 1 rfl) (dget dL1 2 rfl) (dget dL1 3 rfl) (dget dL1 4 rfl) rfl (nI_add i 4) (by omega) hL ?_
  refine tq_callVi (As := [.int (xs (i + 1)), .int (xs (i + 2)), .int (xs (i + 3)), .int (xs (i + 4))]) (rest := [.int v]) (dget dL1 5 rfl) lL_17 miX8_valley h1 rfl rfl rfl rfl (Nat.le_of_ble_eq_true rfl) (Nat.le_of_ble_eq_true rfl) (Nat.le_of_ble_eq_true rfl) hcs (fun w σ2 h2 => ?_)
  obtain ⟨e2, h2⟩ := h2
  exact tq_icmp_eq (tgt := 1162) (dget dL1 6 rfl) (by decide) (fun _ => kk σ2 h2) (fun c => absurd e2.symm c)
theorem lw_c1 {b L : Nat} {xs : Nat → Int32} {cs : Nat × Nat} (hL : L ≤ 3584) (hcs : cs.1 ≤ 600000 ∧ cs.2 ≤ 7302250) {i : Nat} (hi : i + 7 ≤ L) {σ : Mem} (hI : INV σ) (kk : ∀ σ2, INV σ2 → PAt (lwE b L xs cs) mLw 1162 (lwLs i) [] σ2) : PAt (lwE b L xs cs) mLw 217 (lwLs i) [] σ := by
  refine tq_aload_n 2 (dget dL1 9 rfl) rfl rfl ?_
  refine lw_arg (a := 1) (dget dL1 10 rfl) (dget dL1 11 rfl) (dget dL1 12 rfl) (dget dL1 13 rfl) (dget dL1 14 rfl) rfl (nI_add i 1) (by omega) hL ?_
  refine lw_arg (a := 2) (dget dL1 15 rfl) (dget dL1 16 rfl) (dget dL1 17 rfl) (dget dL1 18 rfl) (dget dL1 19 rfl) rfl (nI_add i 2) (by omega) hL ?_
  refine lw_arg (a := 3) (dget dL1 20 rfl) (dget dL1 21 rfl) (dget dL1 22 rfl) (dget dL1 23 rfl) (dget dL1 24 rfl) rfl (nI_add i 3) (by omega) hL ?_
  refine tq_callVi (As := [.int (xs (i + 1)), .int (xs (i + 2)), .int (xs (i + 3))]) (rest := []) (dget dL1 25 rfl) lL_18 miX7_likes (t_likes hI (xs (i + 1)) (xs (i + 2)) (xs (i + 3)) (Nat.le_refl 12)) rfl rfl rfl rfl (Nat.le_of_ble_eq_true rfl) (Nat.le_of_ble_eq_true rfl) (Nat.le_of_ble_eq_true rfl) hcs (fun v σ1 h1 => ?_)
  refine tq_aload_n 3 (dget dL1 26 rfl) rfl rfl ?_
  refine lw_arg (a := 1) (dget dL1 27 rfl) (dget dL1 28 rfl) (dget dL1 29 rfl) (dget dL1 30 rfl) (dget dL1 31 rfl) rfl (nI_add i 1) (by omega) hL ?_
  refine lw_arg (a := 2) (dget dL1 32 rfl) (dget dL1 33 rfl) (dget dL1 34 rfl) (dget dL1 35 rfl) (dget dL1 36 rfl) rfl (nI_add i 2) (by omega) hL ?_
  refine lw_arg (a := 3) (dget dL1 37 rfl) (dget dL1 38 rfl) (dget dL1 39 rfl) (dget dL1 40 rfl) (dget dL1 41 rfl) rfl (nI_add i 3) (by omega) hL ?_
  refine tq_callVi (As := [.int (xs (i + 1)), .int (xs (i + 2)), .int (xs (i + 3))]) (rest := [.int v]) (dget dL1 42 rfl) lL_22 miX8_likes h1 rfl rfl rfl rfl (Nat.le_of_ble_eq_true rfl) (Nat.le_of_ble_eq_true rfl) (Nat.le_of_ble_eq_true rfl) hcs (fun w σ2 h2 => ?_)
  obtain ⟨e2, h2⟩ := h2
  exact tq_icmp_eq (tgt := 1162) (dget dL1 43 rfl) (by decide) (fun _ => kk σ2 h2) (fun c => absurd e2.symm c)
theorem lw_c2 {b L : Nat} {xs : Nat → Int32} {cs : Nat × Nat} (hL : L ≤ 3584) (hcs : cs.1 ≤ 600000 ∧ cs.2 ≤ 7302250) {i : Nat} (hi : i + 7 ≤ L) {σ : Mem} (hI : INV σ) (kk : ∀ σ2, INV σ2 → PAt (lwE b L xs cs) mLw 1162 (lwLs i) [] σ2) : PAt (lwE b L xs cs) mLw 260 (lwLs i) [] σ := by
  refine tq_aload_n 2 (dget dL1 46 rfl) rfl rfl ?_
  refine lw_arg (a := 1) (dget dL1 47 rfl) (dget dL1 48 rfl) (dget dL1 49 rfl) (dget dL1 50 rfl) (dget dL1 51 rfl) rfl (nI_add i 1) (by omega) hL ?_
  refine lw_arg (a := 2) (dget dL1 52 rfl) (dget dL1 53 rfl) (dget dL1 54 rfl) (dget dL1 55 rfl) (dget dL1 56 rfl) rfl (nI_add i 2) (by omega) hL ?_
  refine lw_arg (a := 3) (dget dL1 57 rfl) (dget dL1 58 rfl) (dget dL1 59 rfl) (dget dL2 0 rfl) (dget dL2 1 rfl) rfl (nI_add i 3) (by omega) hL ?_
  refine lw_arg (a := 4) (dget dL2 2 rfl) (dget dL2 3 rfl) (dget dL2 4 rfl) (dget dL2 5 rfl) (dget dL2 6 rfl) rfl (nI_add i 4) (by omega) hL ?_
  refine tq_callVi (As := [.int (xs (i + 1)), .int (xs (i + 2)), .int (xs (i + 3)), .int (xs (i + 4))]) (rest := []) (dget dL2 7 rfl) lL_23 miX7_like (t_like hI (xs (i + 1)) (xs (i + 2)) (xs (i + 3)) (xs (i + 4)) (Nat.le_refl 12)) rfl rfl rfl rfl (Nat.le_of_ble_eq_true rfl) (Nat.le_of_ble_eq_true rfl) (Nat.le_of_ble_eq_true rfl) hcs (fun v σ1 h1 => ?_)
  refine tq_aload_n 3 (dget dL2 8 rfl) rfl rfl ?_
  refine lw_arg (a := 1) (dget dL2 9 rfl) (dget dL2 10 rfl) (dget dL2 11 rfl) (dget dL2 12 rfl) (dget dL2 13 rfl) rfl (nI_add i 1) (by omega) hL ?_
  refine lw_arg (a := 2) (dget dL2 14 rfl) (dget dL2 15 rfl) (dget dL2 16 rfl) (dget dL2 17 rfl) (dget dL2 18 rfl) rfl (nI_add i 2) (by omega) hL ?_
  refine lw_arg (a := 3) (dget dL2 19 rfl) (dget dL2 20 rfl) (dget dL2 21 rfl) (dget dL2 22 rfl) (dget dL2 23 rfl) rfl (nI_add i 3) (by omega) hL ?_
  refine lw_arg (a := 4) (dget dL2 24 rfl) (dget dL2 25 rfl) (dget dL2 26 rfl) (dget dL2 27 rfl) (dget dL2 28 rfl) rfl (nI_add i 4) (by omega) hL ?_
  refine tq_callVi (As := [.int (xs (i + 1)), .int (xs (i + 2)), .int (xs (i + 3)), .int (xs (i + 4))]) (rest := [.int v]) (dget dL2 29 rfl) lL_26 miX8_like h1 rfl rfl rfl rfl (Nat.le_of_ble_eq_true rfl) (Nat.le_of_ble_eq_true rfl) (Nat.le_of_ble_eq_true rfl) hcs (fun w σ2 h2 => ?_)
  obtain ⟨e2, h2⟩ := h2
  exact tq_icmp_eq (tgt := 1162) (dget dL2 30 rfl) (by decide) (fun _ => kk σ2 h2) (fun c => absurd e2.symm c)
theorem lw_c3 {b L : Nat} {xs : Nat → Int32} {cs : Nat × Nat} (hL : L ≤ 3584) (hcs : cs.1 ≤ 600000 ∧ cs.2 ≤ 7302250) {i : Nat} (hi : i + 7 ≤ L) {σ : Mem} (hI : INV σ) (kk : ∀ σ2, INV σ2 → PAt (lwE b L xs cs) mLw 1162 (lwLs i) [] σ2) : PAt (lwE b L xs cs) mLw 313 (lwLs i) [] σ := by
  refine tq_aload_n 2 (dget dL2 33 rfl) rfl rfl ?_
  refine lw_arg (a := 1) (dget dL2 34 rfl) (dget dL2 35 rfl) (dget dL2 36 rfl) (dget dL2 37 rfl) (dget dL2 38 rfl) rfl (nI_add i 1) (by omega) hL ?_
  refine lw_arg (a := 2) (dget dL2 39 rfl) (dget dL2 40 rfl) (dget dL2 41 rfl) (dget dL2 42 rfl) (dget dL2 43 rfl) rfl (nI_add i 2) (by omega) hL ?_
  refine tq_callVi (As := [.int (xs (i + 1)), .int (xs (i + 2))]) (rest := []) (dget dL2 44 rfl) lL_27 miX7_ofMaid (t_ofMaid hI (xs (i + 1)) (xs (i + 2)) (Nat.le_refl 12)) rfl rfl rfl rfl (Nat.le_of_ble_eq_true rfl) (Nat.le_of_ble_eq_true rfl) (Nat.le_of_ble_eq_true rfl) hcs (fun v σ1 h1 => ?_)
  refine tq_aload_n 3 (dget dL2 45 rfl) rfl rfl ?_
  refine lw_arg (a := 1) (dget dL2 46 rfl) (dget dL2 47 rfl) (dget dL2 48 rfl) (dget dL2 49 rfl) (dget dL2 50 rfl) rfl (nI_add i 1) (by omega) hL ?_
  refine lw_arg (a := 2) (dget dL2 51 rfl) (dget dL2 52 rfl) (dget dL2 53 rfl) (dget dL2 54 rfl) (dget dL2 55 rfl) rfl (nI_add i 2) (by omega) hL ?_
  refine tq_callVi (As := [.int (xs (i + 1)), .int (xs (i + 2))]) (rest := [.int v]) (dget dL2 56 rfl) lL_31 miX8_ofMaid h1 rfl rfl rfl rfl (Nat.le_of_ble_eq_true rfl) (Nat.le_of_ble_eq_true rfl) (Nat.le_of_ble_eq_true rfl) hcs (fun w σ2 h2 => ?_)
  obtain ⟨e2, h2⟩ := h2
  exact tq_icmp_eq (tgt := 1162) (dget dL2 57 rfl) (by decide) (fun _ => kk σ2 h2) (fun c => absurd e2.symm c)
theorem lw_c4 {b L : Nat} {xs : Nat → Int32} {cs : Nat × Nat} (hL : L ≤ 3584) (hcs : cs.1 ≤ 600000 ∧ cs.2 ≤ 7302250) {i : Nat} (hi : i + 7 ≤ L) {σ : Mem} (hI : INV σ) (kk : ∀ σ2, INV σ2 → PAt (lwE b L xs cs) mLw 1162 (lwLs i) [] σ2) : PAt (lwE b L xs cs) mLw 346 (lwLs i) [] σ := by
  refine tq_aload_n 2 (dget dL3 0 rfl) rfl rfl ?_
  refine lw_arg (a := 1) (dget dL3 1 rfl) (dget dL3 2 rfl) (dget dL3 3 rfl) (dget dL3 4 rfl) (dget dL3 5 rfl) rfl (nI_add i 1) (by omega) hL ?_
  refine tq_callVi (As := [.int (xs (i + 1))]) (rest := []) (dget dL3 6 rfl) lL_32 miX7_law (t_law hI (xs (i + 1)) (Nat.le_refl 12)) rfl rfl rfl rfl (Nat.le_of_ble_eq_true rfl) (Nat.le_of_ble_eq_true rfl) (Nat.le_of_ble_eq_true rfl) hcs (fun v σ1 h1 => ?_)
  refine tq_aload_n 3 (dget dL3 7 rfl) rfl rfl ?_
  refine lw_arg (a := 1) (dget dL3 8 rfl) (dget dL3 9 rfl) (dget dL3 10 rfl) (dget dL3 11 rfl) (dget dL3 12 rfl) rfl (nI_add i 1) (by omega) hL ?_
  refine tq_callVi (As := [.int (xs (i + 1))]) (rest := [.int v]) (dget dL3 13 rfl) lL_36 miX8_law h1 rfl rfl rfl rfl (Nat.le_of_ble_eq_true rfl) (Nat.le_of_ble_eq_true rfl) (Nat.le_of_ble_eq_true rfl) hcs (fun w σ2 h2 => ?_)
  obtain ⟨e2, h2⟩ := h2
  exact tq_icmp_eq (tgt := 1162) (dget dL3 14 rfl) (by decide) (fun _ => kk σ2 h2) (fun c => absurd e2.symm c)
theorem lw_c5 {b L : Nat} {xs : Nat → Int32} {cs : Nat × Nat} (hL : L ≤ 3584) (hcs : cs.1 ≤ 600000 ∧ cs.2 ≤ 7302250) {i : Nat} (hi : i + 7 ≤ L) {σ : Mem} (hI : INV σ) (kk : ∀ σ2, INV σ2 → PAt (lwE b L xs cs) mLw 1162 (lwLs i) [] σ2) : PAt (lwE b L xs cs) mLw 369 (lwLs i) [] σ := by
  refine tq_aload_n 2 (dget dL3 17 rfl) rfl rfl ?_
  refine lw_arg (a := 1) (dget dL3 18 rfl) (dget dL3 19 rfl) (dget dL3 20 rfl) (dget dL3 21 rfl) (dget dL3 22 rfl) rfl (nI_add i 1) (by omega) hL ?_
  refine lw_arg (a := 2) (dget dL3 23 rfl) (dget dL3 24 rfl) (dget dL3 25 rfl) (dget dL3 26 rfl) (dget dL3 27 rfl) rfl (nI_add i 2) (by omega) hL ?_
  refine tq_callVi (As := [.int (xs (i + 1)), .int (xs (i + 2))]) (rest := []) (dget dL3 28 rfl) lL_37 miX7_offer (t_offer hI (xs (i + 1)) (xs (i + 2)) (Nat.le_refl 12)) rfl rfl rfl rfl (Nat.le_of_ble_eq_true rfl) (Nat.le_of_ble_eq_true rfl) (Nat.le_of_ble_eq_true rfl) hcs (fun v σ1 h1 => ?_)
  refine tq_aload_n 3 (dget dL3 29 rfl) rfl rfl ?_
  refine lw_arg (a := 1) (dget dL3 30 rfl) (dget dL3 31 rfl) (dget dL3 32 rfl) (dget dL3 33 rfl) (dget dL3 34 rfl) rfl (nI_add i 1) (by omega) hL ?_
  refine lw_arg (a := 2) (dget dL3 35 rfl) (dget dL3 36 rfl) (dget dL3 37 rfl) (dget dL3 38 rfl) (dget dL3 39 rfl) rfl (nI_add i 2) (by omega) hL ?_
  refine tq_callVi (As := [.int (xs (i + 1)), .int (xs (i + 2))]) (rest := [.int v]) (dget dL3 40 rfl) lL_40 miX8_offer h1 rfl rfl rfl rfl (Nat.le_of_ble_eq_true rfl) (Nat.le_of_ble_eq_true rfl) (Nat.le_of_ble_eq_true rfl) hcs (fun w σ2 h2 => ?_)
  obtain ⟨e2, h2⟩ := h2
  exact tq_icmp_eq (tgt := 1162) (dget dL3 41 rfl) (by decide) (fun _ => kk σ2 h2) (fun c => absurd e2.symm c)
theorem lw_c6 {b L : Nat} {xs : Nat → Int32} {cs : Nat × Nat} (hL : L ≤ 3584) (hcs : cs.1 ≤ 600000 ∧ cs.2 ≤ 7302250) {i : Nat} (hi : i + 7 ≤ L) {σ : Mem} (hI : INV σ) (kk : ∀ σ2, INV σ2 → PAt (lwE b L xs cs) mLw 1162 (lwLs i) [] σ2) : PAt (lwE b L xs cs) mLw 402 (lwLs i) [] σ := by
  refine tq_aload_n 2 (dget dL3 44 rfl) rfl rfl ?_
  refine lw_arg (a := 1) (dget dL3 45 rfl) (dget dL3 46 rfl) (dget dL3 47 rfl) (dget dL3 48 rfl) (dget dL3 49 rfl) rfl (nI_add i 1) (by omega) hL ?_
  refine tq_callVi (As := [.int (xs (i + 1))]) (rest := []) (dget dL3 50 rfl) lL_41 miX7_comes (t_comes hI (xs (i + 1)) (Nat.le_refl 12)) rfl rfl rfl rfl (Nat.le_of_ble_eq_true rfl) (Nat.le_of_ble_eq_true rfl) (Nat.le_of_ble_eq_true rfl) hcs (fun v σ1 h1 => ?_)
  refine tq_aload_n 3 (dget dL3 51 rfl) rfl rfl ?_
  refine lw_arg (a := 1) (dget dL3 52 rfl) (dget dL3 53 rfl) (dget dL3 54 rfl) (dget dL3 55 rfl) (dget dL3 56 rfl) rfl (nI_add i 1) (by omega) hL ?_
  refine tq_callVi (As := [.int (xs (i + 1))]) (rest := [.int v]) (dget dL3 57 rfl) lL_44 miX8_comes h1 rfl rfl rfl rfl (Nat.le_of_ble_eq_true rfl) (Nat.le_of_ble_eq_true rfl) (Nat.le_of_ble_eq_true rfl) hcs (fun w σ2 h2 => ?_)
  obtain ⟨e2, h2⟩ := h2
  exact tq_icmp_eq (tgt := 1162) (dget dL3 58 rfl) (by decide) (fun _ => kk σ2 h2) (fun c => absurd e2.symm c)
theorem lw_c7 {b L : Nat} {xs : Nat → Int32} {cs : Nat × Nat} (hL : L ≤ 3584) (hcs : cs.1 ≤ 600000 ∧ cs.2 ≤ 7302250) {i : Nat} (hi : i + 7 ≤ L) {σ : Mem} (hI : INV σ) (kk : ∀ σ2, INV σ2 → PAt (lwE b L xs cs) mLw 1162 (lwLs i) [] σ2) : PAt (lwE b L xs cs) mLw 425 (lwLs i) [] σ := by
  refine tq_aload_n 2 (dget dL4 1 rfl) rfl rfl ?_
  refine lw_arg (a := 1) (dget dL4 2 rfl) (dget dL4 3 rfl) (dget dL4 4 rfl) (dget dL4 5 rfl) (dget dL4 6 rfl) rfl (nI_add i 1) (by omega) hL ?_
  refine tq_callVi (As := [.int (xs (i + 1))]) (rest := []) (dget dL4 7 rfl) lL_45 miX7_undo (t_undo hI (xs (i + 1)) (Nat.le_refl 12)) rfl rfl rfl rfl (Nat.le_of_ble_eq_true rfl) (Nat.le_of_ble_eq_true rfl) (Nat.le_of_ble_eq_true rfl) hcs (fun v σ1 h1 => ?_)
  refine tq_aload_n 3 (dget dL4 8 rfl) rfl rfl ?_
  refine lw_arg (a := 1) (dget dL4 9 rfl) (dget dL4 10 rfl) (dget dL4 11 rfl) (dget dL4 12 rfl) (dget dL4 13 rfl) rfl (nI_add i 1) (by omega) hL ?_
  refine tq_callVi (As := [.int (xs (i + 1))]) (rest := [.int v]) (dget dL4 14 rfl) lL_48 miX8_undo h1 rfl rfl rfl rfl (Nat.le_of_ble_eq_true rfl) (Nat.le_of_ble_eq_true rfl) (Nat.le_of_ble_eq_true rfl) hcs (fun w σ2 h2 => ?_)
  obtain ⟨e2, h2⟩ := h2
  exact tq_icmp_eq (tgt := 1162) (dget dL4 15 rfl) (by decide) (fun _ => kk σ2 h2) (fun c => absurd e2.symm c)
theorem lw_c8 {b L : Nat} {xs : Nat → Int32} {cs : Nat × Nat} (hL : L ≤ 3584) (hcs : cs.1 ≤ 600000 ∧ cs.2 ≤ 7302250) {i : Nat} (hi : i + 7 ≤ L) {σ : Mem} (hI : INV σ) (kk : ∀ σ2, INV σ2 → PAt (lwE b L xs cs) mLw 1162 (lwLs i) [] σ2) : PAt (lwE b L xs cs) mLw 448 (lwLs i) [] σ := by
  refine tq_aload_n 2 (dget dL4 18 rfl) rfl rfl ?_
  refine tq_callVl (As := []) (rest := []) (dget dL4 19 rfl) lL_49 miX7_pairs (t_pairs hI (Nat.le_refl 12)) rfl rfl rfl rfl (Nat.le_of_ble_eq_true rfl) (Nat.le_of_ble_eq_true rfl) (Nat.le_of_ble_eq_true rfl) hcs (fun v σ1 h1 => ?_)
  refine tq_aload_n 3 (dget dL4 20 rfl) rfl rfl ?_
  refine tq_callVl (As := []) (rest := [.long v]) (dget dL4 21 rfl) lL_53 miX8_pairs h1 rfl rfl rfl rfl (Nat.le_of_ble_eq_true rfl) (Nat.le_of_ble_eq_true rfl) (Nat.le_of_ble_eq_true rfl) hcs (fun w σ2 h2 => ?_)
  obtain ⟨e2, h2⟩ := h2
  refine tq_lcmp (dget dL4 22 rfl) ?_
  exact tq_if_eq (tgt := 1162) (dget dL4 23 rfl) (by decide) (fun _ => kk σ2 h2) (fun c => absurd (lw_cmp e2.symm) c)
theorem lw_c9 {b L : Nat} {xs : Nat → Int32} {cs : Nat × Nat} (hL : L ≤ 3584) (hcs : cs.1 ≤ 600000 ∧ cs.2 ≤ 7302250) {i : Nat} (hi : i + 7 ≤ L) {σ : Mem} (hI : INV σ) (kk : ∀ σ2, INV σ2 → PAt (lwE b L xs cs) mLw 1162 (lwLs i) [] σ2) : PAt (lwE b L xs cs) mLw 462 (lwLs i) [] σ := by
  refine tq_aload_n 2 (dget dL4 26 rfl) rfl rfl ?_
  refine lw_arg (a := 1) (dget dL4 27 rfl) (dget dL4 28 rfl) (dget dL4 29 rfl) (dget dL4 30 rfl) (dget dL4 31 rfl) rfl (nI_add i 1) (by omega) hL ?_
  refine lw_arg (a := 2) (dget dL4 32 rfl) (dget dL4 33 rfl) (dget dL4 34 rfl) (dget dL4 35 rfl) (dget dL4 36 rfl) rfl (nI_add i 2) (by omega) hL ?_
  refine lw_arg (a := 3) (dget dL4 37 rfl) (dget dL4 38 rfl) (dget dL4 39 rfl) (dget dL4 40 rfl) (dget dL4 41 rfl) rfl (nI_add i 3) (by omega) hL ?_
  refine lw_arg (a := 4) (dget dL4 42 rfl) (dget dL4 43 rfl) (dget dL4 44 rfl) (dget dL4 45 rfl) (dget dL4 46 rfl) rfl (nI_add i 4) (by omega) hL ?_
  refine lw_arg (a := 5) (dget dL4 47 rfl) (dget dL4 48 rfl) (dget dL4 49 rfl) (dget dL4 50 rfl) (dget dL4 51 rfl) rfl (nI_add i 5) (by omega) hL ?_
  refine lw_arg6 (a := 6) (dget dL4 52 rfl) (dget dL4 53 rfl) (dget dL4 54 rfl) (dget dL4 55 rfl) (dget dL4 56 rfl) rfl (nI_add i 6) (by omega) hL ?_
  refine tq_callVi (As := [.int (xs (i + 1)), .int (xs (i + 2)), .int (xs (i + 3)), .int (xs (i + 4)), .int (xs (i + 5)), .int (xs (i + 6))]) (rest := []) (dget dL4 57 rfl) lL_54 miX7_asked (t_asked hI (xs (i + 1)) (xs (i + 2)) (xs (i + 3)) (xs (i + 4)) (xs (i + 5)) (xs (i + 6)) (Nat.le_refl 12)) rfl rfl rfl rfl (Nat.le_of_ble_eq_true rfl) (Nat.le_of_ble_eq_true rfl) (Nat.le_of_ble_eq_true rfl) hcs (fun v σ1 h1 => ?_)
  refine tq_aload_n 3 (dget dL4 58 rfl) rfl rfl ?_
  refine lw_arg (a := 1) (dget dL4 59 rfl) (dget dL5 0 rfl) (dget dL5 1 rfl) (dget dL5 2 rfl) (dget dL5 3 rfl) rfl (nI_add i 1) (by omega) hL ?_
  refine lw_arg (a := 2) (dget dL5 4 rfl) (dget dL5 5 rfl) (dget dL5 6 rfl) (dget dL5 7 rfl) (dget dL5 8 rfl) rfl (nI_add i 2) (by omega) hL ?_
  refine lw_arg (a := 3) (dget dL5 9 rfl) (dget dL5 10 rfl) (dget dL5 11 rfl) (dget dL5 12 rfl) (dget dL5 13 rfl) rfl (nI_add i 3) (by omega) hL ?_
  refine lw_arg (a := 4) (dget dL5 14 rfl) (dget dL5 15 rfl) (dget dL5 16 rfl) (dget dL5 17 rfl) (dget dL5 18 rfl) rfl (nI_add i 4) (by omega) hL ?_
  refine lw_arg (a := 5) (dget dL5 19 rfl) (dget dL5 20 rfl) (dget dL5 21 rfl) (dget dL5 22 rfl) (dget dL5 23 rfl) rfl (nI_add i 5) (by omega) hL ?_
  refine lw_arg6 (a := 6) (dget dL5 24 rfl) (dget dL5 25 rfl) (dget dL5 26 rfl) (dget dL5 27 rfl) (dget dL5 28 rfl) rfl (nI_add i 6) (by omega) hL ?_
  refine tq_callVi (As := [.int (xs (i + 1)), .int (xs (i + 2)), .int (xs (i + 3)), .int (xs (i + 4)), .int (xs (i + 5)), .int (xs (i + 6))]) (rest := [.int v]) (dget dL5 29 rfl) lL_58 miX8_asked h1 rfl rfl rfl rfl (Nat.le_of_ble_eq_true rfl) (Nat.le_of_ble_eq_true rfl) (Nat.le_of_ble_eq_true rfl) hcs (fun w σ2 h2 => ?_)
  obtain ⟨e2, h2⟩ := h2
  exact tq_icmp_eq (tgt := 1162) (dget dL5 30 rfl) (by decide) (fun _ => kk σ2 h2) (fun c => absurd e2.symm c)
theorem lw_c10 {b L : Nat} {xs : Nat → Int32} {cs : Nat × Nat} (hL : L ≤ 3584) (hcs : cs.1 ≤ 600000 ∧ cs.2 ≤ 7302250) {i : Nat} (hi : i + 7 ≤ L) {σ : Mem} (hI : INV σ) (kk : ∀ σ2, INV σ2 → PAt (lwE b L xs cs) mLw 1162 (lwLs i) [] σ2) : PAt (lwE b L xs cs) mLw 537 (lwLs i) [] σ := by
  refine tq_aload_n 2 (dget dL5 33 rfl) rfl rfl ?_
  refine lw_arg (a := 1) (dget dL5 34 rfl) (dget dL5 35 rfl) (dget dL5 36 rfl) (dget dL5 37 rfl) (dget dL5 38 rfl) rfl (nI_add i 1) (by omega) hL ?_
  refine lw_arg (a := 2) (dget dL5 39 rfl) (dget dL5 40 rfl) (dget dL5 41 rfl) (dget dL5 42 rfl) (dget dL5 43 rfl) rfl (nI_add i 2) (by omega) hL ?_
  refine tq_callVi (As := [.int (xs (i + 1)), .int (xs (i + 2))]) (rest := []) (dget dL5 44 rfl) lL_59 miX7_sent (t_sent hI (xs (i + 1)) (xs (i + 2)) (Nat.le_refl 12)) rfl rfl rfl rfl (Nat.le_of_ble_eq_true rfl) (Nat.le_of_ble_eq_true rfl) (Nat.le_of_ble_eq_true rfl) hcs (fun v σ1 h1 => ?_)
  refine tq_aload_n 3 (dget dL5 45 rfl) rfl rfl ?_
  refine lw_arg (a := 1) (dget dL5 46 rfl) (dget dL5 47 rfl) (dget dL5 48 rfl) (dget dL5 49 rfl) (dget dL5 50 rfl) rfl (nI_add i 1) (by omega) hL ?_
  refine lw_arg (a := 2) (dget dL5 51 rfl) (dget dL5 52 rfl) (dget dL5 53 rfl) (dget dL5 54 rfl) (dget dL5 55 rfl) rfl (nI_add i 2) (by omega) hL ?_
  refine tq_callVi (As := [.int (xs (i + 1)), .int (xs (i + 2))]) (rest := [.int v]) (dget dL5 56 rfl) lL_62 miX8_sent h1 rfl rfl rfl rfl (Nat.le_of_ble_eq_true rfl) (Nat.le_of_ble_eq_true rfl) (Nat.le_of_ble_eq_true rfl) hcs (fun w σ2 h2 => ?_)
  obtain ⟨e2, h2⟩ := h2
  exact tq_icmp_eq (tgt := 1162) (dget dL5 57 rfl) (by decide) (fun _ => kk σ2 h2) (fun c => absurd e2.symm c)
theorem lw_c11 {b L : Nat} {xs : Nat → Int32} {cs : Nat × Nat} (hL : L ≤ 3584) (hcs : cs.1 ≤ 600000 ∧ cs.2 ≤ 7302250) {i : Nat} (hi : i + 7 ≤ L) {σ : Mem} (hI : INV σ) (kk : ∀ σ2, INV σ2 → PAt (lwE b L xs cs) mLw 1162 (lwLs i) [] σ2) : PAt (lwE b L xs cs) mLw 570 (lwLs i) [] σ := by
  refine tq_aload_n 2 (dget dL6 0 rfl) rfl rfl ?_
  refine lw_arg (a := 1) (dget dL6 1 rfl) (dget dL6 2 rfl) (dget dL6 3 rfl) (dget dL6 4 rfl) (dget dL6 5 rfl) rfl (nI_add i 1) (by omega) hL ?_
  refine tq_callVi (As := [.int (xs (i + 1))]) (rest := []) (dget dL6 6 rfl) lL_63 miX7_firm (t_firm hI (xs (i + 1)) (Nat.le_refl 12)) rfl rfl rfl rfl (Nat.le_of_ble_eq_true rfl) (Nat.le_of_ble_eq_true rfl) (Nat.le_of_ble_eq_true rfl) hcs (fun v σ1 h1 => ?_)
  refine tq_aload_n 3 (dget dL6 7 rfl) rfl rfl ?_
  refine lw_arg (a := 1) (dget dL6 8 rfl) (dget dL6 9 rfl) (dget dL6 10 rfl) (dget dL6 11 rfl) (dget dL6 12 rfl) rfl (nI_add i 1) (by omega) hL ?_
  refine tq_callVi (As := [.int (xs (i + 1))]) (rest := [.int v]) (dget dL6 13 rfl) lL_66 miX8_firm h1 rfl rfl rfl rfl (Nat.le_of_ble_eq_true rfl) (Nat.le_of_ble_eq_true rfl) (Nat.le_of_ble_eq_true rfl) hcs (fun w σ2 h2 => ?_)
  obtain ⟨e2, h2⟩ := h2
  exact tq_icmp_eq (tgt := 1162) (dget dL6 14 rfl) (by decide) (fun _ => kk σ2 h2) (fun c => absurd e2.symm c)
theorem lw_c12 {b L : Nat} {xs : Nat → Int32} {cs : Nat × Nat} (hL : L ≤ 3584) (hcs : cs.1 ≤ 600000 ∧ cs.2 ≤ 7302250) {i : Nat} (hi : i + 7 ≤ L) {σ : Mem} (hI : INV σ) (kk : ∀ σ2, INV σ2 → PAt (lwE b L xs cs) mLw 1162 (lwLs i) [] σ2) : PAt (lwE b L xs cs) mLw 593 (lwLs i) [] σ := by
  refine tq_aload_n 2 (dget dL6 17 rfl) rfl rfl ?_
  refine tq_callVi (As := []) (rest := []) (dget dL6 18 rfl) lL_67 miX7_brought (t_brought hI (Nat.le_refl 12)) rfl rfl rfl rfl (Nat.le_of_ble_eq_true rfl) (Nat.le_of_ble_eq_true rfl) (Nat.le_of_ble_eq_true rfl) hcs (fun v σ1 h1 => ?_)
  refine tq_aload_n 3 (dget dL6 19 rfl) rfl rfl ?_
  refine tq_callVi (As := []) (rest := [.int v]) (dget dL6 20 rfl) lL_71 miX8_brought h1 rfl rfl rfl rfl (Nat.le_of_ble_eq_true rfl) (Nat.le_of_ble_eq_true rfl) (Nat.le_of_ble_eq_true rfl) hcs (fun w σ2 h2 => ?_)
  obtain ⟨e2, h2⟩ := h2
  exact tq_icmp_eq (tgt := 1162) (dget dL6 21 rfl) (by decide) (fun _ => kk σ2 h2) (fun c => absurd e2.symm c)
theorem lw_c13 {b L : Nat} {xs : Nat → Int32} {cs : Nat × Nat} (hL : L ≤ 3584) (hcs : cs.1 ≤ 600000 ∧ cs.2 ≤ 7302250) {i : Nat} (hi : i + 7 ≤ L) {σ : Mem} (hI : INV σ) (kk : ∀ σ2, INV σ2 → PAt (lwE b L xs cs) mLw 1162 (lwLs i) [] σ2) : PAt (lwE b L xs cs) mLw 606 (lwLs i) [] σ := by
  refine tq_aload_n 2 (dget dL6 24 rfl) rfl rfl ?_
  refine lw_arg (a := 1) (dget dL6 25 rfl) (dget dL6 26 rfl) (dget dL6 27 rfl) (dget dL6 28 rfl) (dget dL6 29 rfl) rfl (nI_add i 1) (by omega) hL ?_
  refine lw_arg (a := 2) (dget dL6 30 rfl) (dget dL6 31 rfl) (dget dL6 32 rfl) (dget dL6 33 rfl) (dget dL6 34 rfl) rfl (nI_add i 2) (by omega) hL ?_
  refine lw_arg (a := 3) (dget dL6 35 rfl) (dget dL6 36 rfl) (dget dL6 37 rfl) (dget dL6 38 rfl) (dget dL6 39 rfl) rfl (nI_add i 3) (by omega) hL ?_
  refine lw_arg (a := 4) (dget dL6 40 rfl) (dget dL6 41 rfl) (dget dL6 42 rfl) (dget dL6 43 rfl) (dget dL6 44 rfl) rfl (nI_add i 4) (by omega) hL ?_
  refine tq_callVl (As := [.int (xs (i + 1)), .int (xs (i + 2)), .int (xs (i + 3)), .int (xs (i + 4))]) (rest := []) (dget dL6 45 rfl) lL_72 miX7_worth (t_worth hI (xs (i + 1)) (xs (i + 2)) (xs (i + 3)) (xs (i + 4)) (Nat.le_refl 12)) rfl rfl rfl rfl (Nat.le_of_ble_eq_true rfl) (Nat.le_of_ble_eq_true rfl) (Nat.le_of_ble_eq_true rfl) hcs (fun v σ1 h1 => ?_)
  refine tq_aload_n 3 (dget dL6 46 rfl) rfl rfl ?_
  refine lw_arg (a := 1) (dget dL6 47 rfl) (dget dL6 48 rfl) (dget dL6 49 rfl) (dget dL6 50 rfl) (dget dL6 51 rfl) rfl (nI_add i 1) (by omega) hL ?_
  refine lw_arg (a := 2) (dget dL6 52 rfl) (dget dL6 53 rfl) (dget dL6 54 rfl) (dget dL6 55 rfl) (dget dL6 56 rfl) rfl (nI_add i 2) (by omega) hL ?_
  refine lw_arg (a := 3) (dget dL6 57 rfl) (dget dL6 58 rfl) (dget dL6 59 rfl) (dget dL7 0 rfl) (dget dL7 1 rfl) rfl (nI_add i 3) (by omega) hL ?_
  refine lw_arg (a := 4) (dget dL7 2 rfl) (dget dL7 3 rfl) (dget dL7 4 rfl) (dget dL7 5 rfl) (dget dL7 6 rfl) rfl (nI_add i 4) (by omega) hL ?_
  refine tq_callVl (As := [.int (xs (i + 1)), .int (xs (i + 2)), .int (xs (i + 3)), .int (xs (i + 4))]) (rest := [.long v]) (dget dL7 7 rfl) lL_76 miX8_worth h1 rfl rfl rfl rfl (Nat.le_of_ble_eq_true rfl) (Nat.le_of_ble_eq_true rfl) (Nat.le_of_ble_eq_true rfl) hcs (fun w σ2 h2 => ?_)
  obtain ⟨e2, h2⟩ := h2
  refine tq_lcmp (dget dL7 8 rfl) ?_
  exact tq_if_eq (tgt := 1162) (dget dL7 9 rfl) (by decide) (fun _ => kk σ2 h2) (fun c => absurd (lw_cmp e2.symm) c)
theorem lw_c14 {b L : Nat} {xs : Nat → Int32} {cs : Nat × Nat} (hL : L ≤ 3584) (hcs : cs.1 ≤ 600000 ∧ cs.2 ≤ 7302250) {i : Nat} (hi : i + 7 ≤ L) {σ : Mem} (hI : INV σ) (kk : ∀ σ2, INV σ2 → PAt (lwE b L xs cs) mLw 1162 (lwLs i) [] σ2) : PAt (lwE b L xs cs) mLw 660 (lwLs i) [] σ := by
  by_cases hz : xs (i + 4) = 0
  · refine tq_aload_n 2 (dget dL7 12 rfl) rfl rfl ?_
    refine lw_arg (a := 1) (dget dL7 13 rfl) (dget dL7 14 rfl) (dget dL7 15 rfl) (dget dL7 16 rfl) (dget dL7 17 rfl) rfl (nI_add i 1) (by omega) hL ?_
    refine lw_arg (a := 2) (dget dL7 18 rfl) (dget dL7 19 rfl) (dget dL7 20 rfl) (dget dL7 21 rfl) (dget dL7 22 rfl) rfl (nI_add i 2) (by omega) hL ?_
    refine lw_arg (a := 3) (dget dL7 23 rfl) (dget dL7 24 rfl) (dget dL7 25 rfl) (dget dL7 26 rfl) (dget dL7 27 rfl) rfl (nI_add i 3) (by omega) hL ?_
    refine lw_arg (a := 4) (dget dL7 28 rfl) (dget dL7 29 rfl) (dget dL7 30 rfl) (dget dL7 31 rfl) (dget dL7 32 rfl) rfl (nI_add i 4) (by omega) hL ?_
    refine tq_if_eq (tgt := 688) (dget dL7 33 rfl) (by decide) (fun _ => ?_) (fun c => absurd hz c)
    refine tq_iconst (v := 0) (dget dL7 36 rfl) rfl ?_
    refine tq_callVi (As := [.int (xs (i + 1)), .int (xs (i + 2)), .int (xs (i + 3)), .int 0]) (rest := []) (dget dL7 37 rfl) lL_77 miX7_reading (t_reading hI (xs (i + 1)) (xs (i + 2)) (xs (i + 3)) 0 (Nat.le_refl 12)) rfl rfl rfl rfl (Nat.le_of_ble_eq_true rfl) (Nat.le_of_ble_eq_true rfl) (Nat.le_of_ble_eq_true rfl) hcs (fun v σ1 h1 => ?_)
    refine tq_aload_n 3 (dget dL7 38 rfl) rfl rfl ?_
    refine lw_arg (a := 1) (dget dL7 39 rfl) (dget dL7 40 rfl) (dget dL7 41 rfl) (dget dL7 42 rfl) (dget dL7 43 rfl) rfl (nI_add i 1) (by omega) hL ?_
    refine lw_arg (a := 2) (dget dL7 44 rfl) (dget dL7 45 rfl) (dget dL7 46 rfl) (dget dL7 47 rfl) (dget dL7 48 rfl) rfl (nI_add i 2) (by omega) hL ?_
    refine lw_arg (a := 3) (dget dL7 49 rfl) (dget dL7 50 rfl) (dget dL7 51 rfl) (dget dL7 52 rfl) (dget dL7 53 rfl) rfl (nI_add i 3) (by omega) hL ?_
    refine lw_arg (a := 4) (dget dL7 54 rfl) (dget dL7 55 rfl) (dget dL7 56 rfl) (dget dL7 57 rfl) (dget dL7 58 rfl) rfl (nI_add i 4) (by omega) hL ?_
    refine tq_if_eq (tgt := 720) (dget dL7 59 rfl) (by decide) (fun _ => ?_) (fun c => absurd hz c)
    refine tq_iconst (v := 0) (dget dL8 2 rfl) rfl ?_
    refine tq_callVi (As := [.int (xs (i + 1)), .int (xs (i + 2)), .int (xs (i + 3)), .int 0]) (rest := [.int v]) (dget dL8 3 rfl) lL_81 miX8_reading h1 rfl rfl rfl rfl (Nat.le_of_ble_eq_true rfl) (Nat.le_of_ble_eq_true rfl) (Nat.le_of_ble_eq_true rfl) hcs (fun w σ2 h2 => ?_)
    obtain ⟨e2, h2⟩ := h2
    exact tq_icmp_eq (tgt := 1162) (dget dL8 4 rfl) (by decide) (fun _ => kk σ2 h2) (fun c => absurd e2.symm c)
  · refine tq_aload_n 2 (dget dL7 12 rfl) rfl rfl ?_
    refine lw_arg (a := 1) (dget dL7 13 rfl) (dget dL7 14 rfl) (dget dL7 15 rfl) (dget dL7 16 rfl) (dget dL7 17 rfl) rfl (nI_add i 1) (by omega) hL ?_
    refine lw_arg (a := 2) (dget dL7 18 rfl) (dget dL7 19 rfl) (dget dL7 20 rfl) (dget dL7 21 rfl) (dget dL7 22 rfl) rfl (nI_add i 2) (by omega) hL ?_
    refine lw_arg (a := 3) (dget dL7 23 rfl) (dget dL7 24 rfl) (dget dL7 25 rfl) (dget dL7 26 rfl) (dget dL7 27 rfl) rfl (nI_add i 3) (by omega) hL ?_
    refine lw_arg (a := 4) (dget dL7 28 rfl) (dget dL7 29 rfl) (dget dL7 30 rfl) (dget dL7 31 rfl) (dget dL7 32 rfl) rfl (nI_add i 4) (by omega) hL ?_
    refine tq_if_eq (tgt := 688) (dget dL7 33 rfl) (by decide) (fun c => absurd c hz) (fun _ => ?_)
    refine tq_iconst (v := 1) (dget dL7 34 rfl) rfl ?_
    refine tq_goto (tgt := 689) (dget dL7 35 rfl) (by decide) ?_
    refine tq_callVi (As := [.int (xs (i + 1)), .int (xs (i + 2)), .int (xs (i + 3)), .int 1]) (rest := []) (dget dL7 37 rfl) lL_77 miX7_reading (t_reading hI (xs (i + 1)) (xs (i + 2)) (xs (i + 3)) 1 (Nat.le_refl 12)) rfl rfl rfl rfl (Nat.le_of_ble_eq_true rfl) (Nat.le_of_ble_eq_true rfl) (Nat.le_of_ble_eq_true rfl) hcs (fun v σ1 h1 => ?_)
    refine tq_aload_n 3 (dget dL7 38 rfl) rfl rfl ?_
    refine lw_arg (a := 1) (dget dL7 39 rfl) (dget dL7 40 rfl) (dget dL7 41 rfl) (dget dL7 42 rfl) (dget dL7 43 rfl) rfl (nI_add i 1) (by omega) hL ?_
    refine lw_arg (a := 2) (dget dL7 44 rfl) (dget dL7 45 rfl) (dget dL7 46 rfl) (dget dL7 47 rfl) (dget dL7 48 rfl) rfl (nI_add i 2) (by omega) hL ?_
    refine lw_arg (a := 3) (dget dL7 49 rfl) (dget dL7 50 rfl) (dget dL7 51 rfl) (dget dL7 52 rfl) (dget dL7 53 rfl) rfl (nI_add i 3) (by omega) hL ?_
    refine lw_arg (a := 4) (dget dL7 54 rfl) (dget dL7 55 rfl) (dget dL7 56 rfl) (dget dL7 57 rfl) (dget dL7 58 rfl) rfl (nI_add i 4) (by omega) hL ?_
    refine tq_if_eq (tgt := 720) (dget dL7 59 rfl) (by decide) (fun c => absurd c hz) (fun _ => ?_)
    refine tq_iconst (v := 1) (dget dL8 0 rfl) rfl ?_
    refine tq_goto (tgt := 721) (dget dL8 1 rfl) (by decide) ?_
    refine tq_callVi (As := [.int (xs (i + 1)), .int (xs (i + 2)), .int (xs (i + 3)), .int 1]) (rest := [.int v]) (dget dL8 3 rfl) lL_81 miX8_reading h1 rfl rfl rfl rfl (Nat.le_of_ble_eq_true rfl) (Nat.le_of_ble_eq_true rfl) (Nat.le_of_ble_eq_true rfl) hcs (fun w σ2 h2 => ?_)
    obtain ⟨e2, h2⟩ := h2
    exact tq_icmp_eq (tgt := 1162) (dget dL8 4 rfl) (by decide) (fun _ => kk σ2 h2) (fun c => absurd e2.symm c)
theorem lw_c15 {b L : Nat} {xs : Nat → Int32} {cs : Nat × Nat} (hL : L ≤ 3584) (hcs : cs.1 ≤ 600000 ∧ cs.2 ≤ 7302250) {i : Nat} (hi : i + 7 ≤ L) {σ : Mem} (hI : INV σ) (kk : ∀ σ2, INV σ2 → PAt (lwE b L xs cs) mLw 1162 (lwLs i) [] σ2) : PAt (lwE b L xs cs) mLw 729 (lwLs i) [] σ := by
  refine tq_aload_n 2 (dget dL8 7 rfl) rfl rfl ?_
  refine lw_arg (a := 1) (dget dL8 8 rfl) (dget dL8 9 rfl) (dget dL8 10 rfl) (dget dL8 11 rfl) (dget dL8 12 rfl) rfl (nI_add i 1) (by omega) hL ?_
  refine tq_callVi (As := [.int (xs (i + 1))]) (rest := []) (dget dL8 13 rfl) lL_82 miX7_back (t_back hI (xs (i + 1)) (Nat.le_refl 12)) rfl rfl rfl rfl (Nat.le_of_ble_eq_true rfl) (Nat.le_of_ble_eq_true rfl) (Nat.le_of_ble_eq_true rfl) hcs (fun v σ1 h1 => ?_)
  refine tq_aload_n 3 (dget dL8 14 rfl) rfl rfl ?_
  refine lw_arg (a := 1) (dget dL8 15 rfl) (dget dL8 16 rfl) (dget dL8 17 rfl) (dget dL8 18 rfl) (dget dL8 19 rfl) rfl (nI_add i 1) (by omega) hL ?_
  refine tq_callVi (As := [.int (xs (i + 1))]) (rest := [.int v]) (dget dL8 20 rfl) lL_85 miX8_back h1 rfl rfl rfl rfl (Nat.le_of_ble_eq_true rfl) (Nat.le_of_ble_eq_true rfl) (Nat.le_of_ble_eq_true rfl) hcs (fun w σ2 h2 => ?_)
  obtain ⟨e2, h2⟩ := h2
  exact tq_icmp_eq (tgt := 1162) (dget dL8 21 rfl) (by decide) (fun _ => kk σ2 h2) (fun c => absurd e2.symm c)
theorem lw_c16 {b L : Nat} {xs : Nat → Int32} {cs : Nat × Nat} (hL : L ≤ 3584) (hcs : cs.1 ≤ 600000 ∧ cs.2 ≤ 7302250) {i : Nat} (hi : i + 7 ≤ L) {σ : Mem} (hI : INV σ) (kk : ∀ σ2, INV σ2 → PAt (lwE b L xs cs) mLw 1162 (lwLs i) [] σ2) : PAt (lwE b L xs cs) mLw 752 (lwLs i) [] σ := by
  refine tq_aload_n 2 (dget dL8 24 rfl) rfl rfl ?_
  refine lw_arg (a := 1) (dget dL8 25 rfl) (dget dL8 26 rfl) (dget dL8 27 rfl) (dget dL8 28 rfl) (dget dL8 29 rfl) rfl (nI_add i 1) (by omega) hL ?_
  refine lw_arg (a := 2) (dget dL8 30 rfl) (dget dL8 31 rfl) (dget dL8 32 rfl) (dget dL8 33 rfl) (dget dL8 34 rfl) rfl (nI_add i 2) (by omega) hL ?_
  refine lw_arg (a := 3) (dget dL8 35 rfl) (dget dL8 36 rfl) (dget dL8 37 rfl) (dget dL8 38 rfl) (dget dL8 39 rfl) rfl (nI_add i 3) (by omega) hL ?_
  refine tq_callVi (As := [.int (xs (i + 1)), .int (xs (i + 2)), .int (xs (i + 3))]) (rest := []) (dget dL8 40 rfl) lL_86 miX7_learnt (t_learnt hI (xs (i + 1)) (xs (i + 2)) (xs (i + 3)) (Nat.le_refl 12)) rfl rfl rfl rfl (Nat.le_of_ble_eq_true rfl) (Nat.le_of_ble_eq_true rfl) (Nat.le_of_ble_eq_true rfl) hcs (fun v σ1 h1 => ?_)
  refine tq_aload_n 3 (dget dL8 41 rfl) rfl rfl ?_
  refine lw_arg (a := 1) (dget dL8 42 rfl) (dget dL8 43 rfl) (dget dL8 44 rfl) (dget dL8 45 rfl) (dget dL8 46 rfl) rfl (nI_add i 1) (by omega) hL ?_
  refine lw_arg (a := 2) (dget dL8 47 rfl) (dget dL8 48 rfl) (dget dL8 49 rfl) (dget dL8 50 rfl) (dget dL8 51 rfl) rfl (nI_add i 2) (by omega) hL ?_
  refine lw_arg (a := 3) (dget dL8 52 rfl) (dget dL8 53 rfl) (dget dL8 54 rfl) (dget dL8 55 rfl) (dget dL8 56 rfl) rfl (nI_add i 3) (by omega) hL ?_
  refine tq_callVi (As := [.int (xs (i + 1)), .int (xs (i + 2)), .int (xs (i + 3))]) (rest := [.int v]) (dget dL8 57 rfl) lL_89 miX8_learnt h1 rfl rfl rfl rfl (Nat.le_of_ble_eq_true rfl) (Nat.le_of_ble_eq_true rfl) (Nat.le_of_ble_eq_true rfl) hcs (fun w σ2 h2 => ?_)
  obtain ⟨e2, h2⟩ := h2
  exact tq_icmp_eq (tgt := 1162) (dget dL8 58 rfl) (by decide) (fun _ => kk σ2 h2) (fun c => absurd e2.symm c)
theorem lw_c17 {b L : Nat} {xs : Nat → Int32} {cs : Nat × Nat} (hL : L ≤ 3584) (hcs : cs.1 ≤ 600000 ∧ cs.2 ≤ 7302250) {i : Nat} (hi : i + 7 ≤ L) {σ : Mem} (hI : INV σ) (kk : ∀ σ2, INV σ2 → PAt (lwE b L xs cs) mLw 1162 (lwLs i) [] σ2) : PAt (lwE b L xs cs) mLw 795 (lwLs i) [] σ := by
  refine tq_aload_n 2 (dget dL9 1 rfl) rfl rfl ?_
  refine lw_arg (a := 1) (dget dL9 2 rfl) (dget dL9 3 rfl) (dget dL9 4 rfl) (dget dL9 5 rfl) (dget dL9 6 rfl) rfl (nI_add i 1) (by omega) hL ?_
  refine tq_callVi (As := [.int (xs (i + 1))]) (rest := []) (dget dL9 7 rfl) lL_90 miX7_kinds (t_kinds hI (xs (i + 1)) (Nat.le_refl 12)) rfl rfl rfl rfl (Nat.le_of_ble_eq_true rfl) (Nat.le_of_ble_eq_true rfl) (Nat.le_of_ble_eq_true rfl) hcs (fun v σ1 h1 => ?_)
  refine tq_aload_n 3 (dget dL9 8 rfl) rfl rfl ?_
  refine lw_arg (a := 1) (dget dL9 9 rfl) (dget dL9 10 rfl) (dget dL9 11 rfl) (dget dL9 12 rfl) (dget dL9 13 rfl) rfl (nI_add i 1) (by omega) hL ?_
  refine tq_callVi (As := [.int (xs (i + 1))]) (rest := [.int v]) (dget dL9 14 rfl) lL_93 miX8_kinds h1 rfl rfl rfl rfl (Nat.le_of_ble_eq_true rfl) (Nat.le_of_ble_eq_true rfl) (Nat.le_of_ble_eq_true rfl) hcs (fun w σ2 h2 => ?_)
  obtain ⟨e2, h2⟩ := h2
  exact tq_icmp_eq (tgt := 1162) (dget dL9 15 rfl) (by decide) (fun _ => kk σ2 h2) (fun c => absurd e2.symm c)
theorem lw_c18 {b L : Nat} {xs : Nat → Int32} {cs : Nat × Nat} (hL : L ≤ 3584) (hcs : cs.1 ≤ 600000 ∧ cs.2 ≤ 7302250) {i : Nat} (hi : i + 7 ≤ L) {σ : Mem} (hI : INV σ) (kk : ∀ σ2, INV σ2 → PAt (lwE b L xs cs) mLw 1162 (lwLs i) [] σ2) : PAt (lwE b L xs cs) mLw 818 (lwLs i) [] σ := by
  refine tq_aload_n 2 (dget dL9 18 rfl) rfl rfl ?_
  refine lw_arg (a := 1) (dget dL9 19 rfl) (dget dL9 20 rfl) (dget dL9 21 rfl) (dget dL9 22 rfl) (dget dL9 23 rfl) rfl (nI_add i 1) (by omega) hL ?_
  refine lw_arg (a := 2) (dget dL9 24 rfl) (dget dL9 25 rfl) (dget dL9 26 rfl) (dget dL9 27 rfl) (dget dL9 28 rfl) rfl (nI_add i 2) (by omega) hL ?_
  refine lw_arg (a := 3) (dget dL9 29 rfl) (dget dL9 30 rfl) (dget dL9 31 rfl) (dget dL9 32 rfl) (dget dL9 33 rfl) rfl (nI_add i 3) (by omega) hL ?_
  refine tq_callVi (As := [.int (xs (i + 1)), .int (xs (i + 2)), .int (xs (i + 3))]) (rest := []) (dget dL9 34 rfl) lL_94 miX7_sheet (t_sheet hI (xs (i + 1)) (xs (i + 2)) (xs (i + 3)) (Nat.le_refl 12)) rfl rfl rfl rfl (Nat.le_of_ble_eq_true rfl) (Nat.le_of_ble_eq_true rfl) (Nat.le_of_ble_eq_true rfl) hcs (fun v σ1 h1 => ?_)
  refine tq_aload_n 3 (dget dL9 35 rfl) rfl rfl ?_
  refine lw_arg (a := 1) (dget dL9 36 rfl) (dget dL9 37 rfl) (dget dL9 38 rfl) (dget dL9 39 rfl) (dget dL9 40 rfl) rfl (nI_add i 1) (by omega) hL ?_
  refine lw_arg (a := 2) (dget dL9 41 rfl) (dget dL9 42 rfl) (dget dL9 43 rfl) (dget dL9 44 rfl) (dget dL9 45 rfl) rfl (nI_add i 2) (by omega) hL ?_
  refine lw_arg (a := 3) (dget dL9 46 rfl) (dget dL9 47 rfl) (dget dL9 48 rfl) (dget dL9 49 rfl) (dget dL9 50 rfl) rfl (nI_add i 3) (by omega) hL ?_
  refine tq_callVi (As := [.int (xs (i + 1)), .int (xs (i + 2)), .int (xs (i + 3))]) (rest := [.int v]) (dget dL9 51 rfl) lL_97 miX8_sheet h1 rfl rfl rfl rfl (Nat.le_of_ble_eq_true rfl) (Nat.le_of_ble_eq_true rfl) (Nat.le_of_ble_eq_true rfl) hcs (fun w σ2 h2 => ?_)
  obtain ⟨e2, h2⟩ := h2
  exact tq_icmp_eq (tgt := 1162) (dget dL9 52 rfl) (by decide) (fun _ => kk σ2 h2) (fun c => absurd e2.symm c)
theorem lw_c19 {b L : Nat} {xs : Nat → Int32} {cs : Nat × Nat} (hL : L ≤ 3584) (hcs : cs.1 ≤ 600000 ∧ cs.2 ≤ 7302250) {i : Nat} (hi : i + 7 ≤ L) {σ : Mem} (hI : INV σ) (kk : ∀ σ2, INV σ2 → PAt (lwE b L xs cs) mLw 1162 (lwLs i) [] σ2) : PAt (lwE b L xs cs) mLw 861 (lwLs i) [] σ := by
  refine tq_aload_n 2 (dget dL9 55 rfl) rfl rfl ?_
  refine lw_arg (a := 1) (dget dL9 56 rfl) (dget dL9 57 rfl) (dget dL9 58 rfl) (dget dL9 59 rfl) (dget dL10 0 rfl) rfl (nI_add i 1) (by omega) hL ?_
  refine tq_callVi (As := [.int (xs (i + 1))]) (rest := []) (dget dL10 1 rfl) lL_98 miX7_lose (t_lose hI (xs (i + 1)) (Nat.le_refl 12)) rfl rfl rfl rfl (Nat.le_of_ble_eq_true rfl) (Nat.le_of_ble_eq_true rfl) (Nat.le_of_ble_eq_true rfl) hcs (fun v σ1 h1 => ?_)
  refine tq_aload_n 3 (dget dL10 2 rfl) rfl rfl ?_
  refine lw_arg (a := 1) (dget dL10 3 rfl) (dget dL10 4 rfl) (dget dL10 5 rfl) (dget dL10 6 rfl) (dget dL10 7 rfl) rfl (nI_add i 1) (by omega) hL ?_
  refine tq_callVi (As := [.int (xs (i + 1))]) (rest := [.int v]) (dget dL10 8 rfl) lL_101 miX8_lose h1 rfl rfl rfl rfl (Nat.le_of_ble_eq_true rfl) (Nat.le_of_ble_eq_true rfl) (Nat.le_of_ble_eq_true rfl) hcs (fun w σ2 h2 => ?_)
  obtain ⟨e2, h2⟩ := h2
  exact tq_icmp_eq (tgt := 1162) (dget dL10 9 rfl) (by decide) (fun _ => kk σ2 h2) (fun c => absurd e2.symm c)
theorem lw_c20 {b L : Nat} {xs : Nat → Int32} {cs : Nat × Nat} (hL : L ≤ 3584) (hcs : cs.1 ≤ 600000 ∧ cs.2 ≤ 7302250) {i : Nat} (hi : i + 7 ≤ L) {σ : Mem} (hI : INV σ) (kk : ∀ σ2, INV σ2 → PAt (lwE b L xs cs) mLw 1162 (lwLs i) [] σ2) : PAt (lwE b L xs cs) mLw 884 (lwLs i) [] σ := by
  refine tq_aload_n 2 (dget dL10 12 rfl) rfl rfl ?_
  refine lw_arg (a := 1) (dget dL10 13 rfl) (dget dL10 14 rfl) (dget dL10 15 rfl) (dget dL10 16 rfl) (dget dL10 17 rfl) rfl (nI_add i 1) (by omega) hL ?_
  refine lw_arg (a := 2) (dget dL10 18 rfl) (dget dL10 19 rfl) (dget dL10 20 rfl) (dget dL10 21 rfl) (dget dL10 22 rfl) rfl (nI_add i 2) (by omega) hL ?_
  refine lw_arg (a := 3) (dget dL10 23 rfl) (dget dL10 24 rfl) (dget dL10 25 rfl) (dget dL10 26 rfl) (dget dL10 27 rfl) rfl (nI_add i 3) (by omega) hL ?_
  refine tq_callVi (As := [.int (xs (i + 1)), .int (xs (i + 2)), .int (xs (i + 3))]) (rest := []) (dget dL10 28 rfl) lL_102 miX7_put (t_put hI (xs (i + 1)) (xs (i + 2)) (xs (i + 3)) (Nat.le_refl 12)) rfl rfl rfl rfl (Nat.le_of_ble_eq_true rfl) (Nat.le_of_ble_eq_true rfl) (Nat.le_of_ble_eq_true rfl) hcs (fun v σ1 h1 => ?_)
  refine tq_aload_n 3 (dget dL10 29 rfl) rfl rfl ?_
  refine lw_arg (a := 1) (dget dL10 30 rfl) (dget dL10 31 rfl) (dget dL10 32 rfl) (dget dL10 33 rfl) (dget dL10 34 rfl) rfl (nI_add i 1) (by omega) hL ?_
  refine lw_arg (a := 2) (dget dL10 35 rfl) (dget dL10 36 rfl) (dget dL10 37 rfl) (dget dL10 38 rfl) (dget dL10 39 rfl) rfl (nI_add i 2) (by omega) hL ?_
  refine lw_arg (a := 3) (dget dL10 40 rfl) (dget dL10 41 rfl) (dget dL10 42 rfl) (dget dL10 43 rfl) (dget dL10 44 rfl) rfl (nI_add i 3) (by omega) hL ?_
  refine tq_callVi (As := [.int (xs (i + 1)), .int (xs (i + 2)), .int (xs (i + 3))]) (rest := [.int v]) (dget dL10 45 rfl) lL_105 miX8_put h1 rfl rfl rfl rfl (Nat.le_of_ble_eq_true rfl) (Nat.le_of_ble_eq_true rfl) (Nat.le_of_ble_eq_true rfl) hcs (fun w σ2 h2 => ?_)
  obtain ⟨e2, h2⟩ := h2
  exact tq_icmp_eq (tgt := 1162) (dget dL10 46 rfl) (by decide) (fun _ => kk σ2 h2) (fun c => absurd e2.symm c)
theorem lw_c21 {b L : Nat} {xs : Nat → Int32} {cs : Nat × Nat} (hL : L ≤ 3584) (hcs : cs.1 ≤ 600000 ∧ cs.2 ≤ 7302250) {i : Nat} (hi : i + 7 ≤ L) {σ : Mem} (hI : INV σ) (kk : ∀ σ2, INV σ2 → PAt (lwE b L xs cs) mLw 1162 (lwLs i) [] σ2) : PAt (lwE b L xs cs) mLw 927 (lwLs i) [] σ := by
  refine tq_aload_n 2 (dget dL10 49 rfl) rfl rfl ?_
  refine lw_arg (a := 1) (dget dL10 50 rfl) (dget dL10 51 rfl) (dget dL10 52 rfl) (dget dL10 53 rfl) (dget dL10 54 rfl) rfl (nI_add i 1) (by omega) hL ?_
  refine lw_arg (a := 2) (dget dL10 55 rfl) (dget dL10 56 rfl) (dget dL10 57 rfl) (dget dL10 58 rfl) (dget dL10 59 rfl) rfl (nI_add i 2) (by omega) hL ?_
  refine lw_arg (a := 3) (dget dL11 0 rfl) (dget dL11 1 rfl) (dget dL11 2 rfl) (dget dL11 3 rfl) (dget dL11 4 rfl) rfl (nI_add i 3) (by omega) hL ?_
  refine tq_callVl (As := [.int (xs (i + 1)), .int (xs (i + 2)), .int (xs (i + 3))]) (rest := []) (dget dL11 5 rfl) lL_106 miX7_cell (t_cell hI (xs (i + 1)) (xs (i + 2)) (xs (i + 3)) (Nat.le_refl 12)) rfl rfl rfl rfl (Nat.le_of_ble_eq_true rfl) (Nat.le_of_ble_eq_true rfl) (Nat.le_of_ble_eq_true rfl) hcs (fun v σ1 h1 => ?_)
  refine tq_aload_n 3 (dget dL11 6 rfl) rfl rfl ?_
  refine lw_arg (a := 1) (dget dL11 7 rfl) (dget dL11 8 rfl) (dget dL11 9 rfl) (dget dL11 10 rfl) (dget dL11 11 rfl) rfl (nI_add i 1) (by omega) hL ?_
  refine lw_arg (a := 2) (dget dL11 12 rfl) (dget dL11 13 rfl) (dget dL11 14 rfl) (dget dL11 15 rfl) (dget dL11 16 rfl) rfl (nI_add i 2) (by omega) hL ?_
  refine lw_arg (a := 3) (dget dL11 17 rfl) (dget dL11 18 rfl) (dget dL11 19 rfl) (dget dL11 20 rfl) (dget dL11 21 rfl) rfl (nI_add i 3) (by omega) hL ?_
  refine tq_callVl (As := [.int (xs (i + 1)), .int (xs (i + 2)), .int (xs (i + 3))]) (rest := [.long v]) (dget dL11 22 rfl) lL_110 miX8_cell h1 rfl rfl rfl rfl (Nat.le_of_ble_eq_true rfl) (Nat.le_of_ble_eq_true rfl) (Nat.le_of_ble_eq_true rfl) hcs (fun w σ2 h2 => ?_)
  obtain ⟨e2, h2⟩ := h2
  refine tq_lcmp (dget dL11 23 rfl) ?_
  exact tq_if_eq (tgt := 1162) (dget dL11 24 rfl) (by decide) (fun _ => kk σ2 h2) (fun c => absurd (lw_cmp e2.symm) c)
theorem lw_c22 {b L : Nat} {xs : Nat → Int32} {cs : Nat × Nat} (hL : L ≤ 3584) (hcs : cs.1 ≤ 600000 ∧ cs.2 ≤ 7302250) {i : Nat} (hi : i + 7 ≤ L) {σ : Mem} (hI : INV σ) (kk : ∀ σ2, INV σ2 → PAt (lwE b L xs cs) mLw 1162 (lwLs i) [] σ2) : PAt (lwE b L xs cs) mLw 971 (lwLs i) [] σ := by
  refine tq_aload_n 2 (dget dL11 27 rfl) rfl rfl ?_
  refine lw_arg (a := 1) (dget dL11 28 rfl) (dget dL11 29 rfl) (dget dL11 30 rfl) (dget dL11 31 rfl) (dget dL11 32 rfl) rfl (nI_add i 1) (by omega) hL ?_
  refine lw_arg (a := 2) (dget dL11 33 rfl) (dget dL11 34 rfl) (dget dL11 35 rfl) (dget dL11 36 rfl) (dget dL11 37 rfl) rfl (nI_add i 2) (by omega) hL ?_
  refine lw_arg (a := 3) (dget dL11 38 rfl) (dget dL11 39 rfl) (dget dL11 40 rfl) (dget dL11 41 rfl) (dget dL11 42 rfl) rfl (nI_add i 3) (by omega) hL ?_
  refine lw_arg (a := 4) (dget dL11 43 rfl) (dget dL11 44 rfl) (dget dL11 45 rfl) (dget dL11 46 rfl) (dget dL11 47 rfl) rfl (nI_add i 4) (by omega) hL ?_
  refine lw_arg (a := 5) (dget dL11 48 rfl) (dget dL11 49 rfl) (dget dL11 50 rfl) (dget dL11 51 rfl) (dget dL11 52 rfl) rfl (nI_add i 5) (by omega) hL ?_
  refine tq_callVi (As := [.int (xs (i + 1)), .int (xs (i + 2)), .int (xs (i + 3)), .int (xs (i + 4)), .int (xs (i + 5))]) (rest := []) (dget dL11 53 rfl) lL_111 miX7_copy (t_copy hI (xs (i + 1)) (xs (i + 2)) (xs (i + 3)) (xs (i + 4)) (xs (i + 5)) (Nat.le_refl 12)) rfl rfl rfl rfl (Nat.le_of_ble_eq_true rfl) (Nat.le_of_ble_eq_true rfl) (Nat.le_of_ble_eq_true rfl) hcs (fun v σ1 h1 => ?_)
  refine tq_aload_n 3 (dget dL11 54 rfl) rfl rfl ?_
  refine lw_arg (a := 1) (dget dL11 55 rfl) (dget dL11 56 rfl) (dget dL11 57 rfl) (dget dL11 58 rfl) (dget dL11 59 rfl) rfl (nI_add i 1) (by omega) hL ?_
  refine lw_arg (a := 2) (dget dL12 0 rfl) (dget dL12 1 rfl) (dget dL12 2 rfl) (dget dL12 3 rfl) (dget dL12 4 rfl) rfl (nI_add i 2) (by omega) hL ?_
  refine lw_arg (a := 3) (dget dL12 5 rfl) (dget dL12 6 rfl) (dget dL12 7 rfl) (dget dL12 8 rfl) (dget dL12 9 rfl) rfl (nI_add i 3) (by omega) hL ?_
  refine lw_arg (a := 4) (dget dL12 10 rfl) (dget dL12 11 rfl) (dget dL12 12 rfl) (dget dL12 13 rfl) (dget dL12 14 rfl) rfl (nI_add i 4) (by omega) hL ?_
  refine lw_arg (a := 5) (dget dL12 15 rfl) (dget dL12 16 rfl) (dget dL12 17 rfl) (dget dL12 18 rfl) (dget dL12 19 rfl) rfl (nI_add i 5) (by omega) hL ?_
  refine tq_callVi (As := [.int (xs (i + 1)), .int (xs (i + 2)), .int (xs (i + 3)), .int (xs (i + 4)), .int (xs (i + 5))]) (rest := [.int v]) (dget dL12 20 rfl) lL_115 miX8_copy h1 rfl rfl rfl rfl (Nat.le_of_ble_eq_true rfl) (Nat.le_of_ble_eq_true rfl) (Nat.le_of_ble_eq_true rfl) hcs (fun w σ2 h2 => ?_)
  obtain ⟨e2, h2⟩ := h2
  exact tq_icmp_eq (tgt := 1162) (dget dL12 21 rfl) (by decide) (fun _ => kk σ2 h2) (fun c => absurd e2.symm c)
theorem lw_c23 {b L : Nat} {xs : Nat → Int32} {cs : Nat × Nat} (hL : L ≤ 3584) (hcs : cs.1 ≤ 600000 ∧ cs.2 ≤ 7302250) {i : Nat} (hi : i + 7 ≤ L) {σ : Mem} (hI : INV σ) (kk : ∀ σ2, INV σ2 → PAt (lwE b L xs cs) mLw 1162 (lwLs i) [] σ2) : PAt (lwE b L xs cs) mLw 1034 (lwLs i) [] σ := by
  refine tq_aload_n 2 (dget dL12 24 rfl) rfl rfl ?_
  refine lw_arg (a := 1) (dget dL12 25 rfl) (dget dL12 26 rfl) (dget dL12 27 rfl) (dget dL12 28 rfl) (dget dL12 29 rfl) rfl (nI_add i 1) (by omega) hL ?_
  refine tq_callVi (As := [.int (xs (i + 1))]) (rest := []) (dget dL12 30 rfl) lL_116 miX7_tell (t_tell hI (xs (i + 1)) (Nat.le_refl 12)) rfl rfl rfl rfl (Nat.le_of_ble_eq_true rfl) (Nat.le_of_ble_eq_true rfl) (Nat.le_of_ble_eq_true rfl) hcs (fun v σ1 h1 => ?_)
  refine tq_aload_n 3 (dget dL12 31 rfl) rfl rfl ?_
  refine lw_arg (a := 1) (dget dL12 32 rfl) (dget dL12 33 rfl) (dget dL12 34 rfl) (dget dL12 35 rfl) (dget dL12 36 rfl) rfl (nI_add i 1) (by omega) hL ?_
  refine tq_callVi (As := [.int (xs (i + 1))]) (rest := [.int v]) (dget dL12 37 rfl) lL_119 miX8_tell h1 rfl rfl rfl rfl (Nat.le_of_ble_eq_true rfl) (Nat.le_of_ble_eq_true rfl) (Nat.le_of_ble_eq_true rfl) hcs (fun w σ2 h2 => ?_)
  obtain ⟨e2, h2⟩ := h2
  exact tq_icmp_eq (tgt := 1162) (dget dL12 38 rfl) (by decide) (fun _ => kk σ2 h2) (fun c => absurd e2.symm c)
theorem lw_c24 {b L : Nat} {xs : Nat → Int32} {cs : Nat × Nat} (hL : L ≤ 3584) (hcs : cs.1 ≤ 600000 ∧ cs.2 ≤ 7302250) {i : Nat} (hi : i + 7 ≤ L) {σ : Mem} (hI : INV σ) (kk : ∀ σ2, INV σ2 → PAt (lwE b L xs cs) mLw 1162 (lwLs i) [] σ2) : PAt (lwE b L xs cs) mLw 1057 (lwLs i) [] σ := by
  refine tq_aload_n 2 (dget dL12 41 rfl) rfl rfl ?_
  refine lw_arg (a := 1) (dget dL12 42 rfl) (dget dL12 43 rfl) (dget dL12 44 rfl) (dget dL12 45 rfl) (dget dL12 46 rfl) rfl (nI_add i 1) (by omega) hL ?_
  refine tq_callVi (As := [.int (xs (i + 1))]) (rest := []) (dget dL12 47 rfl) lL_120 miX7_greet (t_greet hI (xs (i + 1)) (Nat.le_refl 12)) rfl rfl rfl rfl (Nat.le_of_ble_eq_true rfl) (Nat.le_of_ble_eq_true rfl) (Nat.le_of_ble_eq_true rfl) hcs (fun v σ1 h1 => ?_)
  refine tq_aload_n 3 (dget dL12 48 rfl) rfl rfl ?_
  refine lw_arg (a := 1) (dget dL12 49 rfl) (dget dL12 50 rfl) (dget dL12 51 rfl) (dget dL12 52 rfl) (dget dL12 53 rfl) rfl (nI_add i 1) (by omega) hL ?_
  refine tq_callVi (As := [.int (xs (i + 1))]) (rest := [.int v]) (dget dL12 54 rfl) lL_123 miX8_greet h1 rfl rfl rfl rfl (Nat.le_of_ble_eq_true rfl) (Nat.le_of_ble_eq_true rfl) (Nat.le_of_ble_eq_true rfl) hcs (fun w σ2 h2 => ?_)
  obtain ⟨e2, h2⟩ := h2
  exact tq_icmp_eq (tgt := 1162) (dget dL12 55 rfl) (by decide) (fun _ => kk σ2 h2) (fun c => absurd e2.symm c)
theorem lw_c25 {b L : Nat} {xs : Nat → Int32} {cs : Nat × Nat} (hL : L ≤ 3584) (hcs : cs.1 ≤ 600000 ∧ cs.2 ≤ 7302250) {i : Nat} (hi : i + 7 ≤ L) {σ : Mem} (hI : INV σ) (kk : ∀ σ2, INV σ2 → PAt (lwE b L xs cs) mLw 1162 (lwLs i) [] σ2) : PAt (lwE b L xs cs) mLw 1080 (lwLs i) [] σ := by
  refine tq_aload_n 2 (dget dL12 58 rfl) rfl rfl ?_
  refine lw_arg (a := 1) (dget dL12 59 rfl) (dget dL13 0 rfl) (dget dL13 1 rfl) (dget dL13 2 rfl) (dget dL13 3 rfl) rfl (nI_add i 1) (by omega) hL ?_
  refine lw_arg (a := 2) (dget dL13 4 rfl) (dget dL13 5 rfl) (dget dL13 6 rfl) (dget dL13 7 rfl) (dget dL13 8 rfl) rfl (nI_add i 2) (by omega) hL ?_
  refine tq_callVi (As := [.int (xs (i + 1)), .int (xs (i + 2))]) (rest := []) (dget dL13 9 rfl) lL_124 miX7_as (t_as hI (xs (i + 1)) (xs (i + 2)) (Nat.le_refl 12)) rfl rfl rfl rfl (Nat.le_of_ble_eq_true rfl) (Nat.le_of_ble_eq_true rfl) (Nat.le_of_ble_eq_true rfl) hcs (fun v σ1 h1 => ?_)
  refine tq_aload_n 3 (dget dL13 10 rfl) rfl rfl ?_
  refine lw_arg (a := 1) (dget dL13 11 rfl) (dget dL13 12 rfl) (dget dL13 13 rfl) (dget dL13 14 rfl) (dget dL13 15 rfl) rfl (nI_add i 1) (by omega) hL ?_
  refine lw_arg (a := 2) (dget dL13 16 rfl) (dget dL13 17 rfl) (dget dL13 18 rfl) (dget dL13 19 rfl) (dget dL13 20 rfl) rfl (nI_add i 2) (by omega) hL ?_
  refine tq_callVi (As := [.int (xs (i + 1)), .int (xs (i + 2))]) (rest := [.int v]) (dget dL13 21 rfl) lL_127 miX8_as h1 rfl rfl rfl rfl (Nat.le_of_ble_eq_true rfl) (Nat.le_of_ble_eq_true rfl) (Nat.le_of_ble_eq_true rfl) hcs (fun w σ2 h2 => ?_)
  obtain ⟨e2, h2⟩ := h2
  exact tq_icmp_eq (tgt := 1162) (dget dL13 22 rfl) (by decide) (fun _ => kk σ2 h2) (fun c => absurd e2.symm c)
theorem lw_c26 {b L : Nat} {xs : Nat → Int32} {cs : Nat × Nat} (hL : L ≤ 3584) (hcs : cs.1 ≤ 600000 ∧ cs.2 ≤ 7302250) {i : Nat} (hi : i + 7 ≤ L) {σ : Mem} (hI : INV σ) (kk : ∀ σ2, INV σ2 → PAt (lwE b L xs cs) mLw 1162 (lwLs i) [] σ2) : PAt (lwE b L xs cs) mLw 1113 (lwLs i) [] σ := by
  refine tq_aload_n 2 (dget dL13 25 rfl) rfl rfl ?_
  refine tq_callVi (As := []) (rest := []) (dget dL13 26 rfl) lL_128 miX7_trace (t_trace hI (Nat.le_refl 12)) rfl rfl rfl rfl (Nat.le_of_ble_eq_true rfl) (Nat.le_of_ble_eq_true rfl) (Nat.le_of_ble_eq_true rfl) hcs (fun v σ1 h1 => ?_)
  refine tq_aload_n 3 (dget dL13 27 rfl) rfl rfl ?_
  refine tq_callVi (As := []) (rest := [.int v]) (dget dL13 28 rfl) lL_131 miX8_trace h1 rfl rfl rfl rfl (Nat.le_of_ble_eq_true rfl) (Nat.le_of_ble_eq_true rfl) (Nat.le_of_ble_eq_true rfl) hcs (fun w σ2 h2 => ?_)
  obtain ⟨e2, h2⟩ := h2
  exact tq_icmp_eq (tgt := 1162) (dget dL13 29 rfl) (by decide) (fun _ => kk σ2 h2) (fun c => absurd e2.symm c)
theorem lw_c27 {b L : Nat} {xs : Nat → Int32} {cs : Nat × Nat} (hL : L ≤ 3584) (hcs : cs.1 ≤ 600000 ∧ cs.2 ≤ 7302250) {i : Nat} (hi : i + 7 ≤ L) {σ : Mem} (hI : INV σ) (kk : ∀ σ2, INV σ2 → PAt (lwE b L xs cs) mLw 1162 (lwLs i) [] σ2) : PAt (lwE b L xs cs) mLw 1126 (lwLs i) [] σ := by
  refine tq_aload_n 2 (dget dL13 32 rfl) rfl rfl ?_
  refine tq_callVi (As := []) (rest := []) (dget dL13 33 rfl) lL_132 miX7_fault (t_fault hI (Nat.le_refl 12)) rfl rfl rfl rfl (Nat.le_of_ble_eq_true rfl) (Nat.le_of_ble_eq_true rfl) (Nat.le_of_ble_eq_true rfl) hcs (fun v σ1 h1 => ?_)
  refine tq_aload_n 3 (dget dL13 34 rfl) rfl rfl ?_
  refine tq_callVi (As := []) (rest := [.int v]) (dget dL13 35 rfl) lL_135 miX8_fault h1 rfl rfl rfl rfl (Nat.le_of_ble_eq_true rfl) (Nat.le_of_ble_eq_true rfl) (Nat.le_of_ble_eq_true rfl) hcs (fun w σ2 h2 => ?_)
  obtain ⟨e2, h2⟩ := h2
  exact tq_icmp_eq (tgt := 1162) (dget dL13 36 rfl) (by decide) (fun _ => kk σ2 h2) (fun c => absurd e2.symm c)
theorem lw_c28 {b L : Nat} {xs : Nat → Int32} {cs : Nat × Nat} (hL : L ≤ 3584) (hcs : cs.1 ≤ 600000 ∧ cs.2 ≤ 7302250) {i : Nat} (hi : i + 7 ≤ L) {σ : Mem} (hI : INV σ) (kk : ∀ σ2, INV σ2 → PAt (lwE b L xs cs) mLw 1162 (lwLs i) [] σ2) : PAt (lwE b L xs cs) mLw 1139 (lwLs i) [] σ := by
  refine tq_aload_n 2 (dget dL13 39 rfl) rfl rfl ?_
  refine lw_arg (a := 1) (dget dL13 40 rfl) (dget dL13 41 rfl) (dget dL13 42 rfl) (dget dL13 43 rfl) (dget dL13 44 rfl) rfl (nI_add i 1) (by omega) hL ?_
  refine tq_callVi (As := [.int (xs (i + 1))]) (rest := []) (dget dL13 45 rfl) lL_136 miX7_many (t_many hI (xs (i + 1)) (Nat.le_refl 12)) rfl rfl rfl rfl (Nat.le_of_ble_eq_true rfl) (Nat.le_of_ble_eq_true rfl) (Nat.le_of_ble_eq_true rfl) hcs (fun v σ1 h1 => ?_)
  refine tq_aload_n 3 (dget dL13 46 rfl) rfl rfl ?_
  refine lw_arg (a := 1) (dget dL13 47 rfl) (dget dL13 48 rfl) (dget dL13 49 rfl) (dget dL13 50 rfl) (dget dL13 51 rfl) rfl (nI_add i 1) (by omega) hL ?_
  refine tq_callVi (As := [.int (xs (i + 1))]) (rest := [.int v]) (dget dL13 52 rfl) lL_139 miX8_many h1 rfl rfl rfl rfl (Nat.le_of_ble_eq_true rfl) (Nat.le_of_ble_eq_true rfl) (Nat.le_of_ble_eq_true rfl) hcs (fun w σ2 h2 => ?_)
  obtain ⟨e2, h2⟩ := h2
  exact tq_icmp_eq (tgt := 1162) (dget dL13 53 rfl) (by decide) (fun _ => kk σ2 h2) (fun c => absurd e2.symm c)

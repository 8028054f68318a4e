/-! ===== the reference (13): a whole text; the call valley ===== -/
theorem hd_1 {c : Nat → Int32} {N : Nat} : fgP c N 1 1 6 ↔ (1 < N ∧ hdP 1 (c 1)) := by
  unfold fgP hdP
  rw [if_neg (by decide), if_pos rfl]
  refine ⟨fun q => ⟨q.1, q.2.1, Int32.lt_of_le_of_lt q.2.2 (by decide)⟩, fun q => ⟨q.1, q.2.1, ?_⟩⟩
  obtain ⟨j, e, h1, h2⟩ := dig (a := 49) (b := 55) (by decide) (by decide) q.2.1 q.2.2
  rw [e]
  exact nI_le (by omega) (by omega)
theorem hd_2 {c : Nat → Int32} {N : Nat} : fgP c N 2 1 4 ↔ (2 < N ∧ hdP 2 (c 2)) := by
  unfold fgP hdP
  rw [if_neg (by decide), if_neg (by decide)]
  refine ⟨fun q => ⟨q.1, q.2.1, Int32.lt_of_le_of_lt q.2.2 (by decide)⟩, fun q => ⟨q.1, q.2.1, ?_⟩⟩
  obtain ⟨j, e, h1, h2⟩ := dig (a := 49) (b := 53) (by decide) (by decide) q.2.1 q.2.2
  rw [e]
  exact nI_le (by omega) (by omega)
theorem hd_0 {c : Int32} : hdP 0 c ↔ c = 121 := by
  unfold hdP
  rw [if_pos rfl]
theorem hI1 {c : Nat → Int32} {N : Nat} (h : 0 < N ∧ hdP 0 (c 0)) (j : Nat) (hj : j < 1) : j < N ∧ hdP j (c j) := by
  rcases (show j = 0 by omega) with rfl
  exact h
theorem hI2 {c : Nat → Int32} {N : Nat} (h : 0 < N ∧ hdP 0 (c 0)) (h1 : 1 < N ∧ hdP 1 (c 1)) (j : Nat) (hj : j < 2) : j < N ∧ hdP j (c j) := by
  rcases (show j = 0 ∨ j = 1 by omega) with rfl | rfl
  · exact h
  · exact h1
theorem hI3 {c : Nat → Int32} {N : Nat} (h : 0 < N ∧ hdP 0 (c 0)) (h1 : 1 < N ∧ hdP 1 (c 1)) (h2 : 2 < N ∧ hdP 2 (c 2)) (j : Nat) (hj : j < 3) : j < N ∧ hdP j (c j) := by
  rcases (show j = 0 ∨ j = 1 ∨ j = 2 by omega) with rfl | rfl | rfl
  · exact h
  · exact h1
  · exact h2

set_option maxHeartbeats 4000000 in
set_option maxRecDepth 20000 in
theorem k_readsValley (σ : Mem) (c : Nat → Int32) (F N : Nat) (hFN : F + N ≤ 400) (hN : N ≤ 100) (hc : ∀ j, σ 61 (F + j) = c j) (d : Nat) (hd : 3 ≤ d) : PMet d mX8_readsValley [.ref 42, .int (nI F), .int (nI N)] σ (Pi (fun v σ2 => rvQ σ c N v σ2)) := by
  obtain ⟨d, rfl⟩ : ∃ e, d = e + 1 := ⟨d - 1, by omega⟩
  refine PMet.start (ls0 := [(0, .ref 42), (1, .int (nI F)), (2, .int (nI N))]) miX8_readsValley.1 (Nat.le_of_ble_eq_true rfl) rfl ?_
  refine tq_aload_n 0 (dget dX8_readsValley 0 rfl) rfl rfl ?_
  refine tq_iconst (v := 0) (dget dX8_readsValley 1 rfl) rfl ?_
  refine tq_putI (dget dX8_readsValley 2 rfl) fX8_91 rfl rfl rfl rfl ?_
  refine tq_mem (σ' := up σ 42 7 (nI 0)) rfl ?_
  refine tq_aload_n 0 (dget dX8_readsValley 3 rfl) rfl rfl ?_
  refine tq_iload_n 1 (dget dX8_readsValley 4 rfl) rfl rfl ?_
  refine tq_iload_n 2 (dget dX8_readsValley 5 rfl) rfl rfl ?_
  refine mq_Vi (As := [.int (nI F), .int (nI N)]) (rest := []) (dget dX8_readsValley 6 rfl) lX8_94 miX8_codeAt (k_codeAt (up σ 42 7 (nI 0)) c F N hFN hN (0) (by omega) (((RW.rf σ).up7 _).c61 hc) up_s d (by omega)) rfl rfl rfl rfl (Nat.le_of_ble_eq_true rfl) (Nat.le_of_ble_eq_true rfl) (fun r_8 σ_8 h_8 => ?_)
  obtain ⟨a_8, e_8⟩ := h_8
  obtain rfl := a_8.symm
  obtain rfl := e_8.symm
  refine tq_bipush (v := 121) (dget dX8_readsValley 7 rfl) rfl ?_
  refine tq_icmp_ne (tgt := 20) (dget dX8_readsValley 8 rfl) (by decide) (fun c_13 => ?_) (fun c_13 => ?_)
  · have hH0 : ¬ (0 < N ∧ hdP 0 (c 0)) := fun q => c_13 ((cd_of q.1).trans (hd_0.mp q.2))
    refine tq_iconst (v := 0) (dget dX8_readsValley 11 rfl) rfl ?_
    refine tq_istore_n (ls2 := [(3, .int 0), (0, .ref 42), (1, .int (nI F)), (2, .int (nI N))]) (dget dX8_readsValley 12 rfl) rfl (by decide) rfl ?_
    refine tq_aload_n 1 (dget dX8_readsValley 13 rfl) rfl rfl ?_
    refine tq_dup (dget dX8_readsValley 14 rfl) rfl ?_
    refine tq_getI (dget dX8_readsValley 15 rfl) fX8_91 rfl rfl ?_
    refine tq_eqi (y := (nI 0)) up_s ?_
    refine tq_iload_n 0 (dget dX8_readsValley 16 rfl) rfl rfl ?_
    refine tq_if_eq (tgt := 35) (dget dX8_readsValley 17 rfl) (by decide) (fun c_28 => ?_) (fun c_28 => ?_)
    · refine tq_iconst (v := 0) (dget dX8_readsValley 20 rfl) rfl ?_
      refine tq_iadd (dget dX8_readsValley 21 rfl) ?_
      refine tq_eqi (y := (nI (0 + 0))) (nI_add (0) (0)) ?_
      refine tq_putI (dget dX8_readsValley 22 rfl) fX8_91 rfl rfl rfl rfl ?_
      refine tq_aload_n 1 (dget dX8_readsValley 23 rfl) rfl rfl ?_
      refine tq_iload_n 0 (dget dX8_readsValley 24 rfl) rfl rfl ?_
      refine tq_if_eq (tgt := 57) (dget dX8_readsValley 25 rfl) (by decide) (fun c_42 => ?_) (fun c_42 => ?_)
      · refine tq_bipush (v := (-9)) (dget dX8_readsValley 33 rfl) rfl ?_
        refine tq_putI (dget dX8_readsValley 34 rfl) fX8_102 rfl rfl rfl rfl ?_
        refine tq_aload_n 1 (dget dX8_readsValley 35 rfl) rfl rfl ?_
        refine tq_aload_n 1 (dget dX8_readsValley 36 rfl) rfl rfl ?_
        refine tq_getI (dget dX8_readsValley 37 rfl) fX8_102 rfl rfl ?_
        refine tq_eqi (y := (-9)) up_s ?_
        refine tq_if_le (tgt := 81) (dget dX8_readsValley 38 rfl) (by decide) (fun c_67 => ?_) (fun c_67 => ?_)
        · refine tq_bipush (v := (-9)) (dget dX8_readsValley 46 rfl) rfl ?_
          refine tq_putI (dget dX8_readsValley 47 rfl) fX8_109 rfl rfl rfl rfl ?_
          refine tq_aload_n 1 (dget dX8_readsValley 48 rfl) rfl rfl ?_
          refine tq_getI (dget dX8_readsValley 49 rfl) fX8_109 rfl rfl ?_
          refine tq_eqi (y := (-9)) up_s ?_
          refine tq_if_le (tgt := 97) (dget dX8_readsValley 50 rfl) (by decide) (fun c_90 => ?_) (fun c_90 => ?_)
          · refine tq_iconst (v := 0) (dget dX8_readsValley 53 rfl) rfl ?_
            refine tq_istore_n (ls2 := [(3, .int 0), (0, .ref 42), (1, .int (nI F)), (2, .int (nI N))]) (dget dX8_readsValley 54 rfl) rfl (by decide) rfl ?_
            refine tq_iconst (v := 0) (dget dX8_readsValley 55 rfl) rfl ?_
            refine tq_istore (ls2 := [(4, .int 0), (3, .int 0), (0, .ref 42), (1, .int (nI F)), (2, .int (nI N))]) (dget dX8_readsValley 56 rfl) (by decide) rfl ?_
            refine tq_sub [0, 1, 2, 3, 4] (ls' := [(4, .int (nI 0)), (3, .int 0), (0, .ref 42), (1, .int (nI F)), (2, .int (nI N))]) rfl ?_
            exact k_rv1 σ c F N hFN hN 1 1 (by omega) (by omega) hc (d + 1) (by omega) 2 0 _ _ (by omega) (by omega) (Or.inr ⟨rfl, rv_head (((((RW.rf σ).upF 7 _ (by omega)).upF 7 _ (by omega)).upF 8 _ (by omega)).upF 9 _ (by omega)) ((up_n (by omega)).trans ((up_n (by omega)).trans (up_s))) (by omega : 0 < 3) (fun j hj => absurd hj (by omega)) hH0⟩)
          · exact absurd c_90 (by decide)
        · exact absurd c_67 (by decide)
      · exact absurd c_42 (by decide)
    · exact absurd c_28 (by decide)
  · have hH0 : 0 < N ∧ hdP 0 (c 0) := ⟨(cd_eq (by decide) c_13).1, hd_0.mpr (cd_eq (by decide) c_13).2⟩
    refine tq_iconst (v := 1) (dget dX8_readsValley 9 rfl) rfl ?_
    refine tq_goto (tgt := 21) (dget dX8_readsValley 10 rfl) (by decide) ?_
    refine tq_istore_n (ls2 := [(3, .int 1), (0, .ref 42), (1, .int (nI F)), (2, .int (nI N))]) (dget dX8_readsValley 12 rfl) rfl (by decide) rfl ?_
    refine tq_aload_n 1 (dget dX8_readsValley 13 rfl) rfl rfl ?_
    refine tq_dup (dget dX8_readsValley 14 rfl) rfl ?_
    refine tq_getI (dget dX8_readsValley 15 rfl) fX8_91 rfl rfl ?_
    refine tq_eqi (y := (nI 0)) up_s ?_
    refine tq_iload_n 0 (dget dX8_readsValley 16 rfl) rfl rfl ?_
    refine tq_if_eq (tgt := 35) (dget dX8_readsValley 17 rfl) (by decide) (fun c_28 => ?_) (fun c_28 => ?_)
    · exact absurd c_28 (by decide)
    · refine tq_iconst (v := 1) (dget dX8_readsValley 18 rfl) rfl ?_
      refine tq_goto (tgt := 36) (dget dX8_readsValley 19 rfl) (by decide) ?_
      refine tq_iadd (dget dX8_readsValley 21 rfl) ?_
      refine tq_eqi (y := (nI (0 + 1))) (nI_add (0) (1)) ?_
      refine tq_putI (dget dX8_readsValley 22 rfl) fX8_91 rfl rfl rfl rfl ?_
      refine tq_aload_n 1 (dget dX8_readsValley 23 rfl) rfl rfl ?_
      refine tq_iload_n 0 (dget dX8_readsValley 24 rfl) rfl rfl ?_
      refine tq_if_eq (tgt := 57) (dget dX8_readsValley 25 rfl) (by decide) (fun c_42 => ?_) (fun c_42 => ?_)
      · exact absurd c_42 (by decide)
      · refine tq_aload_n 1 (dget dX8_readsValley 26 rfl) rfl rfl ?_
        refine tq_iload_n 2 (dget dX8_readsValley 27 rfl) rfl rfl ?_
        refine tq_iload_n 3 (dget dX8_readsValley 28 rfl) rfl rfl ?_
        refine tq_iconst (v := 1) (dget dX8_readsValley 29 rfl) rfl ?_
        refine tq_bipush (v := 6) (dget dX8_readsValley 30 rfl) rfl ?_
        refine mq_Vi (As := [.int (nI F), .int (nI N), .int 1, .int 6]) (rest := [.ref 42]) (dget dX8_readsValley 31 rfl) lX8_105 miX8_figure (k_figure (up (up σ 42 7 (nI 0)) 42 7 (nI (0 + 1))) c F N hFN hN 1 (by omega) ((((RW.rf σ).upF 7 _ (by omega)).upF 7 _ (by omega)).c61 hc) (up_s) 1 6 (by omega) (by omega) d (by omega)) rfl rfl rfl rfl (Nat.le_of_ble_eq_true rfl) (Nat.le_of_ble_eq_true rfl) (fun r_51 σ_51 h_51 => ?_)
        obtain ⟨a_51, e_51⟩ := h_51
        obtain rfl := a_51.symm
        obtain rfl := e_51.symm
        by_cases hP1 : fgP c N 1 1 6
        · rw [cnd_t hP1]
          refine tq_mem (cnd_t hP1 _ _) ?_
          have hH1 := hd_1.mp hP1
          obtain ⟨q1, r1, t1⟩ := dS_of hH1.2
          refine tq_eqi q1 ?_
          refine tq_goto (tgt := 59) (dget dX8_readsValley 32 rfl) (by decide) ?_
          refine tq_putI (dget dX8_readsValley 34 rfl) fX8_102 rfl rfl rfl rfl ?_
          refine tq_aload_n 1 (dget dX8_readsValley 35 rfl) rfl rfl ?_
          refine tq_aload_n 1 (dget dX8_readsValley 36 rfl) rfl rfl ?_
          refine tq_getI (dget dX8_readsValley 37 rfl) fX8_102 rfl rfl ?_
          refine tq_eqi (y := (nI (dS c))) up_s ?_
          refine tq_if_le (tgt := 81) (dget dX8_readsValley 38 rfl) (by decide) (fun c_67 => ?_) (fun c_67 => ?_)
          · exact absurd (kle (b := 0) (by omega) (by omega) c_67) (by omega)
          · refine tq_aload_n 1 (dget dX8_readsValley 39 rfl) rfl rfl ?_
            refine tq_iload_n 2 (dget dX8_readsValley 40 rfl) rfl rfl ?_
            refine tq_iload_n 3 (dget dX8_readsValley 41 rfl) rfl rfl ?_
            refine tq_iconst (v := 1) (dget dX8_readsValley 42 rfl) rfl ?_
            refine tq_iconst (v := 4) (dget dX8_readsValley 43 rfl) rfl ?_
            refine mq_Vi (As := [.int (nI F), .int (nI N), .int 1, .int 4]) (rest := [.ref 42]) (dget dX8_readsValley 44 rfl) lX8_105 miX8_figure (k_figure (up (up (up (up σ 42 7 (nI 0)) 42 7 (nI (0 + 1))) 42 7 (nI (1 + 1))) 42 8 (nI (dS c))) c F N hFN hN 2 (by omega) ((((((RW.rf σ).upF 7 _ (by omega)).upF 7 _ (by omega)).upF 7 _ (by omega)).upF 8 _ (by omega)).c61 hc) ((up_n (by omega)).trans (up_s)) 1 4 (by omega) (by omega) d (by omega)) rfl rfl rfl rfl (Nat.le_of_ble_eq_true rfl) (Nat.le_of_ble_eq_true rfl) (fun r_75 σ_75 h_75 => ?_)
            obtain ⟨a_75, e_75⟩ := h_75
            obtain rfl := a_75.symm
            obtain rfl := e_75.symm
            by_cases hP2 : fgP c N 2 1 4
            · rw [cnd_t hP2]
              refine tq_mem (cnd_t hP2 _ _) ?_
              have hH2 := hd_2.mp hP2
              obtain ⟨q2, r2, t2⟩ := dM_of hH2.2
              refine tq_eqi q2 ?_
              refine tq_goto (tgt := 83) (dget dX8_readsValley 45 rfl) (by decide) ?_
              refine tq_putI (dget dX8_readsValley 47 rfl) fX8_109 rfl rfl rfl rfl ?_
              refine tq_aload_n 1 (dget dX8_readsValley 48 rfl) rfl rfl ?_
              refine tq_getI (dget dX8_readsValley 49 rfl) fX8_109 rfl rfl ?_
              refine tq_eqi (y := (nI (dM c))) up_s ?_
              refine tq_if_le (tgt := 97) (dget dX8_readsValley 50 rfl) (by decide) (fun c_90 => ?_) (fun c_90 => ?_)
              · exact absurd (kle (b := 0) (by omega) (by omega) c_90) (by omega)
              · refine tq_iconst (v := 1) (dget dX8_readsValley 51 rfl) rfl ?_
                refine tq_goto (tgt := 98) (dget dX8_readsValley 52 rfl) (by decide) ?_
                refine tq_istore_n (ls2 := [(3, .int 1), (0, .ref 42), (1, .int (nI F)), (2, .int (nI N))]) (dget dX8_readsValley 54 rfl) rfl (by decide) rfl ?_
                refine tq_iconst (v := 0) (dget dX8_readsValley 55 rfl) rfl ?_
                refine tq_istore (ls2 := [(4, .int 0), (3, .int 1), (0, .ref 42), (1, .int (nI F)), (2, .int (nI N))]) (dget dX8_readsValley 56 rfl) (by decide) rfl ?_
                refine tq_sub [0, 1, 2, 3, 4] (ls' := [(4, .int (nI 0)), (3, .int 1), (0, .ref 42), (1, .int (nI F)), (2, .int (nI N))]) rfl ?_
                exact k_rv1 σ c F N hFN hN (dS c) (dM c) t1 t2 hc (d + 1) (by omega) (dM c + 1) 0 _ _ (by omega) (by omega) (Or.inl ⟨rfl, ⟨(((((((RW.rf σ).upF 7 _ (by omega)).upF 7 _ (by omega)).upF 7 _ (by omega)).upF 8 _ (by omega)).upF 7 _ (by omega)).upF 9 _ (by omega)), rfl, rfl, by rw [Nat.zero_mul]; exact (up_n (by omega)).trans (up_s), (up_n (by omega)).trans ((up_n (by omega)).trans (up_s)), up_s, fun q hq => ⟨(hI3 hH0 hH1 hH2 q (by omega)).1, Or.inl ⟨by omega, (hI3 hH0 hH1 hH2 q (by omega)).2⟩⟩⟩, fun x hx => absurd hx (by omega)⟩)
            · rw [cnd_f hP2]
              refine tq_mem (cnd_f hP2 _ _) ?_
              have hH2 : ¬ (2 < N ∧ hdP 2 (c 2)) := fun q => hP2 (hd_2.mpr q)
              refine tq_goto (tgt := 83) (dget dX8_readsValley 45 rfl) (by decide) ?_
              refine tq_putI (dget dX8_readsValley 47 rfl) fX8_109 rfl rfl rfl rfl ?_
              refine tq_aload_n 1 (dget dX8_readsValley 48 rfl) rfl rfl ?_
              refine tq_getI (dget dX8_readsValley 49 rfl) fX8_109 rfl rfl ?_
              refine tq_eqi (y := (-9)) up_s ?_
              refine tq_if_le (tgt := 97) (dget dX8_readsValley 50 rfl) (by decide) (fun c_90 => ?_) (fun c_90 => ?_)
              · refine tq_iconst (v := 0) (dget dX8_readsValley 53 rfl) rfl ?_
                refine tq_istore_n (ls2 := [(3, .int 0), (0, .ref 42), (1, .int (nI F)), (2, .int (nI N))]) (dget dX8_readsValley 54 rfl) rfl (by decide) rfl ?_
                refine tq_iconst (v := 0) (dget dX8_readsValley 55 rfl) rfl ?_
                refine tq_istore (ls2 := [(4, .int 0), (3, .int 0), (0, .ref 42), (1, .int (nI F)), (2, .int (nI N))]) (dget dX8_readsValley 56 rfl) (by decide) rfl ?_
                refine tq_sub [0, 1, 2, 3, 4] (ls' := [(4, .int (nI 0)), (3, .int 0), (0, .ref 42), (1, .int (nI F)), (2, .int (nI N))]) rfl ?_
                exact k_rv1 σ c F N hFN hN 1 1 (by omega) (by omega) hc (d + 1) (by omega) 2 0 _ _ (by omega) (by omega) (Or.inr ⟨rfl, rv_head ((((((RW.rf σ).upF 7 _ (by omega)).upF 7 _ (by omega)).upF 7 _ (by omega)).upF 8 _ (by omega)).upF 9 _ (by omega)) ((up_n (by omega)).trans ((up_n (by omega)).trans (up_s))) (by omega : 2 < 3) (hI2 hH0 hH1) hH2⟩)
              · exact absurd c_90 (by decide)
        · rw [cnd_f hP1]
          refine tq_mem (cnd_f hP1 _ _) ?_
          have hH1 : ¬ (1 < N ∧ hdP 1 (c 1)) := fun q => hP1 (hd_1.mpr q)
          refine tq_goto (tgt := 59) (dget dX8_readsValley 32 rfl) (by decide) ?_
          refine tq_putI (dget dX8_readsValley 34 rfl) fX8_102 rfl rfl rfl rfl ?_
          refine tq_aload_n 1 (dget dX8_readsValley 35 rfl) rfl rfl ?_
          refine tq_aload_n 1 (dget dX8_readsValley 36 rfl) rfl rfl ?_
          refine tq_getI (dget dX8_readsValley 37 rfl) fX8_102 rfl rfl ?_
          refine tq_eqi (y := (-9)) up_s ?_
          refine tq_if_le (tgt := 81) (dget dX8_readsValley 38 rfl) (by decide) (fun c_67 => ?_) (fun c_67 => ?_)
          · refine tq_bipush (v := (-9)) (dget dX8_readsValley 46 rfl) rfl ?_
            refine tq_putI (dget dX8_readsValley 47 rfl) fX8_109 rfl rfl rfl rfl ?_
            refine tq_aload_n 1 (dget dX8_readsValley 48 rfl) rfl rfl ?_
            refine tq_getI (dget dX8_readsValley 49 rfl) fX8_109 rfl rfl ?_
            refine tq_eqi (y := (-9)) up_s ?_
            refine tq_if_le (tgt := 97) (dget dX8_readsValley 50 rfl) (by decide) (fun c_90 => ?_) (fun c_90 => ?_)
            · refine tq_iconst (v := 0) (dget dX8_readsValley 53 rfl) rfl ?_
              refine tq_istore_n (ls2 := [(3, .int 0), (0, .ref 42), (1, .int (nI F)), (2, .int (nI N))]) (dget dX8_readsValley 54 rfl) rfl (by decide) rfl ?_
              refine tq_iconst (v := 0) (dget dX8_readsValley 55 rfl) rfl ?_
              refine tq_istore (ls2 := [(4, .int 0), (3, .int 0), (0, .ref 42), (1, .int (nI F)), (2, .int (nI N))]) (dget dX8_readsValley 56 rfl) (by decide) rfl ?_
              refine tq_sub [0, 1, 2, 3, 4] (ls' := [(4, .int (nI 0)), (3, .int 0), (0, .ref 42), (1, .int (nI F)), (2, .int (nI N))]) rfl ?_
              exact k_rv1 σ c F N hFN hN 1 1 (by omega) (by omega) hc (d + 1) (by omega) 2 0 _ _ (by omega) (by omega) (Or.inr ⟨rfl, rv_head (((((RW.rf σ).upF 7 _ (by omega)).upF 7 _ (by omega)).upF 8 _ (by omega)).upF 9 _ (by omega)) ((up_n (by omega)).trans ((up_n (by omega)).trans (up_s))) (by omega : 1 < 3) (hI1 hH0) hH1⟩)
            · exact absurd c_90 (by decide)
          · exact absurd c_67 (by decide)

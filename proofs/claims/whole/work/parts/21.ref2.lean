/-! ===== the reference (2): the valley, offers ===== -/
theorem in01 {z : Int32} : ((0 : Int64) ≤ z.toInt64 ∧ z.toInt64 ≤ 1) ↔ (z = 0 ∨ z = 1) := by
  have h1 := w_0 z
  have h2 : z.toInt64 ≤ 1 ↔ z ≤ 1 := w_le z 1
  rw [h1, h2]
  constructor
  · intro q
    obtain ⟨j, rfl, _, hj⟩ := dig (a := 0) (b := 2) (c := z) (by decide) (by decide) q.1 (Int32.lt_of_le_of_lt q.2 (by decide))
    rcases (show j = 0 ∨ j = 1 by omega) with rfl | rfl
    · exact Or.inl rfl
    · exact Or.inr rfl
  · rintro (rfl | rfl) <;> decide
theorem inK {z : Int32} (c : Nat) (hc : c < 2 ^ 31) : ((0 : Int64) ≤ z.toInt64 ∧ z.toInt64 ≤ (nI c).toInt64) ↔ (0 ≤ z ∧ z ≤ nI c) := by
  rw [w_0, w_le]
theorem in9 {z : Int32} : ((0 : Int64) ≤ z.toInt64 ∧ z.toInt64 ≤ 9) ↔ (0 ≤ z ∧ z ≤ 9) := by
  have h2 : z.toInt64 ≤ 9 ↔ z ≤ 9 := w_le z 9
  rw [w_0, h2]
theorem in2 {z : Int32} : ((0 : Int64) ≤ z.toInt64 ∧ z.toInt64 ≤ 2) ↔ isLn z := by
  have h2 : z.toInt64 ≤ 2 ↔ z ≤ 2 := w_le z 2
  rw [w_0, h2]
  rfl

set_option maxHeartbeats 4000000 in
set_option maxRecDepth 20000 in
theorem k_likes (σ : Mem) (S M : Nat) (hV : VM σ S M) (x y z : Int32) (d : Nat) (hd : 2 ≤ d) : PMet d mX8_likes [.ref 42, .int x, .int y, .int z] σ (Pi (fun v σ2 => v = cnd (hMm σ x) (cnd (hSm σ y) (cnd (z = 0) (σ 44 (6 * cl x + cl y)) (cnd (z = 1) (σ 45 (6 * cl x + cl y)) (-2))) (-1)) (-1) ∧ σ2 = σ)) := by
  obtain ⟨d, rfl⟩ : ∃ e, d = e + 1 := ⟨d - 1, by omega⟩
  refine PMet.start (ls0 := [(0, .ref 42), (1, .int x), (2, .int y), (3, .int z)]) miX8_likes.1 (Nat.le_of_ble_eq_true rfl) rfl ?_
  refine tq_aload_n 0 (dget dX8_likes 0 rfl) rfl rfl ?_
  refine tq_iload_n 1 (dget dX8_likes 1 rfl) rfl rfl ?_
  refine mq_Vi (As := [.int x]) (rest := []) (dget dX8_likes 2 rfl) lX8_152 miX8_noMaid (k_noMaid σ S M hV x d (by omega)) rfl rfl rfl rfl (Nat.le_of_ble_eq_true rfl) (Nat.le_of_ble_eq_true rfl) (fun r_2 σ_2 h_2 => ?_)
  obtain ⟨b_2, e_2⟩ := h_2
  obtain rfl := e_2.symm
  refine tq_if_ne (tgt := 16) (dget dX8_likes 3 rfl) (by decide) (fun c_5 => ?_) (fun c_5 => ?_)
  · refine tq_iconst (v := (-1)) (dget dX8_likes 8 rfl) rfl ?_
    exact tq_iret rfl (dget dX8_likes 9 rfl) ⟨_, rfl, by simp only [cnd_f (P := hMm σ x) (b_2.t c_5)], rfl⟩
  · refine tq_aload_n 0 (dget dX8_likes 4 rfl) rfl rfl ?_
    refine tq_iload_n 2 (dget dX8_likes 5 rfl) rfl rfl ?_
    refine mq_Vi (As := [.int y]) (rest := []) (dget dX8_likes 6 rfl) lX8_155 miX8_noSuitor (k_noSuitor σ S M hV y d (by omega)) rfl rfl rfl rfl (Nat.le_of_ble_eq_true rfl) (Nat.le_of_ble_eq_true rfl) (fun r_10 σ_10 h_10 => ?_)
    obtain ⟨b_10, e_10⟩ := h_10
    obtain rfl := e_10.symm
    refine tq_if_eq (tgt := 18) (dget dX8_likes 7 rfl) (by decide) (fun c_13 => ?_) (fun c_13 => ?_)
    · obtain ⟨m, e_m, hm, hm4⟩ := hMm_n hV (Classical.not_not.mp (b_2.f c_5))
      subst e_m
      obtain ⟨s, e_s, hs, hs6⟩ := hSm_n hV (Classical.not_not.mp (b_10.f c_13))
      subst e_s
      refine tq_iload_n 3 (dget dX8_likes 10 rfl) rfl rfl ?_
      refine tq_if_ne (tgt := 36) (dget dX8_likes 11 rfl) (by decide) (fun c_19 => ?_) (fun c_19 => ?_)
      · refine tq_iload_n 3 (dget dX8_likes 21 rfl) rfl rfl ?_
        refine tq_iconst (v := 1) (dget dX8_likes 22 rfl) rfl ?_
        refine tq_icmp_ne (tgt := 55) (dget dX8_likes 23 rfl) (by decide) (fun c_38 => ?_) (fun c_38 => ?_)
        · refine tq_bipush (v := (-2)) (dget dX8_likes 33 rfl) rfl ?_
          exact tq_iret rfl (dget dX8_likes 34 rfl) ⟨_, rfl, by simp only [cnd_t (P := hMm σ (nI m)) (Classical.not_not.mp (b_2.f c_5)), cnd_t (P := hSm σ (nI s)) (Classical.not_not.mp (b_10.f c_13)), nI_clamp (show m < 2 ^ 31 by omega), nI_clamp (show s < 2 ^ 31 by omega), cnd_f c_19, cnd_f c_38], rfl⟩
        · refine tq_aload_n 0 (dget dX8_likes 24 rfl) rfl rfl ?_
          refine tq_getR (dget dX8_likes 25 rfl) fX8_16 rfl rfl ?_
          refine tq_bipush (v := 6) (dget dX8_likes 26 rfl) rfl ?_
          refine tq_iload_n 1 (dget dX8_likes 27 rfl) rfl rfl ?_
          refine tq_imul (dget dX8_likes 28 rfl) ?_
          refine tq_eqi (y := (nI (6 * m))) (nI_mulN (6) (m)) ?_
          refine tq_iload_n 2 (dget dX8_likes 29 rfl) rfl rfl ?_
          refine tq_iadd (dget dX8_likes 30 rfl) ?_
          refine tq_eqi (y := (nI ((6 * m) + s))) (nI_add ((6 * m)) (s)) ?_
          refine tq_ialdN ((6 * m) + s) (dget dX8_likes 31 rfl) rfl (by decide) rfl (by omega) ?_
          refine tq_goto (tgt := 57) (dget dX8_likes 32 rfl) (by decide) ?_
          exact tq_iret rfl (dget dX8_likes 34 rfl) ⟨_, rfl, by simp only [cnd_t (P := hMm σ (nI m)) (Classical.not_not.mp (b_2.f c_5)), cnd_t (P := hSm σ (nI s)) (Classical.not_not.mp (b_10.f c_13)), nI_clamp (show m < 2 ^ 31 by omega), nI_clamp (show s < 2 ^ 31 by omega), cnd_f c_19, cnd_t c_38], rfl⟩
      · refine tq_aload_n 0 (dget dX8_likes 12 rfl) rfl rfl ?_
        refine tq_getR (dget dX8_likes 13 rfl) fX8_13 rfl rfl ?_
        refine tq_bipush (v := 6) (dget dX8_likes 14 rfl) rfl ?_
        refine tq_iload_n 1 (dget dX8_likes 15 rfl) rfl rfl ?_
        refine tq_imul (dget dX8_likes 16 rfl) ?_
        refine tq_eqi (y := (nI (6 * m))) (nI_mulN (6) (m)) ?_
        refine tq_iload_n 2 (dget dX8_likes 17 rfl) rfl rfl ?_
        refine tq_iadd (dget dX8_likes 18 rfl) ?_
        refine tq_eqi (y := (nI ((6 * m) + s))) (nI_add ((6 * m)) (s)) ?_
        refine tq_ialdN ((6 * m) + s) (dget dX8_likes 19 rfl) rfl (by decide) rfl (by omega) ?_
        refine tq_goto (tgt := 57) (dget dX8_likes 20 rfl) (by decide) ?_
        exact tq_iret rfl (dget dX8_likes 34 rfl) ⟨_, rfl, by simp only [cnd_t (P := hMm σ (nI m)) (Classical.not_not.mp (b_2.f c_5)), cnd_t (P := hSm σ (nI s)) (Classical.not_not.mp (b_10.f c_13)), nI_clamp (show m < 2 ^ 31 by omega), nI_clamp (show s < 2 ^ 31 by omega), cnd_t c_19], rfl⟩
    · refine tq_iconst (v := (-1)) (dget dX8_likes 8 rfl) rfl ?_
      exact tq_iret rfl (dget dX8_likes 9 rfl) ⟨_, rfl, by simp only [cnd_t (P := hMm σ x) (Classical.not_not.mp (b_2.f c_5)), cnd_f (P := hSm σ y) (b_10.t c_13)], rfl⟩
set_option maxHeartbeats 4000000 in
set_option maxRecDepth 20000 in
theorem k_like (σ : Mem) (S M : Nat) (hV : VM σ S M) (x y z v : Int32) (d : Nat) (hd : 2 ≤ d) : PMet d mX8_like [.ref 42, .int x, .int y, .int z, .int v] σ (Pi (fun r σ2 => r = cnd (hMm σ x) (cnd (hSm σ y) (cnd (z = 0 ∨ z = 1) (cnd (0 ≤ v ∧ v ≤ 9) (cnd (z = 0) (σ 44 (6 * cl x + cl y)) (σ 45 (6 * cl x + cl y))) (-2)) (-2)) (-1)) (-1) ∧ σ2 = cnd (hMm σ x) (cnd (hSm σ y) (cnd (z = 0 ∨ z = 1) (cnd (0 ≤ v ∧ v ≤ 9) (cnd (z = 0) (up σ 44 (6 * cl x + cl y) v) (up σ 45 (6 * cl x + cl y) v)) σ) σ) σ) σ)) := by
  obtain ⟨d, rfl⟩ : ∃ e, d = e + 1 := ⟨d - 1, by omega⟩
  refine PMet.start (ls0 := [(0, .ref 42), (1, .int x), (2, .int y), (3, .int z), (4, .int v)]) miX8_like.1 (Nat.le_of_ble_eq_true rfl) rfl ?_
  refine tq_aload_n 0 (dget dX8_like 0 rfl) rfl rfl ?_
  refine tq_iload_n 1 (dget dX8_like 1 rfl) rfl rfl ?_
  refine mq_Vi (As := [.int x]) (rest := []) (dget dX8_like 2 rfl) lX8_152 miX8_noMaid (k_noMaid σ S M hV x d (by omega)) rfl rfl rfl rfl (Nat.le_of_ble_eq_true rfl) (Nat.le_of_ble_eq_true rfl) (fun r_2 σ_2 h_2 => ?_)
  obtain ⟨b_2, e_2⟩ := h_2
  obtain rfl := e_2.symm
  refine tq_if_ne (tgt := 16) (dget dX8_like 3 rfl) (by decide) (fun c_5 => ?_) (fun c_5 => ?_)
  · refine tq_iconst (v := (-1)) (dget dX8_like 8 rfl) rfl ?_
    exact tq_iret rfl (dget dX8_like 9 rfl) ⟨_, rfl, by simp only [cnd_f (P := hMm σ x) (b_2.t c_5)], by simp only [cnd_f (P := hMm σ x) (b_2.t c_5)]⟩
  · refine tq_aload_n 0 (dget dX8_like 4 rfl) rfl rfl ?_
    refine tq_iload_n 2 (dget dX8_like 5 rfl) rfl rfl ?_
    refine mq_Vi (As := [.int y]) (rest := []) (dget dX8_like 6 rfl) lX8_155 miX8_noSuitor (k_noSuitor σ S M hV y d (by omega)) rfl rfl rfl rfl (Nat.le_of_ble_eq_true rfl) (Nat.le_of_ble_eq_true rfl) (fun r_10 σ_10 h_10 => ?_)
    obtain ⟨b_10, e_10⟩ := h_10
    obtain rfl := e_10.symm
    refine tq_if_eq (tgt := 18) (dget dX8_like 7 rfl) (by decide) (fun c_13 => ?_) (fun c_13 => ?_)
    · obtain ⟨m, e_m, hm, hm4⟩ := hMm_n hV (Classical.not_not.mp (b_2.f c_5))
      subst e_m
      obtain ⟨s, e_s, hs, hs6⟩ := hSm_n hV (Classical.not_not.mp (b_10.f c_13))
      subst e_s
      refine tq_iload_n 3 (dget dX8_like 10 rfl) rfl rfl ?_
      refine tq_i2l (dget dX8_like 11 rfl) ?_
      refine tq_lconst (v := 0) (dget dX8_like 12 rfl) rfl ?_
      refine tq_lconst (v := 1) (dget dX8_like 13 rfl) rfl ?_
      refine mq_Si (As := [.long (z).toInt64, .long 0, .long 1]) (rest := []) (dget dX8_like 14 rfl) lX8_84 miX8_in (k_in σ (z).toInt64 0 1 d (by omega)) rfl rfl (Nat.le_of_ble_eq_true rfl) (Nat.le_of_ble_eq_true rfl) (fun r_22 σ_22 h_22 => ?_)
      obtain ⟨b_22, e_22⟩ := h_22
      obtain rfl := e_22.symm
      have b_22 := b_22.iff in01
      refine tq_if_eq (tgt := 41) (dget dX8_like 15 rfl) (by decide) (fun c_25 => ?_) (fun c_25 => ?_)
      · refine tq_bipush (v := (-2)) (dget dX8_like 22 rfl) rfl ?_
        exact tq_iret rfl (dget dX8_like 23 rfl) ⟨_, rfl, by simp only [cnd_t (P := hMm σ (nI m)) (Classical.not_not.mp (b_2.f c_5)), cnd_t (P := hSm σ (nI s)) (Classical.not_not.mp (b_10.f c_13)), nI_clamp (show m < 2 ^ 31 by omega), nI_clamp (show s < 2 ^ 31 by omega), cnd_f (P := z = 0 ∨ z = 1) (b_22.f c_25)], by simp only [cnd_t (P := hMm σ (nI m)) (Classical.not_not.mp (b_2.f c_5)), cnd_t (P := hSm σ (nI s)) (Classical.not_not.mp (b_10.f c_13)), nI_clamp (show m < 2 ^ 31 by omega), nI_clamp (show s < 2 ^ 31 by omega), cnd_f (P := z = 0 ∨ z = 1) (b_22.f c_25)]⟩
      · refine tq_iload 4 (dget dX8_like 16 rfl) rfl ?_
        refine tq_i2l (dget dX8_like 17 rfl) ?_
        refine tq_lconst (v := 0) (dget dX8_like 18 rfl) rfl ?_
        refine tq_ldc2 (v := 9) (dget dX8_like 19 rfl) (tblG_4 38 rfl rfl) ?_
        refine mq_Si (As := [.long (v).toInt64, .long 0, .long 9]) (rest := []) (dget dX8_like 20 rfl) lX8_84 miX8_in (k_in σ (v).toInt64 0 9 d (by omega)) rfl rfl (Nat.le_of_ble_eq_true rfl) (Nat.le_of_ble_eq_true rfl) (fun r_35 σ_35 h_35 => ?_)
        obtain ⟨b_35, e_35⟩ := h_35
        obtain rfl := e_35.symm
        have b_35 := b_35.iff in9
        refine tq_if_ne (tgt := 44) (dget dX8_like 21 rfl) (by decide) (fun c_38 => ?_) (fun c_38 => ?_)
        · refine tq_bipush (v := 6) (dget dX8_like 24 rfl) rfl ?_
          refine tq_iload_n 1 (dget dX8_like 25 rfl) rfl rfl ?_
          refine tq_imul (dget dX8_like 26 rfl) ?_
          refine tq_eqi (y := (nI (6 * m))) (nI_mulN (6) (m)) ?_
          refine tq_iload_n 2 (dget dX8_like 27 rfl) rfl rfl ?_
          refine tq_iadd (dget dX8_like 28 rfl) ?_
          refine tq_eqi (y := (nI ((6 * m) + s))) (nI_add ((6 * m)) (s)) ?_
          refine tq_istore (ls2 := [(5, .int (nI ((6 * m) + s))), (0, .ref 42), (1, .int (nI m)), (2, .int (nI s)), (3, .int z), (4, .int v)]) (dget dX8_like 29 rfl) (by decide) rfl ?_
          refine tq_iload_n 4 (dget dX8_like 30 rfl) rfl rfl ?_
          refine tq_if_ne (tgt := 66) (dget dX8_like 31 rfl) (by decide) (fun c_53 => ?_) (fun c_53 => ?_)
          · refine tq_aload_n 1 (dget dX8_like 37 rfl) rfl rfl ?_
            refine tq_getR (dget dX8_like 38 rfl) fX8_16 rfl rfl ?_
            refine tq_iload 0 (dget dX8_like 39 rfl) rfl ?_
            refine tq_ialdN ((6 * m) + s) (dget dX8_like 40 rfl) rfl (by decide) rfl (by omega) ?_
            refine tq_istore (ls2 := [(6, .int (σ 45 ((6 * m) + s))), (5, .int (nI ((6 * m) + s))), (0, .ref 42), (1, .int (nI m)), (2, .int (nI s)), (3, .int z), (4, .int v)]) (dget dX8_like 41 rfl) (by decide) rfl ?_
            refine tq_iload_n 5 (dget dX8_like 42 rfl) rfl rfl ?_
            refine tq_if_ne (tgt := 91) (dget dX8_like 43 rfl) (by decide) (fun c_76 => ?_) (fun c_76 => ?_)
            · refine tq_aload_n 2 (dget dX8_like 50 rfl) rfl rfl ?_
              refine tq_getR (dget dX8_like 51 rfl) fX8_16 rfl rfl ?_
              refine tq_iload 1 (dget dX8_like 52 rfl) rfl ?_
              refine tq_iload 6 (dget dX8_like 53 rfl) rfl ?_
              refine tq_iastN ((6 * m) + s) (dget dX8_like 54 rfl) rfl (by decide) rfl (by omega) ?_
              refine tq_iload 0 (dget dX8_like 55 rfl) rfl ?_
              exact tq_iret rfl (dget dX8_like 56 rfl) ⟨_, rfl, by simp only [cnd_t (P := hMm σ (nI m)) (Classical.not_not.mp (b_2.f c_5)), cnd_t (P := hSm σ (nI s)) (Classical.not_not.mp (b_10.f c_13)), nI_clamp (show m < 2 ^ 31 by omega), nI_clamp (show s < 2 ^ 31 by omega), cnd_t (P := z = 0 ∨ z = 1) (b_22.t c_25), cnd_t (P := 0 ≤ v ∧ v ≤ 9) (b_35.t c_38), cnd_f c_53], by simp only [cnd_t (P := hMm σ (nI m)) (Classical.not_not.mp (b_2.f c_5)), cnd_t (P := hSm σ (nI s)) (Classical.not_not.mp (b_10.f c_13)), nI_clamp (show m < 2 ^ 31 by omega), nI_clamp (show s < 2 ^ 31 by omega), cnd_t (P := z = 0 ∨ z = 1) (b_22.t c_25), cnd_t (P := 0 ≤ v ∧ v ≤ 9) (b_35.t c_38), cnd_f c_53]⟩
            · exact absurd c_76 c_53
          · refine tq_aload_n 1 (dget dX8_like 32 rfl) rfl rfl ?_
            refine tq_getR (dget dX8_like 33 rfl) fX8_13 rfl rfl ?_
            refine tq_iload 0 (dget dX8_like 34 rfl) rfl ?_
            refine tq_ialdN ((6 * m) + s) (dget dX8_like 35 rfl) rfl (by decide) rfl (by omega) ?_
            refine tq_goto (tgt := 73) (dget dX8_like 36 rfl) (by decide) ?_
            refine tq_istore (ls2 := [(6, .int (σ 44 ((6 * m) + s))), (5, .int (nI ((6 * m) + s))), (0, .ref 42), (1, .int (nI m)), (2, .int (nI s)), (3, .int z), (4, .int v)]) (dget dX8_like 41 rfl) (by decide) rfl ?_
            refine tq_iload_n 5 (dget dX8_like 42 rfl) rfl rfl ?_
            refine tq_if_ne (tgt := 91) (dget dX8_like 43 rfl) (by decide) (fun c_76 => ?_) (fun c_76 => ?_)
            · exact absurd c_53 c_76
            · refine tq_aload_n 2 (dget dX8_like 44 rfl) rfl rfl ?_
              refine tq_getR (dget dX8_like 45 rfl) fX8_13 rfl rfl ?_
              refine tq_iload 1 (dget dX8_like 46 rfl) rfl ?_
              refine tq_iload 6 (dget dX8_like 47 rfl) rfl ?_
              refine tq_iastN ((6 * m) + s) (dget dX8_like 48 rfl) rfl (by decide) rfl (by omega) ?_
              refine tq_goto (tgt := 100) (dget dX8_like 49 rfl) (by decide) ?_
              refine tq_iload 0 (dget dX8_like 55 rfl) rfl ?_
              exact tq_iret rfl (dget dX8_like 56 rfl) ⟨_, rfl, by simp only [cnd_t (P := hMm σ (nI m)) (Classical.not_not.mp (b_2.f c_5)), cnd_t (P := hSm σ (nI s)) (Classical.not_not.mp (b_10.f c_13)), nI_clamp (show m < 2 ^ 31 by omega), nI_clamp (show s < 2 ^ 31 by omega), cnd_t (P := z = 0 ∨ z = 1) (b_22.t c_25), cnd_t (P := 0 ≤ v ∧ v ≤ 9) (b_35.t c_38), cnd_t c_53], by simp only [cnd_t (P := hMm σ (nI m)) (Classical.not_not.mp (b_2.f c_5)), cnd_t (P := hSm σ (nI s)) (Classical.not_not.mp (b_10.f c_13)), nI_clamp (show m < 2 ^ 31 by omega), nI_clamp (show s < 2 ^ 31 by omega), cnd_t (P := z = 0 ∨ z = 1) (b_22.t c_25), cnd_t (P := 0 ≤ v ∧ v ≤ 9) (b_35.t c_38), cnd_t c_53]⟩
        · refine tq_bipush (v := (-2)) (dget dX8_like 22 rfl) rfl ?_
          exact tq_iret rfl (dget dX8_like 23 rfl) ⟨_, rfl, by simp only [cnd_t (P := hMm σ (nI m)) (Classical.not_not.mp (b_2.f c_5)), cnd_t (P := hSm σ (nI s)) (Classical.not_not.mp (b_10.f c_13)), nI_clamp (show m < 2 ^ 31 by omega), nI_clamp (show s < 2 ^ 31 by omega), cnd_t (P := z = 0 ∨ z = 1) (b_22.t c_25), cnd_f (P := 0 ≤ v ∧ v ≤ 9) (b_35.f c_38)], by simp only [cnd_t (P := hMm σ (nI m)) (Classical.not_not.mp (b_2.f c_5)), cnd_t (P := hSm σ (nI s)) (Classical.not_not.mp (b_10.f c_13)), nI_clamp (show m < 2 ^ 31 by omega), nI_clamp (show s < 2 ^ 31 by omega), cnd_t (P := z = 0 ∨ z = 1) (b_22.t c_25), cnd_f (P := 0 ≤ v ∧ v ≤ 9) (b_35.f c_38)]⟩
    · refine tq_iconst (v := (-1)) (dget dX8_like 8 rfl) rfl ?_
      exact tq_iret rfl (dget dX8_like 9 rfl) ⟨_, rfl, by simp only [cnd_t (P := hMm σ x) (Classical.not_not.mp (b_2.f c_5)), cnd_f (P := hSm σ y) (b_10.t c_13)], by simp only [cnd_t (P := hMm σ x) (Classical.not_not.mp (b_2.f c_5)), cnd_f (P := hSm σ y) (b_10.t c_13)]⟩
set_option maxHeartbeats 4000000 in
set_option maxRecDepth 20000 in
theorem k_ofMaid (σ : Mem) (S M C : Nat) (so mo : Nat → Nat) (hV : VM σ S M) (hO : OFm σ C so mo) (hkd : kOK σ M) (x z : Int32) (d : Nat) (hd : 4 ≤ d) : PMet d mX8_ofMaid [.ref 42, .int x, .int z] σ (Pi (fun v σ2 => v = cnd (hMm σ x) (cnd (z = 0) (σ 43 (cl x)) (cnd (z = 1) (mindF (σ 43 (cl x)) (goFm σ so mo C 52 (cl x))) (cnd (z = 2) (goFm σ so mo C 52 (cl x)) (cnd (z = 3) (goFm σ so mo C 53 (cl x)) (-2))))) (-1) ∧ σ2 = cnd (hMm σ x) (goFm σ so mo C) σ)) := by
  obtain ⟨d, rfl⟩ : ∃ e, d = e + 1 := ⟨d - 1, by omega⟩
  refine PMet.start (ls0 := [(0, .ref 42), (1, .int x), (2, .int z)]) miX8_ofMaid.1 (Nat.le_of_ble_eq_true rfl) rfl ?_
  refine tq_aload_n 0 (dget dX8_ofMaid 0 rfl) rfl rfl ?_
  refine tq_iload_n 1 (dget dX8_ofMaid 1 rfl) rfl rfl ?_
  refine mq_Vi (As := [.int x]) (rest := []) (dget dX8_ofMaid 2 rfl) lX8_152 miX8_noMaid (k_noMaid σ S M hV x d (by omega)) rfl rfl rfl rfl (Nat.le_of_ble_eq_true rfl) (Nat.le_of_ble_eq_true rfl) (fun r_2 σ_2 h_2 => ?_)
  obtain ⟨b_2, e_2⟩ := h_2
  obtain rfl := e_2.symm
  refine tq_if_eq (tgt := 10) (dget dX8_ofMaid 3 rfl) (by decide) (fun c_5 => ?_) (fun c_5 => ?_)
  · obtain ⟨m, e_m, hm, hm4⟩ := hMm_n hV (Classical.not_not.mp (b_2.f c_5))
    subst e_m
    obtain ⟨j, hj, hk⟩ := hkd m hm
    refine tq_aload_n 0 (dget dX8_ofMaid 6 rfl) rfl rfl ?_
    refine mq_Vv (As := []) (rest := []) (dget dX8_ofMaid 7 rfl) lX8_160 miX8_goOffers (k_goOffers σ C so mo hO d (by omega)) rfl rfl rfl rfl (Nat.le_of_ble_eq_true rfl) (Nat.le_of_ble_eq_true rfl) (fun σ_11 h_11 => ?_)
    obtain rfl := Eq.symm h_11
    refine tq_iload_n 2 (dget dX8_ofMaid 8 rfl) rfl rfl ?_
    by_cases c_15 : (z).toInt < 0 ∨ 3 < (z).toInt
    · refine tq_tableOut (tgt := 81) (dget dX8_ofMaid 9 rfl) c_15 (by decide) ?_
      refine tq_bipush (v := (-2)) (dget dX8_ofMaid 35 rfl) rfl ?_
      exact tq_iret rfl (dget dX8_ofMaid 36 rfl) ⟨_, rfl, by simp only [cnd_t (P := hMm σ (nI m)) (Classical.not_not.mp (b_2.f c_5)), nI_clamp (show m < 2 ^ 31 by omega), cnd_f (P := z = 0) (tab_no0 c_15), cnd_f (P := z = 1) (tab_no1 c_15), cnd_f (P := z = 2) (tab_no2 c_15), cnd_f (P := z = 3) (tab_no3 c_15)], by simp only [cnd_t (P := hMm σ (nI m)) (Classical.not_not.mp (b_2.f c_5)), nI_clamp (show m < 2 ^ 31 by omega), cnd_f (P := z = 0) (tab_no0 c_15), cnd_f (P := z = 1) (tab_no1 c_15), cnd_f (P := z = 2) (tab_no2 c_15), cnd_f (P := z = 3) (tab_no3 c_15)]⟩
    · have c_15 := sw_in c_15
      by_cases s_15_0 : z = 0
      · refine tq_tableIn (tgt := 44) (off := 29) (dget dX8_ofMaid 9 rfl) (by rw [s_15_0]; decide) (by rw [s_15_0]; decide) (by rw [s_15_0]; rfl) (by decide) ?_
        refine tq_aload_n 0 (dget dX8_ofMaid 10 rfl) rfl rfl ?_
        refine tq_getR (dget dX8_ofMaid 11 rfl) fX8_7 rfl rfl ?_
        refine tq_iload_n 1 (dget dX8_ofMaid 12 rfl) rfl rfl ?_
        refine tq_ialdN m (dget dX8_ofMaid 13 rfl) rfl (by decide) rfl (by omega) ?_
        refine tq_eqi (y := (σ 43 m)) (congrFun (goFm_row σ so mo (a := 43) (by decide) (by decide) (by decide) (by decide) C) m) ?_
        exact tq_iret rfl (dget dX8_ofMaid 14 rfl) ⟨_, rfl, by simp only [cnd_t (P := hMm σ (nI m)) (Classical.not_not.mp (b_2.f c_5)), nI_clamp (show m < 2 ^ 31 by omega), cnd_t (P := z = 0) s_15_0], by simp only [cnd_t (P := hMm σ (nI m)) (Classical.not_not.mp (b_2.f c_5)), nI_clamp (show m < 2 ^ 31 by omega), cnd_t (P := z = 0) s_15_0]⟩
      by_cases s_15_1 : z = 1
      · refine tq_tableIn (tgt := 51) (off := 36) (dget dX8_ofMaid 9 rfl) (by rw [s_15_1]; decide) (by rw [s_15_1]; decide) (by rw [s_15_1]; rfl) (by decide) ?_
        refine tq_aload_n 0 (dget dX8_ofMaid 15 rfl) rfl rfl ?_
        refine tq_getR (dget dX8_ofMaid 16 rfl) fX8_7 rfl rfl ?_
        refine tq_iload_n 1 (dget dX8_ofMaid 17 rfl) rfl rfl ?_
        refine tq_ialdN m (dget dX8_ofMaid 18 rfl) rfl (by decide) rfl (by omega) ?_
        refine tq_eqi (y := (σ 43 m)) (congrFun (goFm_row σ so mo (a := 43) (by decide) (by decide) (by decide) (by decide) C) m) ?_
        refine tq_aload_n 0 (dget dX8_ofMaid 19 rfl) rfl rfl ?_
        refine tq_getR (dget dX8_ofMaid 20 rfl) fX8_37 rfl rfl ?_
        refine tq_iload_n 1 (dget dX8_ofMaid 21 rfl) rfl rfl ?_
        refine tq_ialdN m (dget dX8_ofMaid 22 rfl) rfl (by decide) rfl (by omega) ?_
        refine mq_Si (As := [.int (σ 43 m), .int ((goFm σ so mo C) 52 m)]) (rest := []) (dget dX8_ofMaid 23 rfl) lX8_163 miX8_mindOf (k_mindOf (goFm σ so mo C) (σ 43 m) (goFm σ so mo C 52 m) j hk hj d (by omega)) rfl rfl (Nat.le_of_ble_eq_true rfl) (Nat.le_of_ble_eq_true rfl) (fun r_63 σ_63 h_63 => ?_)
        obtain ⟨a_63, e_63⟩ := h_63
        obtain rfl := a_63.symm
        obtain rfl := e_63.symm
        exact tq_iret rfl (dget dX8_ofMaid 24 rfl) ⟨_, rfl, by simp only [cnd_t (P := hMm σ (nI m)) (Classical.not_not.mp (b_2.f c_5)), nI_clamp (show m < 2 ^ 31 by omega), cnd_f (P := z = 0) s_15_0, cnd_t (P := z = 1) s_15_1], by simp only [cnd_t (P := hMm σ (nI m)) (Classical.not_not.mp (b_2.f c_5)), nI_clamp (show m < 2 ^ 31 by omega), cnd_f (P := z = 0) s_15_0, cnd_t (P := z = 1) s_15_1]⟩
      by_cases s_15_2 : z = 2
      · refine tq_tableIn (tgt := 67) (off := 52) (dget dX8_ofMaid 9 rfl) (by rw [s_15_2]; decide) (by rw [s_15_2]; decide) (by rw [s_15_2]; rfl) (by decide) ?_
        refine tq_aload_n 0 (dget dX8_ofMaid 25 rfl) rfl rfl ?_
        refine tq_getR (dget dX8_ofMaid 26 rfl) fX8_37 rfl rfl ?_
        refine tq_iload_n 1 (dget dX8_ofMaid 27 rfl) rfl rfl ?_
        refine tq_ialdN m (dget dX8_ofMaid 28 rfl) rfl (by decide) rfl (by omega) ?_
        exact tq_iret rfl (dget dX8_ofMaid 29 rfl) ⟨_, rfl, by simp only [cnd_t (P := hMm σ (nI m)) (Classical.not_not.mp (b_2.f c_5)), nI_clamp (show m < 2 ^ 31 by omega), cnd_f (P := z = 0) s_15_0, cnd_f (P := z = 1) s_15_1, cnd_t (P := z = 2) s_15_2], by simp only [cnd_t (P := hMm σ (nI m)) (Classical.not_not.mp (b_2.f c_5)), nI_clamp (show m < 2 ^ 31 by omega), cnd_f (P := z = 0) s_15_0, cnd_f (P := z = 1) s_15_1, cnd_t (P := z = 2) s_15_2]⟩
      have s_15_3 : z = 3 := sw_last4 c_15 s_15_0 s_15_1 s_15_2
      refine tq_tableIn (tgt := 74) (off := 59) (dget dX8_ofMaid 9 rfl) (by rw [s_15_3]; decide) (by rw [s_15_3]; decide) (by rw [s_15_3]; rfl) (by decide) ?_
      refine tq_aload_n 0 (dget dX8_ofMaid 30 rfl) rfl rfl ?_
      refine tq_getR (dget dX8_ofMaid 31 rfl) fX8_40 rfl rfl ?_
      refine tq_iload_n 1 (dget dX8_ofMaid 32 rfl) rfl rfl ?_
      refine tq_ialdN m (dget dX8_ofMaid 33 rfl) rfl (by decide) rfl (by omega) ?_
      exact tq_iret rfl (dget dX8_ofMaid 34 rfl) ⟨_, rfl, by simp only [cnd_t (P := hMm σ (nI m)) (Classical.not_not.mp (b_2.f c_5)), nI_clamp (show m < 2 ^ 31 by omega), cnd_f (P := z = 0) s_15_0, cnd_f (P := z = 1) s_15_1, cnd_f (P := z = 2) s_15_2, cnd_t (P := z = 3) s_15_3], by simp only [cnd_t (P := hMm σ (nI m)) (Classical.not_not.mp (b_2.f c_5)), nI_clamp (show m < 2 ^ 31 by omega), cnd_f (P := z = 0) s_15_0, cnd_f (P := z = 1) s_15_1, cnd_f (P := z = 2) s_15_2, cnd_t (P := z = 3) s_15_3]⟩
  · refine tq_iconst (v := (-1)) (dget dX8_ofMaid 4 rfl) rfl ?_
    exact tq_iret rfl (dget dX8_ofMaid 5 rfl) ⟨_, rfl, by simp only [cnd_f (P := hMm σ x) (b_2.t c_5)], by simp only [cnd_f (P := hMm σ x) (b_2.t c_5)]⟩
set_option maxHeartbeats 4000000 in
set_option maxRecDepth 20000 in
theorem k_law (σ : Mem) (v : Int32) (d : Nat) (hd : 1 ≤ d) : PMet d mX8_law [.ref 42, .int v] σ (Pi (fun r σ2 => r = cnd (0 ≤ v ∧ v ≤ 9) (cnd (σ 42 2 = 0) (-3) (σ 42 6)) (-2) ∧ σ2 = cnd (0 ≤ v ∧ v ≤ 9) (cnd (σ 42 2 = 0) σ (up σ 42 6 v)) σ)) := by
  obtain ⟨d, rfl⟩ : ∃ e, d = e + 1 := ⟨d - 1, by omega⟩
  refine PMet.start (ls0 := [(0, .ref 42), (1, .int v)]) miX8_law.1 (Nat.le_of_ble_eq_true rfl) rfl ?_
  refine tq_iload_n 1 (dget dX8_law 0 rfl) rfl rfl ?_
  refine tq_i2l (dget dX8_law 1 rfl) ?_
  refine tq_lconst (v := 0) (dget dX8_law 2 rfl) rfl ?_
  refine tq_ldc2 (v := 9) (dget dX8_law 3 rfl) (tblG_4 38 rfl rfl) ?_
  refine mq_Si (As := [.long (v).toInt64, .long 0, .long 9]) (rest := []) (dget dX8_law 4 rfl) lX8_84 miX8_in (k_in σ (v).toInt64 0 9 d (by omega)) rfl rfl (Nat.le_of_ble_eq_true rfl) (Nat.le_of_ble_eq_true rfl) (fun r_6 σ_6 h_6 => ?_)
  obtain ⟨b_6, e_6⟩ := h_6
  obtain rfl := e_6.symm
  have b_6 := b_6.iff in9
  refine tq_if_ne (tgt := 15) (dget dX8_law 5 rfl) (by decide) (fun c_9 => ?_) (fun c_9 => ?_)
  · refine tq_aload_n 0 (dget dX8_law 8 rfl) rfl rfl ?_
    refine tq_getI (dget dX8_law 9 rfl) fX8_88 rfl rfl ?_
    refine tq_if_ne (tgt := 25) (dget dX8_law 10 rfl) (by decide) (fun c_19 => ?_) (fun c_19 => ?_)
    · refine tq_aload_n 0 (dget dX8_law 13 rfl) rfl rfl ?_
      refine tq_getI (dget dX8_law 14 rfl) fX8_143 rfl rfl ?_
      refine tq_istore_n (ls2 := [(2, .int (σ 42 6)), (0, .ref 42), (1, .int v)]) (dget dX8_law 15 rfl) rfl (by decide) rfl ?_
      refine tq_aload_n 1 (dget dX8_law 16 rfl) rfl rfl ?_
      refine tq_iload_n 2 (dget dX8_law 17 rfl) rfl rfl ?_
      refine tq_putI (dget dX8_law 18 rfl) fX8_143 rfl rfl rfl rfl ?_
      refine tq_iload_n 0 (dget dX8_law 19 rfl) rfl rfl ?_
      exact tq_iret rfl (dget dX8_law 20 rfl) ⟨_, rfl, by simp only [cnd_t (P := 0 ≤ v ∧ v ≤ 9) (b_6.t c_9), cnd_f c_19], by simp only [cnd_t (P := 0 ≤ v ∧ v ≤ 9) (b_6.t c_9), cnd_f c_19]⟩
    · refine tq_bipush (v := (-3)) (dget dX8_law 11 rfl) rfl ?_
      exact tq_iret rfl (dget dX8_law 12 rfl) ⟨_, rfl, by simp only [cnd_t (P := 0 ≤ v ∧ v ≤ 9) (b_6.t c_9), cnd_t c_19], by simp only [cnd_t (P := 0 ≤ v ∧ v ≤ 9) (b_6.t c_9), cnd_t c_19]⟩
  · refine tq_bipush (v := (-2)) (dget dX8_law 6 rfl) rfl ?_
    exact tq_iret rfl (dget dX8_law 7 rfl) ⟨_, rfl, by simp only [cnd_f (P := 0 ≤ v ∧ v ≤ 9) (b_6.f c_9)], by simp only [cnd_f (P := 0 ≤ v ∧ v ≤ 9) (b_6.f c_9)]⟩
set_option maxHeartbeats 4000000 in
set_option maxRecDepth 20000 in
theorem k_offer (σ : Mem) (S M C : Nat) (so mo : Nat → Nat) (hV : VM σ S M) (hO : OFm σ C so mo) (y x : Int32) (d : Nat) (hd : 2 ≤ d) : PMet d mX8_offer [.ref 42, .int y, .int x] σ (Pi (fun r σ2 => r = cnd (hSm σ y) (cnd (hMm σ x) (cnd (C = 24) (-4) (nI C)) (-1)) (-1) ∧ σ2 = cnd (hSm σ y) (cnd (hMm σ x) (cnd (C = 24) σ (up (up (up σ 49 C (nI (cl y))) 50 C (nI (cl x))) 42 13 (nI (C + 1)))) σ) σ)) := by
  obtain ⟨d, rfl⟩ : ∃ e, d = e + 1 := ⟨d - 1, by omega⟩
  refine PMet.start (ls0 := [(0, .ref 42), (1, .int y), (2, .int x)]) miX8_offer.1 (Nat.le_of_ble_eq_true rfl) rfl ?_
  have hC24 := hO.2.1
  refine tq_aload_n 0 (dget dX8_offer 0 rfl) rfl rfl ?_
  refine tq_iload_n 1 (dget dX8_offer 1 rfl) rfl rfl ?_
  refine mq_Vi (As := [.int y]) (rest := []) (dget dX8_offer 2 rfl) lX8_155 miX8_noSuitor (k_noSuitor σ S M hV y d (by omega)) rfl rfl rfl rfl (Nat.le_of_ble_eq_true rfl) (Nat.le_of_ble_eq_true rfl) (fun r_2 σ_2 h_2 => ?_)
  obtain ⟨b_2, e_2⟩ := h_2
  obtain rfl := e_2.symm
  refine tq_if_ne (tgt := 16) (dget dX8_offer 3 rfl) (by decide) (fun c_5 => ?_) (fun c_5 => ?_)
  · refine tq_iconst (v := (-1)) (dget dX8_offer 8 rfl) rfl ?_
    exact tq_iret rfl (dget dX8_offer 9 rfl) ⟨_, rfl, by simp only [cnd_f (P := hSm σ y) (b_2.t c_5)], by simp only [cnd_f (P := hSm σ y) (b_2.t c_5)]⟩
  · refine tq_aload_n 0 (dget dX8_offer 4 rfl) rfl rfl ?_
    refine tq_iload_n 2 (dget dX8_offer 5 rfl) rfl rfl ?_
    refine mq_Vi (As := [.int x]) (rest := []) (dget dX8_offer 6 rfl) lX8_152 miX8_noMaid (k_noMaid σ S M hV x d (by omega)) rfl rfl rfl rfl (Nat.le_of_ble_eq_true rfl) (Nat.le_of_ble_eq_true rfl) (fun r_10 σ_10 h_10 => ?_)
    obtain ⟨b_10, e_10⟩ := h_10
    obtain rfl := e_10.symm
    refine tq_if_eq (tgt := 18) (dget dX8_offer 7 rfl) (by decide) (fun c_13 => ?_) (fun c_13 => ?_)
    · obtain ⟨s, e_s, hs, hs6⟩ := hSm_n hV (Classical.not_not.mp (b_2.f c_5))
      subst e_s
      obtain ⟨m, e_m, hm, hm4⟩ := hMm_n hV (Classical.not_not.mp (b_10.f c_13))
      subst e_m
      refine tq_aload_n 0 (dget dX8_offer 10 rfl) rfl rfl ?_
      refine tq_getI (dget dX8_offer 11 rfl) fX8_146 rfl rfl ?_
      refine tq_eqi (y := (nI C)) hO.1 ?_
      refine tq_bipush (v := 24) (dget dX8_offer 12 rfl) rfl ?_
      refine tq_icmp_ne (tgt := 30) (dget dX8_offer 13 rfl) (by decide) (fun c_24 => ?_) (fun c_24 => ?_)
      · have g_24 : ¬ C = 24 := fun e => c_24 (by rw [e]; rfl)
        refine tq_aload_n 0 (dget dX8_offer 16 rfl) rfl rfl ?_
        refine tq_getR (dget dX8_offer 17 rfl) fX8_28 rfl rfl ?_
        refine tq_aload_n 0 (dget dX8_offer 18 rfl) rfl rfl ?_
        refine tq_getI (dget dX8_offer 19 rfl) fX8_146 rfl rfl ?_
        refine tq_eqi (y := (nI C)) hO.1 ?_
        refine tq_iload_n 1 (dget dX8_offer 20 rfl) rfl rfl ?_
        refine tq_iastN C (dget dX8_offer 21 rfl) rfl (by decide) rfl (by omega) ?_
        refine tq_aload_n 0 (dget dX8_offer 22 rfl) rfl rfl ?_
        refine tq_getR (dget dX8_offer 23 rfl) fX8_31 rfl rfl ?_
        refine tq_aload_n 0 (dget dX8_offer 24 rfl) rfl rfl ?_
        refine tq_getI (dget dX8_offer 25 rfl) fX8_146 rfl rfl ?_
        refine tq_eqi (y := (nI C)) hO.1 ?_
        refine tq_iload_n 2 (dget dX8_offer 26 rfl) rfl rfl ?_
        refine tq_iastN C (dget dX8_offer 27 rfl) rfl (by decide) rfl (by omega) ?_
        refine tq_aload_n 0 (dget dX8_offer 28 rfl) rfl rfl ?_
        refine tq_dup (dget dX8_offer 29 rfl) rfl ?_
        refine tq_getI (dget dX8_offer 30 rfl) fX8_146 rfl rfl ?_
        refine tq_eqi (y := (nI C)) hO.1 ?_
        refine tq_iconst (v := 1) (dget dX8_offer 31 rfl) rfl ?_
        refine tq_iadd (dget dX8_offer 32 rfl) ?_
        refine tq_eqi (y := (nI (C + 1))) (nI_1 C) ?_
        refine tq_putI (dget dX8_offer 33 rfl) fX8_146 rfl rfl rfl rfl ?_
        refine tq_aload_n 0 (dget dX8_offer 34 rfl) rfl rfl ?_
        refine tq_getI (dget dX8_offer 35 rfl) fX8_146 rfl rfl ?_
        refine tq_eqi (y := (nI (C + 1))) up_s ?_
        refine tq_iconst (v := 1) (dget dX8_offer 36 rfl) rfl ?_
        refine tq_isub (dget dX8_offer 37 rfl) ?_
        refine tq_eqi (y := (nI C)) (nI_pred C) ?_
        exact tq_iret rfl (dget dX8_offer 38 rfl) ⟨_, rfl, by simp only [cnd_t (P := hSm σ (nI s)) (Classical.not_not.mp (b_2.f c_5)), cnd_t (P := hMm σ (nI m)) (Classical.not_not.mp (b_10.f c_13)), nI_clamp (show m < 2 ^ 31 by omega), nI_clamp (show s < 2 ^ 31 by omega), cnd_f (P := C = 24) g_24], by simp only [cnd_t (P := hSm σ (nI s)) (Classical.not_not.mp (b_2.f c_5)), cnd_t (P := hMm σ (nI m)) (Classical.not_not.mp (b_10.f c_13)), nI_clamp (show m < 2 ^ 31 by omega), nI_clamp (show s < 2 ^ 31 by omega), cnd_f (P := C = 24) g_24]⟩
      · have g_24 : C = 24 := n_eq (b := 24) (by omega) (by decide) c_24
        refine tq_bipush (v := (-4)) (dget dX8_offer 14 rfl) rfl ?_
        exact tq_iret rfl (dget dX8_offer 15 rfl) ⟨_, rfl, by simp only [cnd_t (P := hSm σ (nI s)) (Classical.not_not.mp (b_2.f c_5)), cnd_t (P := hMm σ (nI m)) (Classical.not_not.mp (b_10.f c_13)), nI_clamp (show m < 2 ^ 31 by omega), nI_clamp (show s < 2 ^ 31 by omega), cnd_t (P := C = 24) g_24], by simp only [cnd_t (P := hSm σ (nI s)) (Classical.not_not.mp (b_2.f c_5)), cnd_t (P := hMm σ (nI m)) (Classical.not_not.mp (b_10.f c_13)), nI_clamp (show m < 2 ^ 31 by omega), nI_clamp (show s < 2 ^ 31 by omega), cnd_t (P := C = 24) g_24]⟩
    · refine tq_iconst (v := (-1)) (dget dX8_offer 8 rfl) rfl ?_
      exact tq_iret rfl (dget dX8_offer 9 rfl) ⟨_, rfl, by simp only [cnd_t (P := hSm σ y) (Classical.not_not.mp (b_2.f c_5)), cnd_f (P := hMm σ x) (b_10.t c_13)], by simp only [cnd_t (P := hSm σ y) (Classical.not_not.mp (b_2.f c_5)), cnd_f (P := hMm σ x) (b_10.t c_13)]⟩
set_option maxHeartbeats 4000000 in
set_option maxRecDepth 20000 in
theorem k_comes (σ : Mem) (S M C : Nat) (so mo : Nat → Nat) (hV : VM σ S M) (hO : OFm σ C so mo) (x : Int32) (d : Nat) (hd : 4 ≤ d) : PMet d mX8_comes [.ref 42, .int x] σ (Pi (fun r σ2 => r = cnd (0 ≤ x ∧ x < nI C) (goFm σ so mo C 51 (cl x)) (-1) ∧ σ2 = cnd (0 ≤ x ∧ x < nI C) (goFm σ so mo C) σ)) := by
  obtain ⟨d, rfl⟩ : ∃ e, d = e + 1 := ⟨d - 1, by omega⟩
  refine PMet.start (ls0 := [(0, .ref 42), (1, .int x)]) miX8_comes.1 (Nat.le_of_ble_eq_true rfl) rfl ?_
  have hC24 := hO.2.1
  have hE : ((0 : Int64) ≤ x.toInt64 ∧ x.toInt64 ≤ (σ 42 13).toInt64 - 1) ↔ (0 ≤ x ∧ x < nI C) := by rw [hO.1, w_0, w_lt1 (by omega)]
  refine tq_iload_n 1 (dget dX8_comes 0 rfl) rfl rfl ?_
  refine tq_i2l (dget dX8_comes 1 rfl) ?_
  refine tq_lconst (v := 0) (dget dX8_comes 2 rfl) rfl ?_
  refine tq_aload_n 0 (dget dX8_comes 3 rfl) rfl rfl ?_
  refine tq_getI (dget dX8_comes 4 rfl) fX8_146 rfl rfl ?_
  refine tq_i2l (dget dX8_comes 5 rfl) ?_
  refine tq_lconst (v := 1) (dget dX8_comes 6 rfl) rfl ?_
  refine tq_lsub (dget dX8_comes 7 rfl) ?_
  refine mq_Si (As := [.long (x).toInt64, .long 0, .long (((σ 42 13)).toInt64 - 1)]) (rest := []) (dget dX8_comes 8 rfl) lX8_84 miX8_in (k_in σ (x).toInt64 0 (((σ 42 13)).toInt64 - 1) d (by omega)) rfl rfl (Nat.le_of_ble_eq_true rfl) (Nat.le_of_ble_eq_true rfl) (fun r_10 σ_10 h_10 => ?_)
  obtain ⟨b_10, e_10⟩ := h_10
  obtain rfl := e_10.symm
  have b_10 := b_10.iff hE
  refine tq_if_ne (tgt := 18) (dget dX8_comes 9 rfl) (by decide) (fun c_13 => ?_) (fun c_13 => ?_)
  · obtain ⟨k, e_k, hk⟩ := kC_n (C := C) (by omega) (b_10.t c_13).1 (b_10.t c_13).2
    subst e_k
    refine tq_aload_n 0 (dget dX8_comes 12 rfl) rfl rfl ?_
    refine mq_Vv (As := []) (rest := []) (dget dX8_comes 13 rfl) lX8_160 miX8_goOffers (k_goOffers σ C so mo hO d (by omega)) rfl rfl rfl rfl (Nat.le_of_ble_eq_true rfl) (Nat.le_of_ble_eq_true rfl) (fun σ_19 h_19 => ?_)
    obtain rfl := Eq.symm h_19
    refine tq_aload_n 0 (dget dX8_comes 14 rfl) rfl rfl ?_
    refine tq_getR (dget dX8_comes 15 rfl) fX8_34 rfl rfl ?_
    refine tq_iload_n 1 (dget dX8_comes 16 rfl) rfl rfl ?_
    refine tq_ialdN k (dget dX8_comes 17 rfl) rfl (by decide) rfl (by omega) ?_
    exact tq_iret rfl (dget dX8_comes 18 rfl) ⟨_, rfl, by simp only [cnd_t (P := 0 ≤ nI k ∧ nI k < nI C) (b_10.t c_13), nI_clamp (show k < 2 ^ 31 by omega)], by simp only [cnd_t (P := 0 ≤ nI k ∧ nI k < nI C) (b_10.t c_13), nI_clamp (show k < 2 ^ 31 by omega)]⟩
  · refine tq_iconst (v := (-1)) (dget dX8_comes 10 rfl) rfl ?_
    exact tq_iret rfl (dget dX8_comes 11 rfl) ⟨_, rfl, by simp only [cnd_f (P := 0 ≤ x ∧ x < nI C) (b_10.f c_13)], by simp only [cnd_f (P := 0 ≤ x ∧ x < nI C) (b_10.f c_13)]⟩
set_option maxHeartbeats 4000000 in
set_option maxRecDepth 20000 in
theorem k_undo (σ : Mem) (S M C : Nat) (so mo : Nat → Nat) (hV : VM σ S M) (hO : OFm σ C so mo) (x : Int32) (d : Nat) (hd : 1 ≤ d) : PMet d mX8_undo [.ref 42, .int x] σ (Pi (fun r σ2 => r = cnd (0 ≤ x ∧ x ≤ nI C) (nI (C - cl x)) (-2) ∧ σ2 = cnd (0 ≤ x ∧ x ≤ nI C) (up σ 42 13 (nI (C - cl x))) σ)) := by
  obtain ⟨d, rfl⟩ : ∃ e, d = e + 1 := ⟨d - 1, by omega⟩
  refine PMet.start (ls0 := [(0, .ref 42), (1, .int x)]) miX8_undo.1 (Nat.le_of_ble_eq_true rfl) rfl ?_
  have hC24 := hO.2.1
  have hE : ((0 : Int64) ≤ x.toInt64 ∧ x.toInt64 ≤ (σ 42 13).toInt64) ↔ (0 ≤ x ∧ x ≤ nI C) := by rw [hO.1, w_0, w_le]
  refine tq_iload_n 1 (dget dX8_undo 0 rfl) rfl rfl ?_
  refine tq_i2l (dget dX8_undo 1 rfl) ?_
  refine tq_lconst (v := 0) (dget dX8_undo 2 rfl) rfl ?_
  refine tq_aload_n 0 (dget dX8_undo 3 rfl) rfl rfl ?_
  refine tq_getI (dget dX8_undo 4 rfl) fX8_146 rfl rfl ?_
  refine tq_i2l (dget dX8_undo 5 rfl) ?_
  refine mq_Si (As := [.long (x).toInt64, .long 0, .long ((σ 42 13)).toInt64]) (rest := []) (dget dX8_undo 6 rfl) lX8_84 miX8_in (k_in σ (x).toInt64 0 ((σ 42 13)).toInt64 d (by omega)) rfl rfl (Nat.le_of_ble_eq_true rfl) (Nat.le_of_ble_eq_true rfl) (fun r_8 σ_8 h_8 => ?_)
  obtain ⟨b_8, e_8⟩ := h_8
  obtain rfl := e_8.symm
  have b_8 := b_8.iff hE
  refine tq_if_ne (tgt := 17) (dget dX8_undo 7 rfl) (by decide) (fun c_11 => ?_) (fun c_11 => ?_)
  · obtain ⟨k, e_k, hk⟩ := kC_n2 (C := C) (by omega) (b_8.t c_11).1 (b_8.t c_11).2
    subst e_k
    refine tq_aload_n 0 (dget dX8_undo 10 rfl) rfl rfl ?_
    refine tq_dup (dget dX8_undo 11 rfl) rfl ?_
    refine tq_getI (dget dX8_undo 12 rfl) fX8_146 rfl rfl ?_
    refine tq_iload_n 1 (dget dX8_undo 13 rfl) rfl rfl ?_
    refine tq_isub (dget dX8_undo 14 rfl) ?_
    refine tq_eqi (y := (nI (C - k))) (by rw [hO.1]; exact nI_subN hk) ?_
    refine tq_putI (dget dX8_undo 15 rfl) fX8_146 rfl rfl rfl rfl ?_
    refine tq_aload_n 0 (dget dX8_undo 16 rfl) rfl rfl ?_
    refine tq_getI (dget dX8_undo 17 rfl) fX8_146 rfl rfl ?_
    refine tq_eqi (y := (nI (C - k))) up_s ?_
    exact tq_iret rfl (dget dX8_undo 18 rfl) ⟨_, rfl, by simp only [cnd_t (P := 0 ≤ nI k ∧ nI k ≤ nI C) (b_8.t c_11), nI_clamp (show k < 2 ^ 31 by omega)], by simp only [cnd_t (P := 0 ≤ nI k ∧ nI k ≤ nI C) (b_8.t c_11), nI_clamp (show k < 2 ^ 31 by omega)]⟩
  · refine tq_bipush (v := (-2)) (dget dX8_undo 8 rfl) rfl ?_
    exact tq_iret rfl (dget dX8_undo 9 rfl) ⟨_, rfl, by simp only [cnd_f (P := 0 ≤ x ∧ x ≤ nI C) (b_8.f c_11)], by simp only [cnd_f (P := 0 ≤ x ∧ x ≤ nI C) (b_8.f c_11)]⟩
def figM (x : Int32) : Int32 := if x < 0 then 9 else x
def prM (f : Nat → Int32) (S : Nat) : Nat → Int64
  | 0 => 0
  | j + 1 => 10 * prM f S j + (figM (f (S - 1 - j))).toInt64

set_option maxHeartbeats 4000000 in
set_option maxRecDepth 20000 in
theorem k_pairs_loop (τ : Mem) (S M : Nat) (hV : VM τ S M) (hst : ¬ τ 42 2 = 0) (d : Nat) (hd : 4 ≤ d) : ∀ (n : Nat) (k : Nat) (hm : k < n) (hk : k ≤ S), PAt (EM d (Pl (fun v σ2 => v = cnd (τ 42 2 = 0) (-9223372036854775808) (prM (τ 54) S S) ∧ σ2 = τ))) mX8_pairs 24 [(3, .int (nI k - 1)), (1, .long (prM (τ 54) S (S - k))), (0, .ref 42)] [] τ := by
  obtain ⟨d, rfl⟩ : ∃ e, d = e + 1 := ⟨d - 1, by omega⟩
  intro n
  induction n with
  | zero => intro k hm hk; exact absurd hm (by omega)
  | succ n ih =>
    intro k hm hk
    have v3 := hV.2.2.1
    refine tq_iload_n 0 (dget dX8_pairs 14 rfl) rfl rfl ?_
    refine tq_if_lt (tgt := 62) (dget dX8_pairs 15 rfl) (by decide) (fun c_25 => ?_) (fun c_25 => ?_)
    · have g_25 : k = 0 := by by_cases z : k = 0; exact z; exact absurd c_25 (by obtain ⟨j, rfl⟩ : ∃ j, k = j + 1 := ⟨k - 1, by omega⟩; rw [nI_pred]; exact nI_pos (by omega))
      refine tq_lload_n 1 (dget dX8_pairs 35 rfl) rfl rfl ?_
      exact tq_lret rfl (dget dX8_pairs 36 rfl) ⟨_, rfl, by simp only [cnd_f hst, g_25, Nat.sub_zero], rfl⟩
    · have g_25 : ¬ k = 0 := fun z => c_25 (by rw [z]; decide)
      obtain ⟨j0, rfl⟩ : ∃ j, k = j + 1 := ⟨k - 1, by omega⟩
      refine tq_sub [0, 1, 2] (ls' := [(3, .int (nI j0)), (1, .long (prM (τ 54) S (S - (j0 + 1)))), (0, .ref 42)]) (by rw [nI_pred]; rfl) ?_
      refine tq_ldc2 (v := 10) (dget dX8_pairs 16 rfl) (tblG_4 86 rfl rfl) ?_
      refine tq_lload_n 1 (dget dX8_pairs 17 rfl) rfl rfl ?_
      refine tq_lmul (dget dX8_pairs 18 rfl) ?_
      refine tq_aload_n 2 (dget dX8_pairs 19 rfl) rfl rfl ?_
      refine tq_getR (dget dX8_pairs 20 rfl) fX8_43 rfl rfl ?_
      refine tq_iload_n 0 (dget dX8_pairs 21 rfl) rfl rfl ?_
      refine tq_ialdN j0 (dget dX8_pairs 22 rfl) rfl (by decide) rfl (by omega) ?_
      refine tq_if_ge (tgt := 47) (dget dX8_pairs 23 rfl) (by decide) (fun c_39 => ?_) (fun c_39 => ?_)
      · refine tq_aload_n 2 (dget dX8_pairs 26 rfl) rfl rfl ?_
        refine tq_getR (dget dX8_pairs 27 rfl) fX8_43 rfl rfl ?_
        refine tq_iload_n 0 (dget dX8_pairs 28 rfl) rfl rfl ?_
        refine tq_ialdN j0 (dget dX8_pairs 29 rfl) rfl (by decide) rfl (by omega) ?_
        refine tq_i2l (dget dX8_pairs 30 rfl) ?_
        refine tq_ladd (dget dX8_pairs 31 rfl) ?_
        refine tq_lstore_n (ls2 := [(1, .long ((10 * (prM (τ 54) S (S - (j0 + 1)))) + ((τ 54 j0)).toInt64)), (3, .int (nI j0)), (0, .ref 42)]) (dget dX8_pairs 32 rfl) rfl (by decide) rfl ?_
        refine tq_iinc (v := ((nI j0) + (-1))) (ls2 := [(3, .int ((nI j0) + (-1))), (1, .long ((10 * (prM (τ 54) S (S - (j0 + 1)))) + ((τ 54 j0)).toInt64)), (0, .ref 42)]) 1 (dget dX8_pairs 33 rfl) rfl rfl (by decide) rfl ?_
        refine tq_goto (tgt := 24) (dget dX8_pairs 34 rfl) (by decide) ?_
        refine tq_sub [0, 1, 2] (ls' := [(3, .int ((nI j0) + (-1))), (1, .long ((10 * (prM (τ 54) S (S - (j0 + 1)))) + ((τ 54 j0)).toInt64)), (0, .ref 42)]) rfl ?_
        rw [show nI j0 + -1 = nI j0 - 1 from (Int32.sub_eq_add_neg _ _).symm]
        rw [show 10 * prM (τ 54) S (S - (j0 + 1)) + (τ 54 j0 : Int32).toInt64 = prM (τ 54) S (S - j0) by rw [show S - j0 = (S - (j0 + 1)) + 1 by omega, prM, show S - 1 - (S - (j0 + 1)) = j0 by omega]; simp [figM, Int32.not_lt.mpr c_39]]
        exact ih j0 (by omega) (by omega)
      · refine tq_bipush (v := 9) (dget dX8_pairs 24 rfl) rfl ?_
        refine tq_goto (tgt := 53) (dget dX8_pairs 25 rfl) (by decide) ?_
        refine tq_i2l (dget dX8_pairs 30 rfl) ?_
        refine tq_ladd (dget dX8_pairs 31 rfl) ?_
        refine tq_lstore_n (ls2 := [(1, .long ((10 * (prM (τ 54) S (S - (j0 + 1)))) + (9 : Int32).toInt64)), (3, .int (nI j0)), (0, .ref 42)]) (dget dX8_pairs 32 rfl) rfl (by decide) rfl ?_
        refine tq_iinc (v := ((nI j0) + (-1))) (ls2 := [(3, .int ((nI j0) + (-1))), (1, .long ((10 * (prM (τ 54) S (S - (j0 + 1)))) + (9 : Int32).toInt64)), (0, .ref 42)]) 1 (dget dX8_pairs 33 rfl) rfl rfl (by decide) rfl ?_
        refine tq_goto (tgt := 24) (dget dX8_pairs 34 rfl) (by decide) ?_
        refine tq_sub [0, 1, 2] (ls' := [(3, .int ((nI j0) + (-1))), (1, .long ((10 * (prM (τ 54) S (S - (j0 + 1)))) + (9 : Int32).toInt64)), (0, .ref 42)]) rfl ?_
        rw [show nI j0 + -1 = nI j0 - 1 from (Int32.sub_eq_add_neg _ _).symm]
        rw [show 10 * prM (τ 54) S (S - (j0 + 1)) + (9 : Int32).toInt64 = prM (τ 54) S (S - j0) by rw [show S - j0 = (S - (j0 + 1)) + 1 by omega, prM, show S - 1 - (S - (j0 + 1)) = j0 by omega]; simp [figM, Int32.not_le.mp c_39]]
        exact ih j0 (by omega) (by omega)
set_option maxHeartbeats 4000000 in
set_option maxRecDepth 20000 in
theorem k_pairs (σ : Mem) (S M C : Nat) (so mo : Nat → Nat) (hV : VM σ S M) (hO : OFm σ C so mo) (d : Nat) (hd : 4 ≤ d) : PMet d mX8_pairs [.ref 42] σ (Pl (fun v σ2 => v = cnd (σ 42 2 = 0) (-9223372036854775808) (prM (goFm σ so mo C 54) S S) ∧ σ2 = cnd (σ 42 2 = 0) σ (goFm σ so mo C))) := by
  obtain ⟨d, rfl⟩ : ∃ e, d = e + 1 := ⟨d - 1, by omega⟩
  refine PMet.start (ls0 := [(0, .ref 42)]) miX8_pairs.1 (Nat.le_of_ble_eq_true rfl) rfl ?_
  refine tq_aload_n 0 (dget dX8_pairs 0 rfl) rfl rfl ?_
  refine tq_getI (dget dX8_pairs 1 rfl) fX8_88 rfl rfl ?_
  refine tq_if_ne (tgt := 11) (dget dX8_pairs 2 rfl) (by decide) (fun c_4 => ?_) (fun c_4 => ?_)
  · have hr : goFm σ so mo C 42 = σ 42 := goFm_row σ so mo (by decide) (by decide) (by decide) (by decide) C
    have hV2 : VM (goFm σ so mo C) S M := by unfold VM; rw [hr]; exact hV
    have hc2 : ¬ goFm σ so mo C 42 2 = 0 := by rw [hr]; exact c_4
    refine tq_aload_n 0 (dget dX8_pairs 5 rfl) rfl rfl ?_
    refine mq_Vv (As := []) (rest := []) (dget dX8_pairs 6 rfl) lX8_160 miX8_goOffers (k_goOffers σ C so mo hO d (by omega)) rfl rfl rfl rfl (Nat.le_of_ble_eq_true rfl) (Nat.le_of_ble_eq_true rfl) (fun σ_12 h_12 => ?_)
    obtain rfl := Eq.symm h_12
    refine tq_lconst (v := 0) (dget dX8_pairs 7 rfl) rfl ?_
    refine tq_lstore_n (ls2 := [(1, .long 0), (0, .ref 42)]) (dget dX8_pairs 8 rfl) rfl (by decide) rfl ?_
    refine tq_aload_n 1 (dget dX8_pairs 9 rfl) rfl rfl ?_
    refine tq_getI (dget dX8_pairs 10 rfl) fX8_81 rfl rfl ?_
    refine tq_iconst (v := 1) (dget dX8_pairs 11 rfl) rfl ?_
    refine tq_isub (dget dX8_pairs 12 rfl) ?_
    refine tq_istore_n (ls2 := [(3, .int (((goFm σ so mo C) 42 1) - 1)), (1, .long 0), (0, .ref 42)]) (dget dX8_pairs 13 rfl) rfl (by decide) rfl ?_
    refine tq_sub [0, 1, 2] (ls' := [(3, .int (((goFm σ so mo C) 42 1) - 1)), (1, .long 0), (0, .ref 42)]) rfl ?_
    rw [hV2.1, show (0 : Int64) = prM (goFm σ so mo C 54) S (S - S) by rw [Nat.sub_self]; rfl]
    have hX := k_pairs_loop (goFm σ so mo C) S M hV2 hc2 (d + 1) (by omega) (S + 1) S (by omega) (Nat.le_refl _)
    rw [hr] at hX
    simp only [cnd_f c_4] at hX ⊢
    exact hX
  · refine mq_Sl (As := []) (rest := []) (dget dX8_pairs 3 rfl) lX8_77 miX8_lost (k_lost σ d (by omega)) rfl rfl (Nat.le_of_ble_eq_true rfl) (Nat.le_of_ble_eq_true rfl) (fun r_7 σ_7 h_7 => ?_)
    obtain ⟨a_7, e_7⟩ := h_7
    obtain rfl := a_7.symm
    obtain rfl := e_7.symm
    exact tq_lret rfl (dget dX8_pairs 4 rfl) ⟨_, rfl, by simp only [cnd_t (P := σ 42 2 = 0) c_4], by simp only [cnd_t (P := σ 42 2 = 0) c_4]⟩

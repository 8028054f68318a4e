/-! ===== the reference (9): cells barred, copy, a row asked ===== -/
def fcM (σ : Mem) (k l i n : Int32) : Int32 := fcF (mHas σ k) (σ 60 (cl k)) (σ 59 (cl k)) l i n
theorem mHas_0 {σ : Mem} {k : Nat} (hk : k < 4) (h : σ 59 k < 0) : mHas σ (nI k) = 0 := by
  unfold mHas
  rw [show cl (nI k) = k from nI_clamp (by omega)]
  exact if_pos h
theorem mHas_1 {σ : Mem} {k : Nat} (hk : k < 4) (h : ¬ σ 59 k < 0) : mHas σ (nI k) = 1 := by
  unfold mHas
  rw [show cl (nI k) = k from nI_clamp (by omega)]
  exact if_neg h
theorem fcM_n {σ : Mem} {k l i n : Int32} (h : fcM σ k l i n = 0) : 0 ≤ i ∧ i ≤ σ 59 (cl k) ∧ 0 ≤ n ∧ n ≤ σ 59 (cl k) - i := by
  unfold fcM fcF at h
  by_cases h1 : frF (mHas σ k) (σ 60 (cl k)) l = 0
  · rw [if_neg (fun q => q h1)] at h
    by_cases h2 : n < 0
    · rw [if_pos h2] at h; exact absurd h (by decide)
    · rw [if_neg h2] at h
      by_cases h3 : 0 ≤ i ∧ i ≤ σ 59 (cl k) ∧ 0 ≤ n ∧ n ≤ σ 59 (cl k) - i
      · exact h3
      · rw [if_neg h3] at h; exact absurd h (by decide)
  · rw [if_pos h1] at h; exact absurd h h1
theorem fc_range (has lane len l i n : Int32) : fcF has lane len l i n = 0 ∨ fcF has lane len l i n = 1 ∨ fcF has lane len l i n = 2 ∨ fcF has lane len l i n = 3 ∨ fcF has lane len l i n = 4 := by
  unfold fcF
  by_cases h1 : frF has lane l = 0
  · rw [if_neg (fun q => q h1)]
    by_cases h2 : n < 0
    · rw [if_pos h2]; exact Or.inr (Or.inr (Or.inr (Or.inr rfl)))
    · rw [if_neg h2]
      by_cases h3 : 0 ≤ i ∧ i ≤ len ∧ 0 ≤ n ∧ n ≤ len - i
      · rw [if_pos h3]; exact Or.inl rfl
      · rw [if_neg h3]; exact Or.inr (Or.inr (Or.inr (Or.inl rfl)))
  · rw [if_pos h1]
    unfold frF at h1 ⊢
    by_cases h2 : has = 0
    · rw [if_pos h2]; exact Or.inr (Or.inl rfl)
    · rw [if_neg h2] at h1 ⊢
      by_cases h3 : lane = l
      · rw [if_pos h3] at h1; exact absurd rfl h1
      · rw [if_neg h3]; exact Or.inr (Or.inr (Or.inl rfl))
theorem cb_neg (f : Int32) (h : f = 0 ∨ f = 1 ∨ f = 2 ∨ f = 3 ∨ f = 4) : (cnd (f = 0) 0 (-10 - f) < 0) ↔ ¬ f = 0 := by
  rcases h with rfl | rfl | rfl | rfl | rfl
  · rw [cnd_t rfl]; decide
  · rw [cnd_f (by decide)]; decide
  · rw [cnd_f (by decide)]; decide
  · rw [cnd_f (by decide)]; decide
  · rw [cnd_f (by decide)]; decide

set_option maxHeartbeats 4000000 in
set_option maxRecDepth 20000 in
theorem k_cellsBarred (σ : Mem) (hz : szOK σ) (kk : Nat) (hkk : kk < 4) (l i n : Int32) (d : Nat) (hd : 1 ≤ d) : PMet d mX8_cellsBarred [.ref 42, .int (nI kk), .int l, .int i, .long n.toInt64] σ (Pi (fun v σ2 => v = cnd (fcM σ (nI kk) l i n = 0) 0 (-10 - fcM σ (nI kk) l i n) ∧ σ2 = cnd (fcM σ (nI kk) l i n = 0) σ (up σ 42 0 (fcM σ (nI kk) l i n)))) := by
  obtain ⟨d, rfl⟩ : ∃ e, d = e + 1 := ⟨d - 1, by omega⟩
  refine PMet.start (ls0 := [(0, .ref 42), (1, .int (nI kk)), (2, .int l), (3, .int i), (4, .long n.toInt64)]) miX8_cellsBarred.1 (Nat.le_of_ble_eq_true rfl) rfl ?_
  refine tq_aload_n 0 (dget dX8_cellsBarred 0 rfl) rfl rfl ?_
  refine tq_getR (dget dX8_cellsBarred 1 rfl) fX8_59 rfl rfl ?_
  refine tq_iload_n 1 (dget dX8_cellsBarred 2 rfl) rfl rfl ?_
  refine tq_ialdN kk (dget dX8_cellsBarred 3 rfl) rfl (by decide) rfl (by omega) ?_
  refine tq_if_lt (tgt := 25) (dget dX8_cellsBarred 4 rfl) (by decide) (fun c_6 => ?_) (fun c_6 => ?_)
  · refine tq_aload_n 0 (dget dX8_cellsBarred 15 rfl) rfl rfl ?_
    refine tq_getR (dget dX8_cellsBarred 16 rfl) fX8_59 rfl rfl ?_
    refine tq_iload_n 1 (dget dX8_cellsBarred 17 rfl) rfl rfl ?_
    refine tq_ialdN kk (dget dX8_cellsBarred 18 rfl) rfl (by decide) rfl (by omega) ?_
    refine tq_if_ge (tgt := 40) (dget dX8_cellsBarred 19 rfl) (by decide) (fun c_31 => ?_) (fun c_31 => ?_)
    · obtain ⟨L, hL, eL⟩ := (hz kk hkk).resolve_left (fun e => absurd c_31 (by rw [e]; decide))
      refine tq_lload 4 (dget dX8_cellsBarred 24 rfl) rfl ?_
      refine tq_lconst (v := 0) (dget dX8_cellsBarred 25 rfl) rfl ?_
      refine tq_lcmp (dget dX8_cellsBarred 26 rfl) ?_
      refine tq_if_ge (tgt := 53) (dget dX8_cellsBarred 27 rfl) (by decide) (fun c_44 => ?_) (fun c_44 => ?_)
      · refine tq_iload_n 3 (dget dX8_cellsBarred 32 rfl) rfl rfl ?_
        refine tq_lload 4 (dget dX8_cellsBarred 33 rfl) rfl ?_
        refine tq_aload_n 0 (dget dX8_cellsBarred 34 rfl) rfl rfl ?_
        refine tq_getR (dget dX8_cellsBarred 35 rfl) fX8_59 rfl rfl ?_
        refine tq_iload_n 1 (dget dX8_cellsBarred 36 rfl) rfl rfl ?_
        refine tq_ialdN kk (dget dX8_cellsBarred 37 rfl) rfl (by decide) rfl (by omega) ?_
        refine mq_Si (As := [.int i, .long n.toInt64, .int (σ 59 kk)]) (rest := []) (dget dX8_cellsBarred 38 rfl) lX8_123 miX8_isBeyond (by rw [eL]; exact k_isBeyond σ i n L hL d (by omega)) rfl rfl (Nat.le_of_ble_eq_true rfl) (Nat.le_of_ble_eq_true rfl) (fun r_62 σ_62 h_62 => ?_)
        obtain ⟨b_62, e_62⟩ := h_62
        obtain rfl := e_62.symm
        refine tq_if_eq (tgt := 76) (dget dX8_cellsBarred 39 rfl) (by decide) (fun c_65 => ?_) (fun c_65 => ?_)
        · refine tq_iconst (v := 0) (dget dX8_cellsBarred 44 rfl) rfl ?_
          exact tq_iret rfl (dget dX8_cellsBarred 45 rfl) (by have hh := mHas_1 hkk (Int32.not_lt.mpr c_31); have h16 : σ 60 kk = l := absurd c_6 (Int32.not_lt.mpr c_31); have hfr : frF 1 (σ 60 kk) l = 0 := (by unfold frF; rw [if_neg (by decide), if_pos h16]); have hn : ¬ n < 0 := Int32.not_lt.mpr ((w_0 n).mp ((lg_cmp_ge _ _).mp c_44)); have hF : fcM σ (nI kk) l i n = 0 := (by unfold fcM fcF; rw [hh, show cl (nI kk) = kk from nI_clamp (by omega), if_neg (fun q => q hfr), if_neg hn, if_pos (by rw [eL]; exact Classical.not_not.mp (b_62.f c_65))]); exact ⟨_, rfl, by rw [hF]; exact (cnd_t rfl _ _).symm, by rw [hF]; exact (cnd_t rfl _ _).symm⟩)
        · refine tq_aload_n 0 (dget dX8_cellsBarred 40 rfl) rfl rfl ?_
          refine tq_iconst (v := 3) (dget dX8_cellsBarred 41 rfl) rfl ?_
          refine mq_Vi (As := [.int 3]) (rest := []) (dget dX8_cellsBarred 42 rfl) lX8_119 miX8_failed (k_failed σ 3 d (by omega)) rfl rfl rfl rfl (Nat.le_of_ble_eq_true rfl) (Nat.le_of_ble_eq_true rfl) (fun r_70 σ_70 h_70 => ?_)
          obtain ⟨a_70, e_70⟩ := h_70
          rw [a_70]
          obtain rfl := e_70.symm
          refine tq_goto (tgt := 77) (dget dX8_cellsBarred 43 rfl) (by decide) ?_
          exact tq_iret rfl (dget dX8_cellsBarred 45 rfl) (by have hh := mHas_1 hkk (Int32.not_lt.mpr c_31); have h16 : σ 60 kk = l := absurd c_6 (Int32.not_lt.mpr c_31); have hfr : frF 1 (σ 60 kk) l = 0 := (by unfold frF; rw [if_neg (by decide), if_pos h16]); have hn : ¬ n < 0 := Int32.not_lt.mpr ((w_0 n).mp ((lg_cmp_ge _ _).mp c_44)); have hF : fcM σ (nI kk) l i n = 3 := (by unfold fcM fcF; rw [hh, show cl (nI kk) = kk from nI_clamp (by omega), if_neg (fun q => q hfr), if_neg hn, if_neg (by rw [eL]; exact b_62.t c_65)]); exact ⟨_, rfl, by rw [hF, cnd_f (by decide)], by rw [hF, cnd_f (by decide)]⟩)
      · refine tq_aload_n 0 (dget dX8_cellsBarred 28 rfl) rfl rfl ?_
        refine tq_iconst (v := 4) (dget dX8_cellsBarred 29 rfl) rfl ?_
        refine mq_Vi (As := [.int 4]) (rest := []) (dget dX8_cellsBarred 30 rfl) lX8_119 miX8_failed (k_failed σ 4 d (by omega)) rfl rfl rfl rfl (Nat.le_of_ble_eq_true rfl) (Nat.le_of_ble_eq_true rfl) (fun r_49 σ_49 h_49 => ?_)
        obtain ⟨a_49, e_49⟩ := h_49
        rw [a_49]
        obtain rfl := e_49.symm
        exact tq_iret rfl (dget dX8_cellsBarred 31 rfl) (by have hh := mHas_1 hkk (Int32.not_lt.mpr c_31); have h16 : σ 60 kk = l := absurd c_6 (Int32.not_lt.mpr c_31); have hfr : frF 1 (σ 60 kk) l = 0 := (by unfold frF; rw [if_neg (by decide), if_pos h16]); have hF : fcM σ (nI kk) l i n = 4 := (by unfold fcM fcF; rw [hh, show cl (nI kk) = kk from nI_clamp (by omega), if_neg (fun q => q hfr), if_pos (Int32.not_le.mp (fun q => c_44 ((lg_cmp_ge _ _).mpr ((w_0 n).mpr q))))]); exact ⟨_, rfl, by rw [hF, cnd_f (by decide)], by rw [hF, cnd_f (by decide)]⟩)
    · refine tq_aload_n 0 (dget dX8_cellsBarred 20 rfl) rfl rfl ?_
      refine tq_iconst (v := 1) (dget dX8_cellsBarred 21 rfl) rfl ?_
      refine mq_Vi (As := [.int 1]) (rest := []) (dget dX8_cellsBarred 22 rfl) lX8_119 miX8_failed (k_failed σ 1 d (by omega)) rfl rfl rfl rfl (Nat.le_of_ble_eq_true rfl) (Nat.le_of_ble_eq_true rfl) (fun r_36 σ_36 h_36 => ?_)
      obtain ⟨a_36, e_36⟩ := h_36
      rw [a_36]
      obtain rfl := e_36.symm
      exact tq_iret rfl (dget dX8_cellsBarred 23 rfl) (by have hh := mHas_0 hkk (Int32.not_le.mp c_31); have hF : fcM σ (nI kk) l i n = 1 := (by unfold fcM fcF; rw [hh, show cl (nI kk) = kk from nI_clamp (by omega)]; unfold frF; rw [if_pos (by rw [if_pos rfl]; decide), if_pos rfl]); exact ⟨_, rfl, by rw [hF, cnd_f (by decide)], by rw [hF, cnd_f (by decide)]⟩)
  · refine tq_aload_n 0 (dget dX8_cellsBarred 5 rfl) rfl rfl ?_
    refine tq_getR (dget dX8_cellsBarred 6 rfl) fX8_62 rfl rfl ?_
    refine tq_iload_n 1 (dget dX8_cellsBarred 7 rfl) rfl rfl ?_
    refine tq_ialdN kk (dget dX8_cellsBarred 8 rfl) rfl (by decide) rfl (by omega) ?_
    refine tq_iload_n 2 (dget dX8_cellsBarred 9 rfl) rfl rfl ?_
    refine tq_icmp_eq (tgt := 25) (dget dX8_cellsBarred 10 rfl) (by decide) (fun c_16 => ?_) (fun c_16 => ?_)
    · refine tq_aload_n 0 (dget dX8_cellsBarred 15 rfl) rfl rfl ?_
      refine tq_getR (dget dX8_cellsBarred 16 rfl) fX8_59 rfl rfl ?_
      refine tq_iload_n 1 (dget dX8_cellsBarred 17 rfl) rfl rfl ?_
      refine tq_ialdN kk (dget dX8_cellsBarred 18 rfl) rfl (by decide) rfl (by omega) ?_
      refine tq_if_ge (tgt := 40) (dget dX8_cellsBarred 19 rfl) (by decide) (fun c_31 => ?_) (fun c_31 => ?_)
      · obtain ⟨L, hL, eL⟩ := (hz kk hkk).resolve_left (fun e => absurd c_31 (by rw [e]; decide))
        refine tq_lload 4 (dget dX8_cellsBarred 24 rfl) rfl ?_
        refine tq_lconst (v := 0) (dget dX8_cellsBarred 25 rfl) rfl ?_
        refine tq_lcmp (dget dX8_cellsBarred 26 rfl) ?_
        refine tq_if_ge (tgt := 53) (dget dX8_cellsBarred 27 rfl) (by decide) (fun c_44 => ?_) (fun c_44 => ?_)
        · refine tq_iload_n 3 (dget dX8_cellsBarred 32 rfl) rfl rfl ?_
          refine tq_lload 4 (dget dX8_cellsBarred 33 rfl) rfl ?_
          refine tq_aload_n 0 (dget dX8_cellsBarred 34 rfl) rfl rfl ?_
          refine tq_getR (dget dX8_cellsBarred 35 rfl) fX8_59 rfl rfl ?_
          refine tq_iload_n 1 (dget dX8_cellsBarred 36 rfl) rfl rfl ?_
          refine tq_ialdN kk (dget dX8_cellsBarred 37 rfl) rfl (by decide) rfl (by omega) ?_
          refine mq_Si (As := [.int i, .long n.toInt64, .int (σ 59 kk)]) (rest := []) (dget dX8_cellsBarred 38 rfl) lX8_123 miX8_isBeyond (by rw [eL]; exact k_isBeyond σ i n L hL d (by omega)) rfl rfl (Nat.le_of_ble_eq_true rfl) (Nat.le_of_ble_eq_true rfl) (fun r_62 σ_62 h_62 => ?_)
          obtain ⟨b_62, e_62⟩ := h_62
          obtain rfl := e_62.symm
          refine tq_if_eq (tgt := 76) (dget dX8_cellsBarred 39 rfl) (by decide) (fun c_65 => ?_) (fun c_65 => ?_)
          · refine tq_iconst (v := 0) (dget dX8_cellsBarred 44 rfl) rfl ?_
            exact tq_iret rfl (dget dX8_cellsBarred 45 rfl) (by have hh := mHas_1 hkk (Int32.not_lt.mpr c_31); have h16 : σ 60 kk = l := c_16; have hfr : frF 1 (σ 60 kk) l = 0 := (by unfold frF; rw [if_neg (by decide), if_pos h16]); have hn : ¬ n < 0 := Int32.not_lt.mpr ((w_0 n).mp ((lg_cmp_ge _ _).mp c_44)); have hF : fcM σ (nI kk) l i n = 0 := (by unfold fcM fcF; rw [hh, show cl (nI kk) = kk from nI_clamp (by omega), if_neg (fun q => q hfr), if_neg hn, if_pos (by rw [eL]; exact Classical.not_not.mp (b_62.f c_65))]); exact ⟨_, rfl, by rw [hF]; exact (cnd_t rfl _ _).symm, by rw [hF]; exact (cnd_t rfl _ _).symm⟩)
          · refine tq_aload_n 0 (dget dX8_cellsBarred 40 rfl) rfl rfl ?_
            refine tq_iconst (v := 3) (dget dX8_cellsBarred 41 rfl) rfl ?_
            refine mq_Vi (As := [.int 3]) (rest := []) (dget dX8_cellsBarred 42 rfl) lX8_119 miX8_failed (k_failed σ 3 d (by omega)) rfl rfl rfl rfl (Nat.le_of_ble_eq_true rfl) (Nat.le_of_ble_eq_true rfl) (fun r_70 σ_70 h_70 => ?_)
            obtain ⟨a_70, e_70⟩ := h_70
            rw [a_70]
            obtain rfl := e_70.symm
            refine tq_goto (tgt := 77) (dget dX8_cellsBarred 43 rfl) (by decide) ?_
            exact tq_iret rfl (dget dX8_cellsBarred 45 rfl) (by have hh := mHas_1 hkk (Int32.not_lt.mpr c_31); have h16 : σ 60 kk = l := c_16; have hfr : frF 1 (σ 60 kk) l = 0 := (by unfold frF; rw [if_neg (by decide), if_pos h16]); have hn : ¬ n < 0 := Int32.not_lt.mpr ((w_0 n).mp ((lg_cmp_ge _ _).mp c_44)); have hF : fcM σ (nI kk) l i n = 3 := (by unfold fcM fcF; rw [hh, show cl (nI kk) = kk from nI_clamp (by omega), if_neg (fun q => q hfr), if_neg hn, if_neg (by rw [eL]; exact b_62.t c_65)]); exact ⟨_, rfl, by rw [hF, cnd_f (by decide)], by rw [hF, cnd_f (by decide)]⟩)
        · refine tq_aload_n 0 (dget dX8_cellsBarred 28 rfl) rfl rfl ?_
          refine tq_iconst (v := 4) (dget dX8_cellsBarred 29 rfl) rfl ?_
          refine mq_Vi (As := [.int 4]) (rest := []) (dget dX8_cellsBarred 30 rfl) lX8_119 miX8_failed (k_failed σ 4 d (by omega)) rfl rfl rfl rfl (Nat.le_of_ble_eq_true rfl) (Nat.le_of_ble_eq_true rfl) (fun r_49 σ_49 h_49 => ?_)
          obtain ⟨a_49, e_49⟩ := h_49
          rw [a_49]
          obtain rfl := e_49.symm
          exact tq_iret rfl (dget dX8_cellsBarred 31 rfl) (by have hh := mHas_1 hkk (Int32.not_lt.mpr c_31); have h16 : σ 60 kk = l := c_16; have hfr : frF 1 (σ 60 kk) l = 0 := (by unfold frF; rw [if_neg (by decide), if_pos h16]); have hF : fcM σ (nI kk) l i n = 4 := (by unfold fcM fcF; rw [hh, show cl (nI kk) = kk from nI_clamp (by omega), if_neg (fun q => q hfr), if_pos (Int32.not_le.mp (fun q => c_44 ((lg_cmp_ge _ _).mpr ((w_0 n).mpr q))))]); exact ⟨_, rfl, by rw [hF, cnd_f (by decide)], by rw [hF, cnd_f (by decide)]⟩)
      · refine tq_aload_n 0 (dget dX8_cellsBarred 20 rfl) rfl rfl ?_
        refine tq_iconst (v := 1) (dget dX8_cellsBarred 21 rfl) rfl ?_
        refine mq_Vi (As := [.int 1]) (rest := []) (dget dX8_cellsBarred 22 rfl) lX8_119 miX8_failed (k_failed σ 1 d (by omega)) rfl rfl rfl rfl (Nat.le_of_ble_eq_true rfl) (Nat.le_of_ble_eq_true rfl) (fun r_36 σ_36 h_36 => ?_)
        obtain ⟨a_36, e_36⟩ := h_36
        rw [a_36]
        obtain rfl := e_36.symm
        exact tq_iret rfl (dget dX8_cellsBarred 23 rfl) (by have hh := mHas_0 hkk (Int32.not_le.mp c_31); have hF : fcM σ (nI kk) l i n = 1 := (by unfold fcM fcF; rw [hh, show cl (nI kk) = kk from nI_clamp (by omega)]; unfold frF; rw [if_pos (by rw [if_pos rfl]; decide), if_pos rfl]); exact ⟨_, rfl, by rw [hF, cnd_f (by decide)], by rw [hF, cnd_f (by decide)]⟩)
    · refine tq_aload_n 0 (dget dX8_cellsBarred 11 rfl) rfl rfl ?_
      refine tq_iconst (v := 2) (dget dX8_cellsBarred 12 rfl) rfl ?_
      refine mq_Vi (As := [.int 2]) (rest := []) (dget dX8_cellsBarred 13 rfl) lX8_119 miX8_failed (k_failed σ 2 d (by omega)) rfl rfl rfl rfl (Nat.le_of_ble_eq_true rfl) (Nat.le_of_ble_eq_true rfl) (fun r_21 σ_21 h_21 => ?_)
      obtain ⟨a_21, e_21⟩ := h_21
      rw [a_21]
      obtain rfl := e_21.symm
      exact tq_iret rfl (dget dX8_cellsBarred 14 rfl) (by have hh := mHas_1 hkk c_6; have hF : fcM σ (nI kk) l i n = 2 := (by unfold fcM fcF; rw [hh, show cl (nI kk) = kk from nI_clamp (by omega), if_pos (by unfold frF; rw [if_neg (by decide), if_neg c_16]; decide)]; unfold frF; rw [if_neg (by decide), if_neg c_16]); exact ⟨_, rfl, by rw [hF, cnd_f (by decide)], by rw [hF, cnd_f (by decide)]⟩)
def cpA (τ : Mem) (b : Nat) (n : Nat) : Mem := upR τ 62 (fun j => if j < n then τ 61 (b + j) else τ 62 j)
def cpB (τ : Mem) (b : Nat) (n : Nat) : Mem := upR τ 61 (fun j => if b ≤ j ∧ j < b + n then τ 62 (j - b) else τ 61 j)
theorem cpA_0 (τ : Mem) (b : Nat) : τ = cpA τ b 0 := by
  unfold cpA
  rw [show (fun j => if j < 0 then τ 61 (b + j) else τ 62 j) = τ 62 by funext j; rw [if_neg (by omega)]]
  exact (upR_self τ 62).symm
theorem cpA_s (τ : Mem) (b k : Nat) : up (cpA τ b k) 62 k (cpA τ b k 61 (b + k)) = cpA τ b (k + 1) := by
  have e : cpA τ b k 61 = τ 61 := upR_n (by decide)
  rw [e]
  unfold up cpA
  rw [upR_upR, upR_s]
  congr 1
  funext j
  unfold upd
  by_cases h : j = k
  · subst h; rw [if_pos rfl, if_pos (by omega)]
  · rw [if_neg h]
    show (if j < k then τ 61 (b + j) else τ 62 j) = _
    by_cases h2 : j < k
    · rw [if_pos h2, if_pos (by omega)]
    · rw [if_neg h2, if_neg (by omega)]
theorem cpB_0 (τ : Mem) (b : Nat) : τ = cpB τ b 0 := by
  unfold cpB
  rw [show (fun j => if b ≤ j ∧ j < b + 0 then τ 62 (j - b) else τ 61 j) = τ 61 by funext j; rw [if_neg (by omega)]]
  exact (upR_self τ 61).symm
theorem cpB_s (τ : Mem) (b k : Nat) : up (cpB τ b k) 61 (b + k) (cpB τ b k 62 k) = cpB τ b (k + 1) := by
  have e : cpB τ b k 62 = τ 62 := upR_n (by decide)
  rw [e]
  unfold up cpB
  rw [upR_upR, upR_s]
  congr 1
  funext j
  unfold upd
  by_cases h : j = b + k
  · subst h; rw [if_pos rfl, if_pos (by omega), show b + k - b = k by omega]
  · rw [if_neg h]
    show (if b ≤ j ∧ j < b + k then τ 62 (j - b) else τ 61 j) = _
    by_cases h2 : b ≤ j ∧ j < b + k
    · rw [if_pos h2, if_pos (by omega)]
    · rw [if_neg h2, if_neg (by omega)]

set_option maxHeartbeats 4000000 in
set_option maxRecDepth 20000 in
theorem k_copy_b (σ : Mem) (kk oo a b N : Nat) (hkk : kk < 4) (hoo : oo < 4) (ha : a + N ≤ 100) (hb : b + N ≤ 100) (d : Nat) (hd : 2 ≤ d) : ∀ (n : Nat) (x : Nat) (hm : N < x + n) (hx : x ≤ N), PAt (EM d (Pi (fun v σ2 => v = nI N ∧ σ2 = up (cpB (cpA σ (100 * kk + a) N) (100 * oo + b) N) 42 0 0))) mX8_copy 144 [(6, .int (nI x)), (0, .ref 42), (1, .int (nI kk)), (2, .int (nI a)), (3, .int (nI oo)), (4, .int (nI b)), (5, .int (nI N))] [] (cpB (cpA σ (100 * kk + a) N) (100 * oo + b) x) := by
  obtain ⟨d, rfl⟩ : ∃ e, d = e + 1 := ⟨d - 1, by omega⟩
  intro n
  induction n with
  | zero => intro x hm hx; exact absurd hm (by omega)
  | succ n ih =>
    intro x hm hx
    refine tq_iload 0 (dget dX8_copy 82 rfl) rfl ?_
    refine tq_iload 6 (dget dX8_copy 83 rfl) rfl ?_
    refine tq_icmp_ge (tgt := 179) (dget dX8_copy 84 rfl) (by decide) (fun c_148 => ?_) (fun c_148 => ?_)
    · have g_148 := kle (by omega) (by omega) c_148
      have g_149 : x = N := by omega
      refine tq_aload_n 1 (dget dX8_copy 101 rfl) rfl rfl ?_
      refine tq_iload 6 (dget dX8_copy 102 rfl) rfl ?_
      refine mq_Vi (As := [.int (nI N)]) (rest := []) (dget dX8_copy 103 rfl) lX8_131 miX8_refused (k_refused (cpB (cpA σ (100 * kk + a) N) (100 * oo + b) x) (nI N) d (by omega)) rfl rfl rfl rfl (Nat.le_of_ble_eq_true rfl) (Nat.le_of_ble_eq_true rfl) (fun r_182 σ_182 h_182 => ?_)
      obtain ⟨a_182, e_182⟩ := h_182
      rw [a_182]
      obtain rfl := e_182.symm
      exact tq_iret rfl (dget dX8_copy 104 rfl) ⟨_, rfl, rfl, by rw [g_149]⟩
    · have g_148 := knle (by omega) (by omega) c_148
      refine tq_aload_n 1 (dget dX8_copy 85 rfl) rfl rfl ?_
      refine tq_getR (dget dX8_copy 86 rfl) fX8_65 rfl rfl ?_
      refine tq_bipush (v := 100) (dget dX8_copy 87 rfl) rfl ?_
      refine tq_iload_n 4 (dget dX8_copy 88 rfl) rfl rfl ?_
      refine tq_imul (dget dX8_copy 89 rfl) ?_
      refine tq_eqi (y := (nI (100 * oo))) (nI_mulN (100) (oo)) ?_
      refine tq_iload 5 (dget dX8_copy 90 rfl) rfl ?_
      refine tq_iadd (dget dX8_copy 91 rfl) ?_
      refine tq_eqi (y := (nI ((100 * oo) + b))) (nI_add ((100 * oo)) (b)) ?_
      refine tq_iload 0 (dget dX8_copy 92 rfl) rfl ?_
      refine tq_iadd (dget dX8_copy 93 rfl) ?_
      refine tq_eqi (y := (nI (((100 * oo) + b) + x))) (nI_add (((100 * oo) + b)) (x)) ?_
      refine tq_aload_n 1 (dget dX8_copy 94 rfl) rfl rfl ?_
      refine tq_getR (dget dX8_copy 95 rfl) fX8_68 rfl rfl ?_
      refine tq_iload 0 (dget dX8_copy 96 rfl) rfl ?_
      refine tq_ialdN x (dget dX8_copy 97 rfl) rfl (by decide) rfl (by omega) ?_
      refine tq_iastN (((100 * oo) + b) + x) (dget dX8_copy 98 rfl) rfl (by decide) rfl (by omega) ?_
      refine tq_iinc (v := (nI (x + 1))) (ls2 := [(6, .int (nI (x + 1))), (0, .ref 42), (1, .int (nI kk)), (2, .int (nI a)), (3, .int (nI oo)), (4, .int (nI b)), (5, .int (nI N))]) 0 (dget dX8_copy 99 rfl) rfl (nI_1 x) (by decide) rfl ?_
      refine tq_goto (tgt := 144) (dget dX8_copy 100 rfl) (by decide) ?_
      refine tq_sub [0, 1, 2, 3, 4, 5, 6] (ls' := [(6, .int (nI (x + 1))), (0, .ref 42), (1, .int (nI kk)), (2, .int (nI a)), (3, .int (nI oo)), (4, .int (nI b)), (5, .int (nI N))]) rfl ?_
      refine tq_mem (cpB_s (cpA σ (100 * kk + a) N) (100 * oo + b) x) ?_
      exact ih (x + 1) (by omega) (by omega)
set_option maxHeartbeats 4000000 in
set_option maxRecDepth 20000 in
theorem k_copy_a (σ : Mem) (kk oo a b N : Nat) (hkk : kk < 4) (hoo : oo < 4) (ha : a + N ≤ 100) (hb : b + N ≤ 100) (d : Nat) (hd : 2 ≤ d) : ∀ (n : Nat) (x : Nat) (hm : N < x + n) (hx : x ≤ N), PAt (EM d (Pi (fun v σ2 => v = nI N ∧ σ2 = up (cpB (cpA σ (100 * kk + a) N) (100 * oo + b) N) 42 0 0))) mX8_copy 107 [(6, .int (nI x)), (0, .ref 42), (1, .int (nI kk)), (2, .int (nI a)), (3, .int (nI oo)), (4, .int (nI b)), (5, .int (nI N))] [] (cpA σ (100 * kk + a) x) := by
  obtain ⟨d, rfl⟩ : ∃ e, d = e + 1 := ⟨d - 1, by omega⟩
  intro n
  induction n with
  | zero => intro x hm hx; exact absurd hm (by omega)
  | succ n ih =>
    intro x hm hx
    refine tq_iload 0 (dget dX8_copy 61 rfl) rfl ?_
    refine tq_iload 6 (dget dX8_copy 62 rfl) rfl ?_
    refine tq_icmp_ge (tgt := 141) (dget dX8_copy 63 rfl) (by decide) (fun c_111 => ?_) (fun c_111 => ?_)
    · have g_111 := kle (by omega) (by omega) c_111
      have g_112 : x = N := by omega
      refine tq_iconst (v := 0) (dget dX8_copy 80 rfl) rfl ?_
      refine tq_istore (ls2 := [(6, .int 0), (0, .ref 42), (1, .int (nI kk)), (2, .int (nI a)), (3, .int (nI oo)), (4, .int (nI b)), (5, .int (nI N))]) (dget dX8_copy 81 rfl) (by decide) rfl ?_
      refine tq_sub [0, 1, 2, 3, 4, 5, 6] (ls' := [(6, .int 0), (0, .ref 42), (1, .int (nI kk)), (2, .int (nI a)), (3, .int (nI oo)), (4, .int (nI b)), (5, .int (nI N))]) rfl ?_
      rw [g_112, show (0 : Int32) = nI 0 from rfl]
      refine tq_mem (cpB_0 _ (100 * oo + b)) ?_
      exact k_copy_b σ kk oo a b N hkk hoo ha hb (d + 1) (by omega) (N + 1) 0 (by omega) (by omega)
    · have g_111 := knle (by omega) (by omega) c_111
      refine tq_aload_n 1 (dget dX8_copy 64 rfl) rfl rfl ?_
      refine tq_getR (dget dX8_copy 65 rfl) fX8_68 rfl rfl ?_
      refine tq_iload 0 (dget dX8_copy 66 rfl) rfl ?_
      refine tq_aload_n 1 (dget dX8_copy 67 rfl) rfl rfl ?_
      refine tq_getR (dget dX8_copy 68 rfl) fX8_65 rfl rfl ?_
      refine tq_bipush (v := 100) (dget dX8_copy 69 rfl) rfl ?_
      refine tq_iload_n 2 (dget dX8_copy 70 rfl) rfl rfl ?_
      refine tq_imul (dget dX8_copy 71 rfl) ?_
      refine tq_eqi (y := (nI (100 * kk))) (nI_mulN (100) (kk)) ?_
      refine tq_iload_n 3 (dget dX8_copy 72 rfl) rfl rfl ?_
      refine tq_iadd (dget dX8_copy 73 rfl) ?_
      refine tq_eqi (y := (nI ((100 * kk) + a))) (nI_add ((100 * kk)) (a)) ?_
      refine tq_iload 0 (dget dX8_copy 74 rfl) rfl ?_
      refine tq_iadd (dget dX8_copy 75 rfl) ?_
      refine tq_eqi (y := (nI (((100 * kk) + a) + x))) (nI_add (((100 * kk) + a)) (x)) ?_
      refine tq_ialdN (((100 * kk) + a) + x) (dget dX8_copy 76 rfl) rfl (by decide) rfl (by omega) ?_
      refine tq_iastN x (dget dX8_copy 77 rfl) rfl (by decide) rfl (by omega) ?_
      refine tq_iinc (v := (nI (x + 1))) (ls2 := [(6, .int (nI (x + 1))), (0, .ref 42), (1, .int (nI kk)), (2, .int (nI a)), (3, .int (nI oo)), (4, .int (nI b)), (5, .int (nI N))]) 0 (dget dX8_copy 78 rfl) rfl (nI_1 x) (by decide) rfl ?_
      refine tq_goto (tgt := 107) (dget dX8_copy 79 rfl) (by decide) ?_
      refine tq_sub [0, 1, 2, 3, 4, 5, 6] (ls' := [(6, .int (nI (x + 1))), (0, .ref 42), (1, .int (nI kk)), (2, .int (nI a)), (3, .int (nI oo)), (4, .int (nI b)), (5, .int (nI N))]) rfl ?_
      refine tq_mem (cpA_s σ (100 * kk + a) x) ?_
      exact ih (x + 1) (by omega) (by omega)
set_option maxHeartbeats 4000000 in
set_option maxRecDepth 20000 in
theorem k_copy (σ : Mem) (hz : szOK σ) (k i o j n : Int32) (d : Nat) (hd : 2 ≤ d) : PMet d mX8_copy [.ref 42, .int k, .int i, .int o, .int j, .int n] σ (Pi (fun r σ2 => r = cnd (isSh k) (cnd (isSh o) (cnd (σ 59 (cl k) < 0) (-11) (cnd (σ 59 (cl o) < 0) (-11) (cnd (σ 60 (cl k) = σ 60 (cl o)) (cnd (0 ≤ i ∧ i ≤ σ 59 (cl k) ∧ 0 ≤ n ∧ n ≤ σ 59 (cl k) - i) (cnd (0 ≤ j ∧ j ≤ σ 59 (cl o) ∧ 0 ≤ n ∧ n ≤ σ 59 (cl o) - j) n (-13)) (-13)) (-12)))) (-1)) (-1) ∧ σ2 = cnd (isSh k) (cnd (isSh o) (cnd (σ 59 (cl k) < 0) (up σ 42 0 1) (cnd (σ 59 (cl o) < 0) (up σ 42 0 1) (cnd (σ 60 (cl k) = σ 60 (cl o)) (cnd (0 ≤ i ∧ i ≤ σ 59 (cl k) ∧ 0 ≤ n ∧ n ≤ σ 59 (cl k) - i) (cnd (0 ≤ j ∧ j ≤ σ 59 (cl o) ∧ 0 ≤ n ∧ n ≤ σ 59 (cl o) - j) (up (cpB (cpA σ (100 * cl k + cl i) (cl n)) (100 * cl o + cl j) (cl n)) 42 0 0) (up σ 42 0 3)) (up σ 42 0 3)) (up σ 42 0 2)))) (up σ 42 0 0)) (up σ 42 0 0))) := by
  obtain ⟨d, rfl⟩ : ∃ e, d = e + 1 := ⟨d - 1, by omega⟩
  refine PMet.start (ls0 := [(0, .ref 42), (1, .int k), (2, .int i), (3, .int o), (4, .int j), (5, .int n)]) miX8_copy.1 (Nat.le_of_ble_eq_true rfl) rfl ?_
  refine tq_iload_n 1 (dget dX8_copy 0 rfl) rfl rfl ?_
  refine mq_Si (As := [.int k]) (rest := []) (dget dX8_copy 1 rfl) lX8_127 miX8_noSheet (k_noSheet σ k d (by omega)) rfl rfl (Nat.le_of_ble_eq_true rfl) (Nat.le_of_ble_eq_true rfl) (fun r_1 σ_1 h_1 => ?_)
  obtain ⟨b_1, e_1⟩ := h_1
  obtain rfl := e_1.symm
  refine tq_if_ne (tgt := 14) (dget dX8_copy 2 rfl) (by decide) (fun c_4 => ?_) (fun c_4 => ?_)
  · refine tq_aload_n 0 (dget dX8_copy 6 rfl) rfl rfl ?_
    refine tq_iconst (v := (-1)) (dget dX8_copy 7 rfl) rfl ?_
    refine mq_Vi (As := [.int (-1)]) (rest := []) (dget dX8_copy 8 rfl) lX8_131 miX8_refused (k_refused σ (-1) d (by omega)) rfl rfl rfl rfl (Nat.le_of_ble_eq_true rfl) (Nat.le_of_ble_eq_true rfl) (fun r_16 σ_16 h_16 => ?_)
    obtain ⟨a_16, e_16⟩ := h_16
    rw [a_16]
    obtain rfl := e_16.symm
    exact tq_iret rfl (dget dX8_copy 9 rfl) ⟨_, rfl, by simp only [cnd_f (P := isSh k) (b_1.t c_4)], by simp only [cnd_f (P := isSh k) (b_1.t c_4)]⟩
  · refine tq_iload_n 3 (dget dX8_copy 3 rfl) rfl rfl ?_
    refine mq_Si (As := [.int o]) (rest := []) (dget dX8_copy 4 rfl) lX8_127 miX8_noSheet (k_noSheet σ o d (by omega)) rfl rfl (Nat.le_of_ble_eq_true rfl) (Nat.le_of_ble_eq_true rfl) (fun r_8 σ_8 h_8 => ?_)
    obtain ⟨b_8, e_8⟩ := h_8
    obtain rfl := e_8.symm
    refine tq_if_eq (tgt := 20) (dget dX8_copy 5 rfl) (by decide) (fun c_11 => ?_) (fun c_11 => ?_)
    · obtain ⟨kk, e_kk, hkk⟩ := isSh_n (Classical.not_not.mp (b_1.f c_4))
      subst e_kk
      obtain ⟨oo, e_oo, hoo⟩ := isSh_n (Classical.not_not.mp (b_8.f c_11))
      subst e_oo
      refine tq_aload_n 0 (dget dX8_copy 10 rfl) rfl rfl ?_
      refine tq_getR (dget dX8_copy 11 rfl) fX8_59 rfl rfl ?_
      refine tq_iload_n 1 (dget dX8_copy 12 rfl) rfl rfl ?_
      refine tq_ialdN kk (dget dX8_copy 13 rfl) rfl (by decide) rfl (by omega) ?_
      refine tq_if_lt (tgt := 38) (dget dX8_copy 14 rfl) (by decide) (fun c_26 => ?_) (fun c_26 => ?_)
      · refine tq_aload_n 0 (dget dX8_copy 20 rfl) rfl rfl ?_
        refine tq_iconst (v := 1) (dget dX8_copy 21 rfl) rfl ?_
        refine mq_Vi (As := [.int 1]) (rest := []) (dget dX8_copy 22 rfl) lX8_119 miX8_failed (k_failed σ 1 d (by omega)) rfl rfl rfl rfl (Nat.le_of_ble_eq_true rfl) (Nat.le_of_ble_eq_true rfl) (fun r_40 σ_40 h_40 => ?_)
        obtain ⟨a_40, e_40⟩ := h_40
        rw [a_40]
        obtain rfl := e_40.symm
        exact tq_iret rfl (dget dX8_copy 23 rfl) ⟨_, rfl, by simp only [nI_clamp (show kk < 2 ^ 31 by omega), nI_clamp (show oo < 2 ^ 31 by omega), cnd_t (P := isSh (nI kk)) (Classical.not_not.mp (b_1.f c_4)), cnd_t (P := isSh (nI oo)) (Classical.not_not.mp (b_8.f c_11)), cnd_t (P := σ 59 kk < 0) c_26]; try rfl, by simp only [nI_clamp (show kk < 2 ^ 31 by omega), nI_clamp (show oo < 2 ^ 31 by omega), cnd_t (P := isSh (nI kk)) (Classical.not_not.mp (b_1.f c_4)), cnd_t (P := isSh (nI oo)) (Classical.not_not.mp (b_8.f c_11)), cnd_t (P := σ 59 kk < 0) c_26]⟩
      · obtain ⟨L, hL, eL⟩ := (hz kk hkk).resolve_left (fun e => c_26 (by rw [e]; decide))
        refine tq_aload_n 0 (dget dX8_copy 15 rfl) rfl rfl ?_
        refine tq_getR (dget dX8_copy 16 rfl) fX8_59 rfl rfl ?_
        refine tq_iload_n 3 (dget dX8_copy 17 rfl) rfl rfl ?_
        refine tq_ialdN oo (dget dX8_copy 18 rfl) rfl (by decide) rfl (by omega) ?_
        refine tq_if_ge (tgt := 44) (dget dX8_copy 19 rfl) (by decide) (fun c_35 => ?_) (fun c_35 => ?_)
        · obtain ⟨L2, hL2, eL2⟩ := (hz oo hoo).resolve_left (fun e => absurd c_35 (by rw [e]; decide))
          refine tq_aload_n 0 (dget dX8_copy 24 rfl) rfl rfl ?_
          refine tq_getR (dget dX8_copy 25 rfl) fX8_62 rfl rfl ?_
          refine tq_iload_n 1 (dget dX8_copy 26 rfl) rfl rfl ?_
          refine tq_ialdN kk (dget dX8_copy 27 rfl) rfl (by decide) rfl (by omega) ?_
          refine tq_aload_n 0 (dget dX8_copy 28 rfl) rfl rfl ?_
          refine tq_getR (dget dX8_copy 29 rfl) fX8_62 rfl rfl ?_
          refine tq_iload_n 3 (dget dX8_copy 30 rfl) rfl rfl ?_
          refine tq_ialdN oo (dget dX8_copy 31 rfl) rfl (by decide) rfl (by omega) ?_
          refine tq_icmp_eq (tgt := 65) (dget dX8_copy 32 rfl) (by decide) (fun c_56 => ?_) (fun c_56 => ?_)
          · refine tq_iload_n 2 (dget dX8_copy 37 rfl) rfl rfl ?_
            refine tq_iload 5 (dget dX8_copy 38 rfl) rfl ?_
            refine tq_i2l (dget dX8_copy 39 rfl) ?_
            refine tq_aload_n 0 (dget dX8_copy 40 rfl) rfl rfl ?_
            refine tq_getR (dget dX8_copy 41 rfl) fX8_59 rfl rfl ?_
            refine tq_iload_n 1 (dget dX8_copy 42 rfl) rfl rfl ?_
            refine tq_ialdN kk (dget dX8_copy 43 rfl) rfl (by decide) rfl (by omega) ?_
            refine mq_Si (As := [.int i, .long (n).toInt64, .int (σ 59 kk)]) (rest := []) (dget dX8_copy 44 rfl) lX8_123 miX8_isBeyond (by rw [eL]; exact k_isBeyond σ i n L hL d (by omega)) rfl rfl (Nat.le_of_ble_eq_true rfl) (Nat.le_of_ble_eq_true rfl) (fun r_75 σ_75 h_75 => ?_)
            obtain ⟨b_75, e_75⟩ := h_75
            obtain rfl := e_75.symm
            refine tq_if_ne (tgt := 98) (dget dX8_copy 45 rfl) (by decide) (fun c_78 => ?_) (fun c_78 => ?_)
            · refine tq_aload_n 0 (dget dX8_copy 55 rfl) rfl rfl ?_
              refine tq_iconst (v := 3) (dget dX8_copy 56 rfl) rfl ?_
              refine mq_Vi (As := [.int 3]) (rest := []) (dget dX8_copy 57 rfl) lX8_119 miX8_failed (k_failed σ 3 d (by omega)) rfl rfl rfl rfl (Nat.le_of_ble_eq_true rfl) (Nat.le_of_ble_eq_true rfl) (fun r_100 σ_100 h_100 => ?_)
              obtain ⟨a_100, e_100⟩ := h_100
              rw [a_100]
              obtain rfl := e_100.symm
              exact tq_iret rfl (dget dX8_copy 58 rfl) ⟨_, rfl, by simp only [nI_clamp (show kk < 2 ^ 31 by omega), nI_clamp (show oo < 2 ^ 31 by omega), cnd_t (P := isSh (nI kk)) (Classical.not_not.mp (b_1.f c_4)), cnd_t (P := isSh (nI oo)) (Classical.not_not.mp (b_8.f c_11)), cnd_f (P := σ 59 kk < 0) c_26, cnd_f (P := σ 59 oo < 0) (Int32.not_lt.mpr c_35), cnd_t (P := σ 60 kk = σ 60 oo) c_56, cnd_f (P := 0 ≤ i ∧ i ≤ σ 59 kk ∧ 0 ≤ n ∧ n ≤ σ 59 kk - i) (by rw [eL]; exact b_75.t c_78)]; try rfl, by simp only [nI_clamp (show kk < 2 ^ 31 by omega), nI_clamp (show oo < 2 ^ 31 by omega), cnd_t (P := isSh (nI kk)) (Classical.not_not.mp (b_1.f c_4)), cnd_t (P := isSh (nI oo)) (Classical.not_not.mp (b_8.f c_11)), cnd_f (P := σ 59 kk < 0) c_26, cnd_f (P := σ 59 oo < 0) (Int32.not_lt.mpr c_35), cnd_t (P := σ 60 kk = σ 60 oo) c_56, cnd_f (P := 0 ≤ i ∧ i ≤ σ 59 kk ∧ 0 ≤ n ∧ n ≤ σ 59 kk - i) (by rw [eL]; exact b_75.t c_78)]⟩
            · refine tq_iload 4 (dget dX8_copy 46 rfl) rfl ?_
              refine tq_iload 5 (dget dX8_copy 47 rfl) rfl ?_
              refine tq_i2l (dget dX8_copy 48 rfl) ?_
              refine tq_aload_n 0 (dget dX8_copy 49 rfl) rfl rfl ?_
              refine tq_getR (dget dX8_copy 50 rfl) fX8_59 rfl rfl ?_
              refine tq_iload_n 3 (dget dX8_copy 51 rfl) rfl rfl ?_
              refine tq_ialdN oo (dget dX8_copy 52 rfl) rfl (by decide) rfl (by omega) ?_
              refine mq_Si (As := [.int j, .long (n).toInt64, .int (σ 59 oo)]) (rest := []) (dget dX8_copy 53 rfl) lX8_123 miX8_isBeyond (by rw [eL2]; exact k_isBeyond σ j n L2 hL2 d (by omega)) rfl rfl (Nat.le_of_ble_eq_true rfl) (Nat.le_of_ble_eq_true rfl) (fun r_92 σ_92 h_92 => ?_)
              obtain ⟨b_92, e_92⟩ := h_92
              obtain rfl := e_92.symm
              refine tq_if_eq (tgt := 104) (dget dX8_copy 54 rfl) (by decide) (fun c_95 => ?_) (fun c_95 => ?_)
              · refine tq_iconst (v := 0) (dget dX8_copy 59 rfl) rfl ?_
                refine tq_istore (ls2 := [(6, .int 0), (0, .ref 42), (1, .int (nI kk)), (2, .int i), (3, .int (nI oo)), (4, .int j), (5, .int n)]) (dget dX8_copy 60 rfl) (by decide) rfl ?_
                refine tq_sub [0, 1, 2, 3, 4, 5, 6] (ls' := [(6, .int 0), (0, .ref 42), (1, .int (nI kk)), (2, .int i), (3, .int (nI oo)), (4, .int j), (5, .int n)]) rfl ?_
                obtain ⟨a, b, N, e_a, e_b, e_N, h_a, h_b⟩ := copy_n (Classical.not_not.mp (b_75.f c_78)) (Classical.not_not.mp (b_92.f c_95)) rfl rfl hL hL2
                subst e_a
                subst e_b
                subst e_N
                simp only [nI_clamp (show kk < 2 ^ 31 by omega), nI_clamp (show oo < 2 ^ 31 by omega), nI_clamp (show a < 2 ^ 31 by omega), nI_clamp (show b < 2 ^ 31 by omega), nI_clamp (show N < 2 ^ 31 by omega), cnd_t (P := isSh (nI kk)) (Classical.not_not.mp (b_1.f c_4)), cnd_t (P := isSh (nI oo)) (Classical.not_not.mp (b_8.f c_11)), cnd_f (P := σ 59 kk < 0) c_26, cnd_f (P := σ 59 oo < 0) (Int32.not_lt.mpr c_35), cnd_t (P := σ 60 kk = σ 60 oo) c_56, cnd_t (P := 0 ≤ nI a ∧ nI a ≤ σ 59 kk ∧ 0 ≤ nI N ∧ nI N ≤ σ 59 kk - nI a) (by rw [eL]; exact Classical.not_not.mp (b_75.f c_78)), cnd_t (P := 0 ≤ nI b ∧ nI b ≤ σ 59 oo ∧ 0 ≤ nI N ∧ nI N ≤ σ 59 oo - nI b) (by rw [eL2]; exact Classical.not_not.mp (b_92.f c_95))]
                rw [show (0 : Int32) = nI 0 from rfl]
                refine tq_mem (cpA_0 σ (100 * kk + a)) ?_
                exact k_copy_a σ kk oo a b N hkk hoo h_a h_b (d + 1) (by omega) (N + 1) 0 (by omega) (by omega)
              · refine tq_aload_n 0 (dget dX8_copy 55 rfl) rfl rfl ?_
                refine tq_iconst (v := 3) (dget dX8_copy 56 rfl) rfl ?_
                refine mq_Vi (As := [.int 3]) (rest := []) (dget dX8_copy 57 rfl) lX8_119 miX8_failed (k_failed σ 3 d (by omega)) rfl rfl rfl rfl (Nat.le_of_ble_eq_true rfl) (Nat.le_of_ble_eq_true rfl) (fun r_100 σ_100 h_100 => ?_)
                obtain ⟨a_100, e_100⟩ := h_100
                rw [a_100]
                obtain rfl := e_100.symm
                exact tq_iret rfl (dget dX8_copy 58 rfl) ⟨_, rfl, by simp only [nI_clamp (show kk < 2 ^ 31 by omega), nI_clamp (show oo < 2 ^ 31 by omega), cnd_t (P := isSh (nI kk)) (Classical.not_not.mp (b_1.f c_4)), cnd_t (P := isSh (nI oo)) (Classical.not_not.mp (b_8.f c_11)), cnd_f (P := σ 59 kk < 0) c_26, cnd_f (P := σ 59 oo < 0) (Int32.not_lt.mpr c_35), cnd_t (P := σ 60 kk = σ 60 oo) c_56, cnd_t (P := 0 ≤ i ∧ i ≤ σ 59 kk ∧ 0 ≤ n ∧ n ≤ σ 59 kk - i) (by rw [eL]; exact Classical.not_not.mp (b_75.f c_78)), cnd_f (P := 0 ≤ j ∧ j ≤ σ 59 oo ∧ 0 ≤ n ∧ n ≤ σ 59 oo - j) (by rw [eL2]; exact b_92.t c_95)]; try rfl, by simp only [nI_clamp (show kk < 2 ^ 31 by omega), nI_clamp (show oo < 2 ^ 31 by omega), cnd_t (P := isSh (nI kk)) (Classical.not_not.mp (b_1.f c_4)), cnd_t (P := isSh (nI oo)) (Classical.not_not.mp (b_8.f c_11)), cnd_f (P := σ 59 kk < 0) c_26, cnd_f (P := σ 59 oo < 0) (Int32.not_lt.mpr c_35), cnd_t (P := σ 60 kk = σ 60 oo) c_56, cnd_t (P := 0 ≤ i ∧ i ≤ σ 59 kk ∧ 0 ≤ n ∧ n ≤ σ 59 kk - i) (by rw [eL]; exact Classical.not_not.mp (b_75.f c_78)), cnd_f (P := 0 ≤ j ∧ j ≤ σ 59 oo ∧ 0 ≤ n ∧ n ≤ σ 59 oo - j) (by rw [eL2]; exact b_92.t c_95)]⟩
          · refine tq_aload_n 0 (dget dX8_copy 33 rfl) rfl rfl ?_
            refine tq_iconst (v := 2) (dget dX8_copy 34 rfl) rfl ?_
            refine mq_Vi (As := [.int 2]) (rest := []) (dget dX8_copy 35 rfl) lX8_119 miX8_failed (k_failed σ 2 d (by omega)) rfl rfl rfl rfl (Nat.le_of_ble_eq_true rfl) (Nat.le_of_ble_eq_true rfl) (fun r_61 σ_61 h_61 => ?_)
            obtain ⟨a_61, e_61⟩ := h_61
            rw [a_61]
            obtain rfl := e_61.symm
            exact tq_iret rfl (dget dX8_copy 36 rfl) ⟨_, rfl, by simp only [nI_clamp (show kk < 2 ^ 31 by omega), nI_clamp (show oo < 2 ^ 31 by omega), cnd_t (P := isSh (nI kk)) (Classical.not_not.mp (b_1.f c_4)), cnd_t (P := isSh (nI oo)) (Classical.not_not.mp (b_8.f c_11)), cnd_f (P := σ 59 kk < 0) c_26, cnd_f (P := σ 59 oo < 0) (Int32.not_lt.mpr c_35), cnd_f (P := σ 60 kk = σ 60 oo) c_56]; try rfl, by simp only [nI_clamp (show kk < 2 ^ 31 by omega), nI_clamp (show oo < 2 ^ 31 by omega), cnd_t (P := isSh (nI kk)) (Classical.not_not.mp (b_1.f c_4)), cnd_t (P := isSh (nI oo)) (Classical.not_not.mp (b_8.f c_11)), cnd_f (P := σ 59 kk < 0) c_26, cnd_f (P := σ 59 oo < 0) (Int32.not_lt.mpr c_35), cnd_f (P := σ 60 kk = σ 60 oo) c_56]⟩
        · refine tq_aload_n 0 (dget dX8_copy 20 rfl) rfl rfl ?_
          refine tq_iconst (v := 1) (dget dX8_copy 21 rfl) rfl ?_
          refine mq_Vi (As := [.int 1]) (rest := []) (dget dX8_copy 22 rfl) lX8_119 miX8_failed (k_failed σ 1 d (by omega)) rfl rfl rfl rfl (Nat.le_of_ble_eq_true rfl) (Nat.le_of_ble_eq_true rfl) (fun r_40 σ_40 h_40 => ?_)
          obtain ⟨a_40, e_40⟩ := h_40
          rw [a_40]
          obtain rfl := e_40.symm
          exact tq_iret rfl (dget dX8_copy 23 rfl) ⟨_, rfl, by simp only [nI_clamp (show kk < 2 ^ 31 by omega), nI_clamp (show oo < 2 ^ 31 by omega), cnd_t (P := isSh (nI kk)) (Classical.not_not.mp (b_1.f c_4)), cnd_t (P := isSh (nI oo)) (Classical.not_not.mp (b_8.f c_11)), cnd_f (P := σ 59 kk < 0) c_26, cnd_t (P := σ 59 oo < 0) (Int32.not_le.mp c_35)]; try rfl, by simp only [nI_clamp (show kk < 2 ^ 31 by omega), nI_clamp (show oo < 2 ^ 31 by omega), cnd_t (P := isSh (nI kk)) (Classical.not_not.mp (b_1.f c_4)), cnd_t (P := isSh (nI oo)) (Classical.not_not.mp (b_8.f c_11)), cnd_f (P := σ 59 kk < 0) c_26, cnd_t (P := σ 59 oo < 0) (Int32.not_le.mp c_35)]⟩
    · refine tq_aload_n 0 (dget dX8_copy 6 rfl) rfl rfl ?_
      refine tq_iconst (v := (-1)) (dget dX8_copy 7 rfl) rfl ?_
      refine mq_Vi (As := [.int (-1)]) (rest := []) (dget dX8_copy 8 rfl) lX8_131 miX8_refused (k_refused σ (-1) d (by omega)) rfl rfl rfl rfl (Nat.le_of_ble_eq_true rfl) (Nat.le_of_ble_eq_true rfl) (fun r_16 σ_16 h_16 => ?_)
      obtain ⟨a_16, e_16⟩ := h_16
      rw [a_16]
      obtain rfl := e_16.symm
      exact tq_iret rfl (dget dX8_copy 9 rfl) ⟨_, rfl, by simp only [cnd_t (P := isSh k) (Classical.not_not.mp (b_1.f c_4)), cnd_f (P := isSh o) (b_8.t c_11)], by simp only [cnd_t (P := isSh k) (Classical.not_not.mp (b_1.f c_4)), cnd_f (P := isSh o) (b_8.t c_11)]⟩

/-! ===== the reference (8): parts, sheets ===== -/
/-- a sheet that has nothing is told by -1 -/
def szOK (σ : Mem) : Prop := ∀ k, k < 4 → σ 59 k = -1 ∨ ∃ L, L ≤ 100 ∧ σ 59 k = nI L
theorem w_lt2 {a : Int32} {L : Nat} (hL : L < 2 ^ 31) : ((0 : Int64) ≤ a.toInt64 ∧ a.toInt64 ≤ (nI L).toInt64 - 1) ↔ (0 ≤ a ∧ a < nI L) := by rw [w_0, w_lt1 hL]
theorem bynd {i y : Int32} {L : Nat} (hL : L ≤ 100) : (0 ≤ i ∧ (0 : Int64) ≤ y.toInt64 ∧ i.toInt64 + y.toInt64 ≤ (nI L).toInt64) ↔ (0 ≤ i ∧ i ≤ nI L ∧ 0 ≤ y ∧ y ≤ nI L - i) := by
  rw [w_0, Int64.le_iff_toInt_le, lg_i2l_add, Int32.toInt_toInt64, nI_toInt (by omega)]
  constructor
  · rintro ⟨h1, h2, h3⟩
    have g1 := Int32.le_iff_toInt_le.mp h1
    have g2 := Int32.le_iff_toInt_le.mp h2
    rw [Int32.toInt_zero] at g1 g2
    have h4 : i ≤ nI L := Int32.le_iff_toInt_le.mpr (by rw [nI_toInt (by omega)]; omega)
    refine ⟨h1, h4, h2, ?_⟩
    obtain ⟨a, rfl, ha⟩ := kC_n2 (C := L) (by omega) h1 h4
    rw [nI_subN ha, Int32.le_iff_toInt_le, nI_toInt (by omega)]
    rw [nI_toInt (by omega)] at h3
    omega
  · rintro ⟨h1, h2, h3, h4⟩
    obtain ⟨a, rfl, ha⟩ := kC_n2 (C := L) (by omega) h1 h2
    rw [nI_subN ha] at h4
    obtain ⟨b, rfl, hb⟩ := kC_n2 (C := L - a) (by omega) h3 h4
    refine ⟨h1, h3, ?_⟩
    rw [nI_toInt (by omega), nI_toInt (by omega)]
    omega
def ncF (z : Int32) (i : Int32) : Int32 := if z < 0 then 1 else if 0 ≤ i ∧ i < z then 0 else 3
def segR (σ : Mem) (b n : Nat) (v : Int32) : Mem := upR σ 61 (fun j => if b ≤ j ∧ j < b + n then v else σ 61 j)
theorem segR_0 (σ : Mem) (b : Nat) (v : Int32) : σ = segR σ b 0 v := by
  unfold segR
  rw [show (fun j => if b ≤ j ∧ j < b + 0 then v else σ 61 j) = σ 61 by funext j; rw [if_neg (by omega)]]
  exact (upR_self σ 61).symm
theorem segR_s (σ : Mem) (b k : Nat) (v : Int32) : up (segR σ b k v) 61 (b + k) v = segR σ b (k + 1) v := by
  unfold up segR
  rw [upR_upR, upR_s]
  congr 1
  funext j
  unfold upd
  by_cases h : j = b + k
  · subst h; rw [if_pos rfl, if_pos (by omega)]
  · rw [if_neg h]
    show (if b ≤ j ∧ j < b + k then v else σ 61 j) = _
    by_cases h2 : b ≤ j ∧ j < b + k
    · rw [if_pos h2, if_pos (by omega)]
    · rw [if_neg h2, if_neg (by omega)]
def mHas (σ : Mem) (k : Int32) : Int32 := if σ 59 (cl k) < 0 then 0 else 1
def cutM (lane v : Int32) : Int32 := cutF lane v

set_option maxHeartbeats 4000000 in
set_option maxRecDepth 20000 in
theorem k_tell (σ : Mem) (S M : Nat) (hV : VM σ S M) (hkd : kOK σ M) (x : Int32) (d : Nat) (hd : 2 ≤ d) : PMet d mX8_tell [.ref 42, .int x] σ (Pi (fun v σ2 => v = cnd (hMm σ x) (cnd (σ 43 (cl x) = 1) (x + 100) (cnd (σ 43 (cl x) = 2) (2 * x + 100) x)) (-1) ∧ σ2 = cnd (hMm σ x) (cnd (σ 43 (cl x) = 1) (mkM (mkM σ 2) 1) (cnd (σ 43 (cl x) = 2) (mkM (mkM (mkM (mkM σ 3) 2) 1) 1) (mkM σ 1))) σ)) := by
  obtain ⟨d, rfl⟩ : ∃ e, d = e + 1 := ⟨d - 1, by omega⟩
  refine PMet.start (ls0 := [(0, .ref 42), (1, .int x)]) miX8_tell.1 (Nat.le_of_ble_eq_true rfl) rfl ?_
  refine tq_aload_n 0 (dget dX8_tell 0 rfl) rfl rfl ?_
  refine tq_iload_n 1 (dget dX8_tell 1 rfl) rfl rfl ?_
  refine mq_Vi (As := [.int x]) (rest := []) (dget dX8_tell 2 rfl) lX8_152 miX8_noMaid (k_noMaid σ S M hV x d (by omega)) rfl rfl rfl rfl (Nat.le_of_ble_eq_true rfl) (Nat.le_of_ble_eq_true rfl) (fun r_2 σ_2 h_2 => ?_)
  obtain ⟨b_2, e_2⟩ := h_2
  obtain rfl := e_2.symm
  refine tq_if_eq (tgt := 10) (dget dX8_tell 3 rfl) (by decide) (fun c_5 => ?_) (fun c_5 => ?_)
  · obtain ⟨m, e_m, hm, hm4⟩ := hMm_n hV (Classical.not_not.mp (b_2.f c_5))
    subst e_m
    obtain ⟨j, hj, hk⟩ := hkd m hm
    have hk3 : σ 43 m = 0 ∨ σ 43 m = 1 ∨ σ 43 m = 2 := by rw [hk]; rcases (show j = 0 ∨ j = 1 ∨ j = 2 by omega) with rfl | rfl | rfl; exact Or.inl rfl; exact Or.inr (Or.inl rfl); exact Or.inr (Or.inr rfl)
    rcases hk3 with hkk | hkk | hkk
    · refine tq_aload_n 0 (dget dX8_tell 6 rfl) rfl rfl ?_
      refine tq_getR (dget dX8_tell 7 rfl) fX8_7 rfl rfl ?_
      refine tq_iload_n 1 (dget dX8_tell 8 rfl) rfl rfl ?_
      refine tq_ialdN m (dget dX8_tell 9 rfl) rfl (by decide) rfl (by omega) ?_
      rw [hkk]
      refine tq_istore_n (ls2 := [(2, .int 0), (0, .ref 42), (1, .int (nI m))]) (dget dX8_tell 10 rfl) rfl (by decide) rfl ?_
      refine tq_iload_n 0 (dget dX8_tell 11 rfl) rfl rfl ?_
      refine tq_iconst (v := 2) (dget dX8_tell 12 rfl) rfl ?_
      refine tq_icmp_ne (tgt := 27) (dget dX8_tell 13 rfl) (by decide) (fun c_19 => ?_) (fun c_19 => ?_)
      · refine tq_iload_n 0 (dget dX8_tell 17 rfl) rfl rfl ?_
        refine tq_if_le (tgt := 36) (dget dX8_tell 18 rfl) (by decide) (fun c_28 => ?_) (fun c_28 => ?_)
        · refine tq_aload_n 1 (dget dX8_tell 22 rfl) rfl rfl ?_
          refine tq_iconst (v := 1) (dget dX8_tell 23 rfl) rfl ?_
          refine mq_Vv (As := [.int 1]) (rest := []) (dget dX8_tell 24 rfl) lX8_225 miX8_traced (k_traced σ 1 d (by omega)) rfl rfl rfl rfl (Nat.le_of_ble_eq_true rfl) (Nat.le_of_ble_eq_true rfl) (fun σ_38 h_38 => ?_)
          obtain rfl := Eq.symm h_38
          refine tq_iload_n 0 (dget dX8_tell 25 rfl) rfl rfl ?_
          refine tq_iconst (v := 2) (dget dX8_tell 26 rfl) rfl ?_
          refine tq_icmp_ne (tgt := 51) (dget dX8_tell 27 rfl) (by decide) (fun c_43 => ?_) (fun c_43 => ?_)
          · refine tq_iload_n 0 (dget dX8_tell 31 rfl) rfl rfl ?_
            refine tq_if_ne (tgt := 59) (dget dX8_tell 32 rfl) (by decide) (fun c_52 => ?_) (fun c_52 => ?_)
            · exact absurd c_52 (by decide)
            · refine tq_iload_n 2 (dget dX8_tell 33 rfl) rfl rfl ?_
              refine tq_goto (tgt := 77) (dget dX8_tell 34 rfl) (by decide) ?_
              exact tq_iret rfl (dget dX8_tell 47 rfl) ⟨_, rfl, by simp only [cnd_t (P := hMm σ (nI m)) (Classical.not_not.mp (b_2.f c_5)), nI_clamp (show m < 2 ^ 31 by omega), hkk, cnd_f (P := (0 : Int32) = 1) (by decide), cnd_f (P := (0 : Int32) = 2) (by decide)]; try rfl, by simp only [cnd_t (P := hMm σ (nI m)) (Classical.not_not.mp (b_2.f c_5)), nI_clamp (show m < 2 ^ 31 by omega), hkk, cnd_f (P := (0 : Int32) = 1) (by decide), cnd_f (P := (0 : Int32) = 2) (by decide)]; try rfl⟩
          · exact absurd c_43 (by decide)
        · exact absurd c_28 (by decide)
      · exact absurd c_19 (by decide)
    · refine tq_aload_n 0 (dget dX8_tell 6 rfl) rfl rfl ?_
      refine tq_getR (dget dX8_tell 7 rfl) fX8_7 rfl rfl ?_
      refine tq_iload_n 1 (dget dX8_tell 8 rfl) rfl rfl ?_
      refine tq_ialdN m (dget dX8_tell 9 rfl) rfl (by decide) rfl (by omega) ?_
      rw [hkk]
      refine tq_istore_n (ls2 := [(2, .int 1), (0, .ref 42), (1, .int (nI m))]) (dget dX8_tell 10 rfl) rfl (by decide) rfl ?_
      refine tq_iload_n 0 (dget dX8_tell 11 rfl) rfl rfl ?_
      refine tq_iconst (v := 2) (dget dX8_tell 12 rfl) rfl ?_
      refine tq_icmp_ne (tgt := 27) (dget dX8_tell 13 rfl) (by decide) (fun c_19 => ?_) (fun c_19 => ?_)
      · refine tq_iload_n 0 (dget dX8_tell 17 rfl) rfl rfl ?_
        refine tq_if_le (tgt := 36) (dget dX8_tell 18 rfl) (by decide) (fun c_28 => ?_) (fun c_28 => ?_)
        · exact absurd c_28 (by decide)
        · refine tq_aload_n 1 (dget dX8_tell 19 rfl) rfl rfl ?_
          refine tq_iconst (v := 2) (dget dX8_tell 20 rfl) rfl ?_
          refine mq_Vv (As := [.int 2]) (rest := []) (dget dX8_tell 21 rfl) lX8_225 miX8_traced (k_traced σ 2 d (by omega)) rfl rfl rfl rfl (Nat.le_of_ble_eq_true rfl) (Nat.le_of_ble_eq_true rfl) (fun σ_33 h_33 => ?_)
          obtain rfl := Eq.symm h_33
          refine tq_aload_n 1 (dget dX8_tell 22 rfl) rfl rfl ?_
          refine tq_iconst (v := 1) (dget dX8_tell 23 rfl) rfl ?_
          refine mq_Vv (As := [.int 1]) (rest := []) (dget dX8_tell 24 rfl) lX8_225 miX8_traced (k_traced (mkM σ 2) 1 d (by omega)) rfl rfl rfl rfl (Nat.le_of_ble_eq_true rfl) (Nat.le_of_ble_eq_true rfl) (fun σ_38 h_38 => ?_)
          obtain rfl := Eq.symm h_38
          refine tq_iload_n 0 (dget dX8_tell 25 rfl) rfl rfl ?_
          refine tq_iconst (v := 2) (dget dX8_tell 26 rfl) rfl ?_
          refine tq_icmp_ne (tgt := 51) (dget dX8_tell 27 rfl) (by decide) (fun c_43 => ?_) (fun c_43 => ?_)
          · refine tq_iload_n 0 (dget dX8_tell 31 rfl) rfl rfl ?_
            refine tq_if_ne (tgt := 59) (dget dX8_tell 32 rfl) (by decide) (fun c_52 => ?_) (fun c_52 => ?_)
            · refine tq_iload_n 0 (dget dX8_tell 35 rfl) rfl rfl ?_
              refine tq_iconst (v := 1) (dget dX8_tell 36 rfl) rfl ?_
              refine tq_icmp_ne (tgt := 71) (dget dX8_tell 37 rfl) (by decide) (fun c_61 => ?_) (fun c_61 => ?_)
              · exact absurd c_61 (by decide)
              · refine tq_iload_n 2 (dget dX8_tell 38 rfl) rfl rfl ?_
                refine tq_bipush (v := 100) (dget dX8_tell 39 rfl) rfl ?_
                refine tq_iadd (dget dX8_tell 40 rfl) ?_
                refine tq_goto (tgt := 77) (dget dX8_tell 41 rfl) (by decide) ?_
                exact tq_iret rfl (dget dX8_tell 47 rfl) ⟨_, rfl, by simp only [cnd_t (P := hMm σ (nI m)) (Classical.not_not.mp (b_2.f c_5)), nI_clamp (show m < 2 ^ 31 by omega), hkk, cnd_t (P := True) trivial]; try rfl, by simp only [cnd_t (P := hMm σ (nI m)) (Classical.not_not.mp (b_2.f c_5)), nI_clamp (show m < 2 ^ 31 by omega), hkk, cnd_t (P := True) trivial]; try rfl⟩
            · exact absurd c_52 (by decide)
          · exact absurd c_43 (by decide)
      · exact absurd c_19 (by decide)
    · refine tq_aload_n 0 (dget dX8_tell 6 rfl) rfl rfl ?_
      refine tq_getR (dget dX8_tell 7 rfl) fX8_7 rfl rfl ?_
      refine tq_iload_n 1 (dget dX8_tell 8 rfl) rfl rfl ?_
      refine tq_ialdN m (dget dX8_tell 9 rfl) rfl (by decide) rfl (by omega) ?_
      rw [hkk]
      refine tq_istore_n (ls2 := [(2, .int 2), (0, .ref 42), (1, .int (nI m))]) (dget dX8_tell 10 rfl) rfl (by decide) rfl ?_
      refine tq_iload_n 0 (dget dX8_tell 11 rfl) rfl rfl ?_
      refine tq_iconst (v := 2) (dget dX8_tell 12 rfl) rfl ?_
      refine tq_icmp_ne (tgt := 27) (dget dX8_tell 13 rfl) (by decide) (fun c_19 => ?_) (fun c_19 => ?_)
      · exact absurd c_19 (by decide)
      · refine tq_aload_n 1 (dget dX8_tell 14 rfl) rfl rfl ?_
        refine tq_iconst (v := 3) (dget dX8_tell 15 rfl) rfl ?_
        refine mq_Vv (As := [.int 3]) (rest := []) (dget dX8_tell 16 rfl) lX8_225 miX8_traced (k_traced σ 3 d (by omega)) rfl rfl rfl rfl (Nat.le_of_ble_eq_true rfl) (Nat.le_of_ble_eq_true rfl) (fun σ_24 h_24 => ?_)
        obtain rfl := Eq.symm h_24
        refine tq_iload_n 0 (dget dX8_tell 17 rfl) rfl rfl ?_
        refine tq_if_le (tgt := 36) (dget dX8_tell 18 rfl) (by decide) (fun c_28 => ?_) (fun c_28 => ?_)
        · exact absurd c_28 (by decide)
        · refine tq_aload_n 1 (dget dX8_tell 19 rfl) rfl rfl ?_
          refine tq_iconst (v := 2) (dget dX8_tell 20 rfl) rfl ?_
          refine mq_Vv (As := [.int 2]) (rest := []) (dget dX8_tell 21 rfl) lX8_225 miX8_traced (k_traced (mkM σ 3) 2 d (by omega)) rfl rfl rfl rfl (Nat.le_of_ble_eq_true rfl) (Nat.le_of_ble_eq_true rfl) (fun σ_33 h_33 => ?_)
          obtain rfl := Eq.symm h_33
          refine tq_aload_n 1 (dget dX8_tell 22 rfl) rfl rfl ?_
          refine tq_iconst (v := 1) (dget dX8_tell 23 rfl) rfl ?_
          refine mq_Vv (As := [.int 1]) (rest := []) (dget dX8_tell 24 rfl) lX8_225 miX8_traced (k_traced (mkM (mkM σ 3) 2) 1 d (by omega)) rfl rfl rfl rfl (Nat.le_of_ble_eq_true rfl) (Nat.le_of_ble_eq_true rfl) (fun σ_38 h_38 => ?_)
          obtain rfl := Eq.symm h_38
          refine tq_iload_n 0 (dget dX8_tell 25 rfl) rfl rfl ?_
          refine tq_iconst (v := 2) (dget dX8_tell 26 rfl) rfl ?_
          refine tq_icmp_ne (tgt := 51) (dget dX8_tell 27 rfl) (by decide) (fun c_43 => ?_) (fun c_43 => ?_)
          · exact absurd c_43 (by decide)
          · refine tq_aload_n 1 (dget dX8_tell 28 rfl) rfl rfl ?_
            refine tq_iconst (v := 1) (dget dX8_tell 29 rfl) rfl ?_
            refine mq_Vv (As := [.int 1]) (rest := []) (dget dX8_tell 30 rfl) lX8_225 miX8_traced (k_traced (mkM (mkM (mkM σ 3) 2) 1) 1 d (by omega)) rfl rfl rfl rfl (Nat.le_of_ble_eq_true rfl) (Nat.le_of_ble_eq_true rfl) (fun σ_48 h_48 => ?_)
            obtain rfl := Eq.symm h_48
            refine tq_iload_n 0 (dget dX8_tell 31 rfl) rfl rfl ?_
            refine tq_if_ne (tgt := 59) (dget dX8_tell 32 rfl) (by decide) (fun c_52 => ?_) (fun c_52 => ?_)
            · refine tq_iload_n 0 (dget dX8_tell 35 rfl) rfl rfl ?_
              refine tq_iconst (v := 1) (dget dX8_tell 36 rfl) rfl ?_
              refine tq_icmp_ne (tgt := 71) (dget dX8_tell 37 rfl) (by decide) (fun c_61 => ?_) (fun c_61 => ?_)
              · refine tq_iconst (v := 2) (dget dX8_tell 42 rfl) rfl ?_
                refine tq_iload_n 2 (dget dX8_tell 43 rfl) rfl rfl ?_
                refine tq_imul (dget dX8_tell 44 rfl) ?_
                refine tq_bipush (v := 100) (dget dX8_tell 45 rfl) rfl ?_
                refine tq_iadd (dget dX8_tell 46 rfl) ?_
                exact tq_iret rfl (dget dX8_tell 47 rfl) ⟨_, rfl, by simp only [cnd_t (P := hMm σ (nI m)) (Classical.not_not.mp (b_2.f c_5)), nI_clamp (show m < 2 ^ 31 by omega), hkk, cnd_f (P := (2 : Int32) = 1) (by decide), cnd_t (P := True) trivial]; try rfl, by simp only [cnd_t (P := hMm σ (nI m)) (Classical.not_not.mp (b_2.f c_5)), nI_clamp (show m < 2 ^ 31 by omega), hkk, cnd_f (P := (2 : Int32) = 1) (by decide), cnd_t (P := True) trivial]; try rfl⟩
              · exact absurd c_61 (by decide)
            · exact absurd c_52 (by decide)
  · refine tq_iconst (v := (-1)) (dget dX8_tell 4 rfl) rfl ?_
    exact tq_iret rfl (dget dX8_tell 5 rfl) ⟨_, rfl, by simp only [cnd_f (P := hMm σ x) (b_2.t c_5)], by simp only [cnd_f (P := hMm σ x) (b_2.t c_5)]⟩
set_option maxHeartbeats 4000000 in
set_option maxRecDepth 20000 in
theorem k_greet (σ : Mem) (S M : Nat) (hV : VM σ S M) (x : Int32) (d : Nat) (hd : 2 ≤ d) : PMet d mX8_greet [.ref 42, .int x] σ (Pi (fun v σ2 => v = cnd (hMm σ x) (cnd (σ 43 (cl x) = 2) 70 x) (-1) ∧ σ2 = cnd (hMm σ x) (cnd (σ 43 (cl x) = 2) (mkM σ 5) (mkM σ 4)) σ)) := by
  obtain ⟨d, rfl⟩ : ∃ e, d = e + 1 := ⟨d - 1, by omega⟩
  refine PMet.start (ls0 := [(0, .ref 42), (1, .int x)]) miX8_greet.1 (Nat.le_of_ble_eq_true rfl) rfl ?_
  refine tq_aload_n 0 (dget dX8_greet 0 rfl) rfl rfl ?_
  refine tq_iload_n 1 (dget dX8_greet 1 rfl) rfl rfl ?_
  refine mq_Vi (As := [.int x]) (rest := []) (dget dX8_greet 2 rfl) lX8_152 miX8_noMaid (k_noMaid σ S M hV x d (by omega)) rfl rfl rfl rfl (Nat.le_of_ble_eq_true rfl) (Nat.le_of_ble_eq_true rfl) (fun r_2 σ_2 h_2 => ?_)
  obtain ⟨b_2, e_2⟩ := h_2
  obtain rfl := e_2.symm
  refine tq_if_eq (tgt := 10) (dget dX8_greet 3 rfl) (by decide) (fun c_5 => ?_) (fun c_5 => ?_)
  · obtain ⟨m, e_m, hm, hm4⟩ := hMm_n hV (Classical.not_not.mp (b_2.f c_5))
    subst e_m
    refine tq_aload_n 0 (dget dX8_greet 6 rfl) rfl rfl ?_
    refine tq_aload_n 0 (dget dX8_greet 7 rfl) rfl rfl ?_
    refine tq_getR (dget dX8_greet 8 rfl) fX8_7 rfl rfl ?_
    refine tq_iload_n 1 (dget dX8_greet 9 rfl) rfl rfl ?_
    refine tq_ialdN m (dget dX8_greet 10 rfl) rfl (by decide) rfl (by omega) ?_
    refine tq_iconst (v := 2) (dget dX8_greet 11 rfl) rfl ?_
    refine tq_icmp_ne (tgt := 25) (dget dX8_greet 12 rfl) (by decide) (fun c_18 => ?_) (fun c_18 => ?_)
    · refine tq_iconst (v := 4) (dget dX8_greet 15 rfl) rfl ?_
      refine mq_Vv (As := [.int 4]) (rest := []) (dget dX8_greet 16 rfl) lX8_225 miX8_traced (k_traced σ 4 d (by omega)) rfl rfl rfl rfl (Nat.le_of_ble_eq_true rfl) (Nat.le_of_ble_eq_true rfl) (fun σ_26 h_26 => ?_)
      obtain rfl := Eq.symm h_26
      refine tq_aload_n 0 (dget dX8_greet 17 rfl) rfl rfl ?_
      refine tq_getR (dget dX8_greet 18 rfl) fX8_7 rfl rfl ?_
      refine tq_iload_n 1 (dget dX8_greet 19 rfl) rfl rfl ?_
      refine tq_ialdN m (dget dX8_greet 20 rfl) rfl (by decide) rfl (by omega) ?_
      refine tq_eqi (y := (σ 43 m)) (congrFun (up_row (i := 42) (k := 29) (v := 31 * σ 42 29 + 4) (by decide)) m) ?_
      refine tq_iconst (v := 2) (dget dX8_greet 21 rfl) rfl ?_
      refine tq_icmp_ne (tgt := 44) (dget dX8_greet 22 rfl) (by decide) (fun c_36 => ?_) (fun c_36 => ?_)
      · refine tq_iload_n 1 (dget dX8_greet 25 rfl) rfl rfl ?_
        exact tq_iret rfl (dget dX8_greet 26 rfl) ⟨_, rfl, by simp only [cnd_t (P := hMm σ (nI m)) (Classical.not_not.mp (b_2.f c_5)), nI_clamp (show m < 2 ^ 31 by omega), cnd_f c_18], by simp only [cnd_t (P := hMm σ (nI m)) (Classical.not_not.mp (b_2.f c_5)), nI_clamp (show m < 2 ^ 31 by omega), cnd_f c_18]⟩
      · exact absurd c_36 c_18
    · refine tq_iconst (v := 5) (dget dX8_greet 13 rfl) rfl ?_
      refine tq_goto (tgt := 26) (dget dX8_greet 14 rfl) (by decide) ?_
      refine mq_Vv (As := [.int 5]) (rest := []) (dget dX8_greet 16 rfl) lX8_225 miX8_traced (k_traced σ 5 d (by omega)) rfl rfl rfl rfl (Nat.le_of_ble_eq_true rfl) (Nat.le_of_ble_eq_true rfl) (fun σ_26 h_26 => ?_)
      obtain rfl := Eq.symm h_26
      refine tq_aload_n 0 (dget dX8_greet 17 rfl) rfl rfl ?_
      refine tq_getR (dget dX8_greet 18 rfl) fX8_7 rfl rfl ?_
      refine tq_iload_n 1 (dget dX8_greet 19 rfl) rfl rfl ?_
      refine tq_ialdN m (dget dX8_greet 20 rfl) rfl (by decide) rfl (by omega) ?_
      refine tq_eqi (y := (σ 43 m)) (congrFun (up_row (i := 42) (k := 29) (v := 31 * σ 42 29 + 5) (by decide)) m) ?_
      refine tq_iconst (v := 2) (dget dX8_greet 21 rfl) rfl ?_
      refine tq_icmp_ne (tgt := 44) (dget dX8_greet 22 rfl) (by decide) (fun c_36 => ?_) (fun c_36 => ?_)
      · exact absurd c_18 c_36
      · refine tq_bipush (v := 70) (dget dX8_greet 23 rfl) rfl ?_
        refine tq_goto (tgt := 45) (dget dX8_greet 24 rfl) (by decide) ?_
        exact tq_iret rfl (dget dX8_greet 26 rfl) ⟨_, rfl, by simp only [cnd_t (P := hMm σ (nI m)) (Classical.not_not.mp (b_2.f c_5)), nI_clamp (show m < 2 ^ 31 by omega), cnd_t c_18], by simp only [cnd_t (P := hMm σ (nI m)) (Classical.not_not.mp (b_2.f c_5)), nI_clamp (show m < 2 ^ 31 by omega), cnd_t c_18]⟩
  · refine tq_iconst (v := (-1)) (dget dX8_greet 4 rfl) rfl ?_
    exact tq_iret rfl (dget dX8_greet 5 rfl) ⟨_, rfl, by simp only [cnd_f (P := hMm σ x) (b_2.t c_5)], by simp only [cnd_f (P := hMm σ x) (b_2.t c_5)]⟩
set_option maxHeartbeats 4000000 in
set_option maxRecDepth 20000 in
theorem k_as (σ : Mem) (S M : Nat) (hV : VM σ S M) (x k : Int32) (d : Nat) (hd : 2 ≤ d) : PMet d mX8_as [.ref 42, .int x, .int k] σ (Pi (fun v σ2 => v = cnd (hMm σ x) (cnd (isLn k) (cnd (k ≤ σ 43 (cl x)) 1 (-12)) (-2)) (-1) ∧ σ2 = up σ 42 0 (cnd (hMm σ x) (cnd (isLn k) (cnd (k ≤ σ 43 (cl x)) 0 2) 0) 0))) := by
  obtain ⟨d, rfl⟩ : ∃ e, d = e + 1 := ⟨d - 1, by omega⟩
  refine PMet.start (ls0 := [(0, .ref 42), (1, .int x), (2, .int k)]) miX8_as.1 (Nat.le_of_ble_eq_true rfl) rfl ?_
  refine tq_aload_n 0 (dget dX8_as 0 rfl) rfl rfl ?_
  refine tq_iload_n 1 (dget dX8_as 1 rfl) rfl rfl ?_
  refine mq_Vi (As := [.int x]) (rest := []) (dget dX8_as 2 rfl) lX8_152 miX8_noMaid (k_noMaid σ S M hV x d (by omega)) rfl rfl rfl rfl (Nat.le_of_ble_eq_true rfl) (Nat.le_of_ble_eq_true rfl) (fun r_2 σ_2 h_2 => ?_)
  obtain ⟨b_2, e_2⟩ := h_2
  obtain rfl := e_2.symm
  refine tq_if_eq (tgt := 14) (dget dX8_as 3 rfl) (by decide) (fun c_5 => ?_) (fun c_5 => ?_)
  · obtain ⟨m, e_m, hm, hm4⟩ := hMm_n hV (Classical.not_not.mp (b_2.f c_5))
    subst e_m
    refine tq_iload_n 2 (dget dX8_as 8 rfl) rfl rfl ?_
    refine tq_i2l (dget dX8_as 9 rfl) ?_
    refine tq_lconst (v := 0) (dget dX8_as 10 rfl) rfl ?_
    refine tq_ldc2 (v := 2) (dget dX8_as 11 rfl) (tblG_3 226 rfl rfl) ?_
    refine mq_Si (As := [.long (k).toInt64, .long 0, .long 2]) (rest := []) (dget dX8_as 12 rfl) lX8_84 miX8_in (k_in σ (k).toInt64 0 2 d (by omega)) rfl rfl (Nat.le_of_ble_eq_true rfl) (Nat.le_of_ble_eq_true rfl) (fun r_20 σ_20 h_20 => ?_)
    obtain ⟨b_20, e_20⟩ := h_20
    obtain rfl := e_20.symm
    have b_20 := b_20.iff in2
    refine tq_if_ne (tgt := 33) (dget dX8_as 13 rfl) (by decide) (fun c_23 => ?_) (fun c_23 => ?_)
    · refine tq_aload_n 0 (dget dX8_as 18 rfl) rfl rfl ?_
      refine tq_getR (dget dX8_as 19 rfl) fX8_7 rfl rfl ?_
      refine tq_iload_n 1 (dget dX8_as 20 rfl) rfl rfl ?_
      refine tq_ialdN m (dget dX8_as 21 rfl) rfl (by decide) rfl (by omega) ?_
      refine tq_iload_n 2 (dget dX8_as 22 rfl) rfl rfl ?_
      refine tq_icmp_lt (tgt := 51) (dget dX8_as 23 rfl) (by decide) (fun c_40 => ?_) (fun c_40 => ?_)
      · refine tq_aload_n 0 (dget dX8_as 28 rfl) rfl rfl ?_
        refine tq_iconst (v := 2) (dget dX8_as 29 rfl) rfl ?_
        refine mq_Vi (As := [.int 2]) (rest := []) (dget dX8_as 30 rfl) lX8_119 miX8_failed (k_failed σ 2 d (by omega)) rfl rfl rfl rfl (Nat.le_of_ble_eq_true rfl) (Nat.le_of_ble_eq_true rfl) (fun r_53 σ_53 h_53 => ?_)
        obtain ⟨a_53, e_53⟩ := h_53
        rw [a_53]
        obtain rfl := e_53.symm
        exact tq_iret rfl (dget dX8_as 31 rfl) ⟨_, rfl, by simp only [cnd_t (P := hMm σ (nI m)) (Classical.not_not.mp (b_2.f c_5)), nI_clamp (show m < 2 ^ 31 by omega), cnd_t (P := isLn k) (b_20.t c_23), cnd_f (P := k ≤ σ 43 m) (Int32.not_le.mpr c_40)]; try rfl, by simp only [cnd_t (P := hMm σ (nI m)) (Classical.not_not.mp (b_2.f c_5)), nI_clamp (show m < 2 ^ 31 by omega), cnd_t (P := isLn k) (b_20.t c_23), cnd_f (P := k ≤ σ 43 m) (Int32.not_le.mpr c_40)]⟩
      · refine tq_aload_n 0 (dget dX8_as 24 rfl) rfl rfl ?_
        refine tq_iconst (v := 1) (dget dX8_as 25 rfl) rfl ?_
        refine mq_Vi (As := [.int 1]) (rest := []) (dget dX8_as 26 rfl) lX8_131 miX8_refused (k_refused σ 1 d (by omega)) rfl rfl rfl rfl (Nat.le_of_ble_eq_true rfl) (Nat.le_of_ble_eq_true rfl) (fun r_45 σ_45 h_45 => ?_)
        obtain ⟨a_45, e_45⟩ := h_45
        rw [a_45]
        obtain rfl := e_45.symm
        refine tq_goto (tgt := 56) (dget dX8_as 27 rfl) (by decide) ?_
        exact tq_iret rfl (dget dX8_as 31 rfl) ⟨_, rfl, by simp only [cnd_t (P := hMm σ (nI m)) (Classical.not_not.mp (b_2.f c_5)), nI_clamp (show m < 2 ^ 31 by omega), cnd_t (P := isLn k) (b_20.t c_23), cnd_t (P := k ≤ σ 43 m) (Int32.not_lt.mp c_40)], by simp only [cnd_t (P := hMm σ (nI m)) (Classical.not_not.mp (b_2.f c_5)), nI_clamp (show m < 2 ^ 31 by omega), cnd_t (P := isLn k) (b_20.t c_23), cnd_t (P := k ≤ σ 43 m) (Int32.not_lt.mp c_40)]⟩
    · refine tq_aload_n 0 (dget dX8_as 14 rfl) rfl rfl ?_
      refine tq_bipush (v := (-2)) (dget dX8_as 15 rfl) rfl ?_
      refine mq_Vi (As := [.int (-2)]) (rest := []) (dget dX8_as 16 rfl) lX8_131 miX8_refused (k_refused σ (-2) d (by omega)) rfl rfl rfl rfl (Nat.le_of_ble_eq_true rfl) (Nat.le_of_ble_eq_true rfl) (fun r_29 σ_29 h_29 => ?_)
      obtain ⟨a_29, e_29⟩ := h_29
      rw [a_29]
      obtain rfl := e_29.symm
      exact tq_iret rfl (dget dX8_as 17 rfl) ⟨_, rfl, by simp only [cnd_t (P := hMm σ (nI m)) (Classical.not_not.mp (b_2.f c_5)), nI_clamp (show m < 2 ^ 31 by omega), cnd_f (P := isLn k) (b_20.f c_23)], by simp only [cnd_t (P := hMm σ (nI m)) (Classical.not_not.mp (b_2.f c_5)), nI_clamp (show m < 2 ^ 31 by omega), cnd_f (P := isLn k) (b_20.f c_23)]⟩
  · refine tq_aload_n 0 (dget dX8_as 4 rfl) rfl rfl ?_
    refine tq_iconst (v := (-1)) (dget dX8_as 5 rfl) rfl ?_
    refine mq_Vi (As := [.int (-1)]) (rest := []) (dget dX8_as 6 rfl) lX8_131 miX8_refused (k_refused σ (-1) d (by omega)) rfl rfl rfl rfl (Nat.le_of_ble_eq_true rfl) (Nat.le_of_ble_eq_true rfl) (fun r_10 σ_10 h_10 => ?_)
    obtain ⟨a_10, e_10⟩ := h_10
    rw [a_10]
    obtain rfl := e_10.symm
    exact tq_iret rfl (dget dX8_as 7 rfl) ⟨_, rfl, by simp only [cnd_f (P := hMm σ x) (b_2.t c_5)], by simp only [cnd_f (P := hMm σ x) (b_2.t c_5)]⟩
set_option maxHeartbeats 4000000 in
set_option maxRecDepth 20000 in
theorem k_trace (σ : Mem) (d : Nat) (hd : 0 ≤ d) : PMet d mX8_trace [.ref 42] σ (Pi (fun v σ2 => v = σ 42 29 ∧ σ2 = σ)) := by
  refine PMet.start (ls0 := [(0, .ref 42)]) miX8_trace.1 (Nat.le_of_ble_eq_true rfl) rfl ?_
  refine tq_aload_n 0 (dget dX8_trace 0 rfl) rfl rfl ?_
  refine tq_getI (dget dX8_trace 1 rfl) fX8_222 rfl rfl ?_
  exact tq_iret rfl (dget dX8_trace 2 rfl) ⟨_, rfl, rfl, rfl⟩
set_option maxHeartbeats 4000000 in
set_option maxRecDepth 20000 in
theorem k_fault (σ : Mem) (d : Nat) (hd : 0 ≤ d) : PMet d mX8_fault [.ref 42] σ (Pi (fun v σ2 => v = σ 42 0 ∧ σ2 = σ)) := by
  refine PMet.start (ls0 := [(0, .ref 42)]) miX8_fault.1 (Nat.le_of_ble_eq_true rfl) rfl ?_
  refine tq_aload_n 0 (dget dX8_fault 0 rfl) rfl rfl ?_
  refine tq_getI (dget dX8_fault 1 rfl) fX8_73 rfl rfl ?_
  exact tq_iret rfl (dget dX8_fault 2 rfl) ⟨_, rfl, rfl, rfl⟩
set_option maxHeartbeats 4000000 in
set_option maxRecDepth 20000 in
theorem k_many (σ : Mem) (z : Int32) (d : Nat) (hd : 0 ≤ d) : PMet d mX8_many [.ref 42, .int z] σ (Pi (fun v σ2 => v = cnd (z = 0) (σ 42 1) (cnd (z = 1) (σ 42 2) (cnd (z = 2) (σ 42 13) (cnd (z = 3) (σ 42 20) (cnd (z = 4) (σ 42 6) (-2))))) ∧ σ2 = σ)) := by
  refine PMet.start (ls0 := [(0, .ref 42), (1, .int z)]) miX8_many.1 (Nat.le_of_ble_eq_true rfl) rfl ?_
  refine tq_iload_n 1 (dget dX8_many 0 rfl) rfl rfl ?_
  by_cases c_1 : (z).toInt < 0 ∨ 4 < (z).toInt
  · refine tq_tableOut (tgt := 61) (dget dX8_many 1 rfl) c_1 (by decide) ?_
    refine tq_bipush (v := (-2)) (dget dX8_many 17 rfl) rfl ?_
    exact tq_iret rfl (dget dX8_many 18 rfl) ⟨_, rfl, by simp only [cnd_f (P := z = 0) (tab_no0 c_1), cnd_f (P := z = 1) (tab_no1 c_1), cnd_f (P := z = 2) (tab_no2 c_1), cnd_f (P := z = 3) (tab_no3 c_1), cnd_f (P := z = 4) (tab_no4 c_1)], rfl⟩
  · have c_1 := sw_in c_1
    by_cases s_1_0 : z = 0
    · refine tq_tableIn (tgt := 36) (off := 35) (dget dX8_many 1 rfl) (by rw [s_1_0]; decide) (by rw [s_1_0]; decide) (by rw [s_1_0]; rfl) (by decide) ?_
      refine tq_aload_n 0 (dget dX8_many 2 rfl) rfl rfl ?_
      refine tq_getI (dget dX8_many 3 rfl) fX8_81 rfl rfl ?_
      exact tq_iret rfl (dget dX8_many 4 rfl) ⟨_, rfl, by simp only [cnd_t (P := z = 0) s_1_0], rfl⟩
    by_cases s_1_1 : z = 1
    · refine tq_tableIn (tgt := 41) (off := 40) (dget dX8_many 1 rfl) (by rw [s_1_1]; decide) (by rw [s_1_1]; decide) (by rw [s_1_1]; rfl) (by decide) ?_
      refine tq_aload_n 0 (dget dX8_many 5 rfl) rfl rfl ?_
      refine tq_getI (dget dX8_many 6 rfl) fX8_88 rfl rfl ?_
      exact tq_iret rfl (dget dX8_many 7 rfl) ⟨_, rfl, by simp only [cnd_f (P := z = 0) s_1_0, cnd_t (P := z = 1) s_1_1], rfl⟩
    by_cases s_1_2 : z = 2
    · refine tq_tableIn (tgt := 46) (off := 45) (dget dX8_many 1 rfl) (by rw [s_1_2]; decide) (by rw [s_1_2]; decide) (by rw [s_1_2]; rfl) (by decide) ?_
      refine tq_aload_n 0 (dget dX8_many 8 rfl) rfl rfl ?_
      refine tq_getI (dget dX8_many 9 rfl) fX8_146 rfl rfl ?_
      exact tq_iret rfl (dget dX8_many 10 rfl) ⟨_, rfl, by simp only [cnd_f (P := z = 0) s_1_0, cnd_f (P := z = 1) s_1_1, cnd_t (P := z = 2) s_1_2], rfl⟩
    by_cases s_1_3 : z = 3
    · refine tq_tableIn (tgt := 51) (off := 50) (dget dX8_many 1 rfl) (by rw [s_1_3]; decide) (by rw [s_1_3]; decide) (by rw [s_1_3]; rfl) (by decide) ?_
      refine tq_aload_n 0 (dget dX8_many 11 rfl) rfl rfl ?_
      refine tq_getI (dget dX8_many 12 rfl) fX8_149 rfl rfl ?_
      exact tq_iret rfl (dget dX8_many 13 rfl) ⟨_, rfl, by simp only [cnd_f (P := z = 0) s_1_0, cnd_f (P := z = 1) s_1_1, cnd_f (P := z = 2) s_1_2, cnd_t (P := z = 3) s_1_3], rfl⟩
    have s_1_4 : z = 4 := sw_last5 c_1 s_1_0 s_1_1 s_1_2 s_1_3
    refine tq_tableIn (tgt := 56) (off := 55) (dget dX8_many 1 rfl) (by rw [s_1_4]; decide) (by rw [s_1_4]; decide) (by rw [s_1_4]; rfl) (by decide) ?_
    refine tq_aload_n 0 (dget dX8_many 14 rfl) rfl rfl ?_
    refine tq_getI (dget dX8_many 15 rfl) fX8_143 rfl rfl ?_
    exact tq_iret rfl (dget dX8_many 16 rfl) ⟨_, rfl, by simp only [cnd_f (P := z = 0) s_1_0, cnd_f (P := z = 1) s_1_1, cnd_f (P := z = 2) s_1_2, cnd_f (P := z = 3) s_1_3, cnd_t (P := z = 4) s_1_4], rfl⟩
set_option maxHeartbeats 4000000 in
set_option maxRecDepth 20000 in
theorem k_sheet_loop (σ τ : Mem) (kk N : Nat) (hkk : kk < 4) (hN : N ≤ 100) (l : Int32) (d : Nat) (hd : 2 ≤ d) : ∀ (n : Nat) (i : Nat) (hm : N < i + n) (hi : i ≤ N), PAt (EM d (Pi (fun v σ2 => v = 1 ∧ σ2 = up (segR τ (100 * kk) N 0) 42 0 0))) mX8_sheet 65 [(4, .int (nI i)), (0, .ref 42), (1, .int (nI kk)), (2, .int l), (3, .int (nI N))] [] (segR τ (100 * kk) i 0) := by
  obtain ⟨d, rfl⟩ : ∃ e, d = e + 1 := ⟨d - 1, by omega⟩
  intro n
  induction n with
  | zero => intro i hm hi; exact absurd hm (by omega)
  | succ n ih =>
    intro i hm hi
    refine tq_iload 0 (dget dX8_sheet 38 rfl) rfl ?_
    refine tq_iload_n 4 (dget dX8_sheet 39 rfl) rfl rfl ?_
    refine tq_icmp_ge (tgt := 90) (dget dX8_sheet 40 rfl) (by decide) (fun c_68 => ?_) (fun c_68 => ?_)
    · have g_68 := kle (by omega) (by omega) c_68
      have g_69 : i = N := by omega
      refine tq_aload_n 1 (dget dX8_sheet 52 rfl) rfl rfl ?_
      refine tq_iconst (v := 1) (dget dX8_sheet 53 rfl) rfl ?_
      refine mq_Vi (As := [.int 1]) (rest := []) (dget dX8_sheet 54 rfl) lX8_131 miX8_refused (k_refused (segR τ (100 * kk) i 0) 1 d (by omega)) rfl rfl rfl rfl (Nat.le_of_ble_eq_true rfl) (Nat.le_of_ble_eq_true rfl) (fun r_92 σ_92 h_92 => ?_)
      obtain ⟨a_92, e_92⟩ := h_92
      rw [a_92]
      obtain rfl := e_92.symm
      exact tq_iret rfl (dget dX8_sheet 55 rfl) ⟨_, rfl, rfl, by rw [g_69]⟩
    · have g_68 := knle (by omega) (by omega) c_68
      refine tq_aload_n 1 (dget dX8_sheet 41 rfl) rfl rfl ?_
      refine tq_getR (dget dX8_sheet 42 rfl) fX8_65 rfl rfl ?_
      refine tq_bipush (v := 100) (dget dX8_sheet 43 rfl) rfl ?_
      refine tq_iload_n 2 (dget dX8_sheet 44 rfl) rfl rfl ?_
      refine tq_imul (dget dX8_sheet 45 rfl) ?_
      refine tq_eqi (y := (nI (100 * kk))) (nI_mulN (100) (kk)) ?_
      refine tq_iload 0 (dget dX8_sheet 46 rfl) rfl ?_
      refine tq_iadd (dget dX8_sheet 47 rfl) ?_
      refine tq_eqi (y := (nI ((100 * kk) + i))) (nI_add ((100 * kk)) (i)) ?_
      refine tq_iconst (v := 0) (dget dX8_sheet 48 rfl) rfl ?_
      refine tq_iastN ((100 * kk) + i) (dget dX8_sheet 49 rfl) rfl (by decide) rfl (by omega) ?_
      refine tq_iinc (v := (nI (i + 1))) (ls2 := [(4, .int (nI (i + 1))), (0, .ref 42), (1, .int (nI kk)), (2, .int l), (3, .int (nI N))]) 0 (dget dX8_sheet 50 rfl) rfl (nI_1 i) (by decide) rfl ?_
      refine tq_goto (tgt := 65) (dget dX8_sheet 51 rfl) (by decide) ?_
      refine tq_sub [0, 1, 2, 3, 4] (ls' := [(4, .int (nI (i + 1))), (0, .ref 42), (1, .int (nI kk)), (2, .int l), (3, .int (nI N))]) rfl ?_
      refine tq_mem (segR_s τ (100 * kk) i 0) ?_
      exact ih (i + 1) (by omega) (by omega)
set_option maxHeartbeats 4000000 in
set_option maxRecDepth 20000 in
theorem k_sheet (σ : Mem) (k l n : Int32) (d : Nat) (hd : 2 ≤ d) : PMet d mX8_sheet [.ref 42, .int k, .int l, .int n] σ (Pi (fun v σ2 => v = cnd (isSh k) (cnd (isLn l) (cnd (n ≤ 100) (cnd (0 ≤ n) 1 (-14)) (-2)) (-2)) (-1) ∧ σ2 = cnd (isSh k) (cnd (isLn l) (cnd (n ≤ 100) (cnd (0 ≤ n) (up (segR (up (up σ 59 (cl k) n) 60 (cl k) l) (100 * cl k) (cl n) 0) 42 0 0) (up σ 42 0 4)) (up σ 42 0 0)) (up σ 42 0 0)) (up σ 42 0 0))) := by
  obtain ⟨d, rfl⟩ : ∃ e, d = e + 1 := ⟨d - 1, by omega⟩
  refine PMet.start (ls0 := [(0, .ref 42), (1, .int k), (2, .int l), (3, .int n)]) miX8_sheet.1 (Nat.le_of_ble_eq_true rfl) rfl ?_
  refine tq_iload_n 1 (dget dX8_sheet 0 rfl) rfl rfl ?_
  refine mq_Si (As := [.int k]) (rest := []) (dget dX8_sheet 1 rfl) lX8_127 miX8_noSheet (k_noSheet σ k d (by omega)) rfl rfl (Nat.le_of_ble_eq_true rfl) (Nat.le_of_ble_eq_true rfl) (fun r_1 σ_1 h_1 => ?_)
  obtain ⟨b_1, e_1⟩ := h_1
  obtain rfl := e_1.symm
  refine tq_if_eq (tgt := 13) (dget dX8_sheet 2 rfl) (by decide) (fun c_4 => ?_) (fun c_4 => ?_)
  · refine tq_iload_n 2 (dget dX8_sheet 7 rfl) rfl rfl ?_
    refine tq_i2l (dget dX8_sheet 8 rfl) ?_
    refine tq_lconst (v := 0) (dget dX8_sheet 9 rfl) rfl ?_
    refine tq_ldc2 (v := 2) (dget dX8_sheet 10 rfl) (tblG_3 226 rfl rfl) ?_
    refine mq_Si (As := [.long (l).toInt64, .long 0, .long 2]) (rest := []) (dget dX8_sheet 11 rfl) lX8_84 miX8_in (k_in σ (l).toInt64 0 2 d (by omega)) rfl rfl (Nat.le_of_ble_eq_true rfl) (Nat.le_of_ble_eq_true rfl) (fun r_19 σ_19 h_19 => ?_)
    obtain ⟨b_19, e_19⟩ := h_19
    obtain rfl := e_19.symm
    have b_19 := b_19.iff in2
    refine tq_if_eq (tgt := 31) (dget dX8_sheet 12 rfl) (by decide) (fun c_22 => ?_) (fun c_22 => ?_)
    · refine tq_aload_n 0 (dget dX8_sheet 16 rfl) rfl rfl ?_
      refine tq_bipush (v := (-2)) (dget dX8_sheet 17 rfl) rfl ?_
      refine mq_Vi (As := [.int (-2)]) (rest := []) (dget dX8_sheet 18 rfl) lX8_131 miX8_refused (k_refused σ (-2) d (by omega)) rfl rfl rfl rfl (Nat.le_of_ble_eq_true rfl) (Nat.le_of_ble_eq_true rfl) (fun r_34 σ_34 h_34 => ?_)
      obtain ⟨a_34, e_34⟩ := h_34
      rw [a_34]
      obtain rfl := e_34.symm
      exact tq_iret rfl (dget dX8_sheet 19 rfl) ⟨_, rfl, by simp only [cnd_t (P := isSh k) (Classical.not_not.mp (b_1.f c_4)), cnd_f (P := isLn l) (b_19.f c_22)], by simp only [cnd_t (P := isSh k) (Classical.not_not.mp (b_1.f c_4)), cnd_f (P := isLn l) (b_19.f c_22)]⟩
    · refine tq_iload_n 3 (dget dX8_sheet 13 rfl) rfl rfl ?_
      refine tq_bipush (v := 100) (dget dX8_sheet 14 rfl) rfl ?_
      refine tq_icmp_le (tgt := 38) (dget dX8_sheet 15 rfl) (by decide) (fun c_28 => ?_) (fun c_28 => ?_)
      · refine tq_iload_n 3 (dget dX8_sheet 20 rfl) rfl rfl ?_
        refine tq_if_ge (tgt := 48) (dget dX8_sheet 21 rfl) (by decide) (fun c_39 => ?_) (fun c_39 => ?_)
        · obtain ⟨kk, e_kk, hkk⟩ := isSh_n (Classical.not_not.mp (b_1.f c_4))
          subst e_kk
          obtain ⟨N, e_N, hN⟩ := kC_n2 (C := 100) (by omega) c_39 c_28
          subst e_N
          refine tq_aload_n 0 (dget dX8_sheet 26 rfl) rfl rfl ?_
          refine tq_getR (dget dX8_sheet 27 rfl) fX8_59 rfl rfl ?_
          refine tq_iload_n 1 (dget dX8_sheet 28 rfl) rfl rfl ?_
          refine tq_iload_n 3 (dget dX8_sheet 29 rfl) rfl rfl ?_
          refine tq_iastN kk (dget dX8_sheet 30 rfl) rfl (by decide) rfl (by omega) ?_
          refine tq_aload_n 0 (dget dX8_sheet 31 rfl) rfl rfl ?_
          refine tq_getR (dget dX8_sheet 32 rfl) fX8_62 rfl rfl ?_
          refine tq_iload_n 1 (dget dX8_sheet 33 rfl) rfl rfl ?_
          refine tq_iload_n 2 (dget dX8_sheet 34 rfl) rfl rfl ?_
          refine tq_iastN kk (dget dX8_sheet 35 rfl) rfl (by decide) rfl (by omega) ?_
          refine tq_iconst (v := 0) (dget dX8_sheet 36 rfl) rfl ?_
          refine tq_istore (ls2 := [(4, .int 0), (0, .ref 42), (1, .int (nI kk)), (2, .int l), (3, .int (nI N))]) (dget dX8_sheet 37 rfl) (by decide) rfl ?_
          refine tq_sub [0, 1, 2, 3, 4] (ls' := [(4, .int 0), (0, .ref 42), (1, .int (nI kk)), (2, .int l), (3, .int (nI N))]) rfl ?_
          simp only [cnd_t (P := isSh (nI kk)) (Classical.not_not.mp (b_1.f c_4)), cnd_t (P := isLn l) (b_19.t c_22), cnd_t (P := nI N ≤ 100) c_28, cnd_t (P := 0 ≤ nI N) c_39, nI_clamp (show kk < 2 ^ 31 by omega), nI_clamp (show N < 2 ^ 31 by omega)]
          rw [show (0 : Int32) = nI 0 from rfl]
          refine tq_mem (segR_0 _ (100 * kk) 0) ?_
          exact k_sheet_loop σ _ kk N hkk (by omega) l (d + 1) (by omega) (N + 1) 0 (by omega) (by omega)
        · refine tq_aload_n 0 (dget dX8_sheet 22 rfl) rfl rfl ?_
          refine tq_iconst (v := 4) (dget dX8_sheet 23 rfl) rfl ?_
          refine mq_Vi (As := [.int 4]) (rest := []) (dget dX8_sheet 24 rfl) lX8_119 miX8_failed (k_failed σ 4 d (by omega)) rfl rfl rfl rfl (Nat.le_of_ble_eq_true rfl) (Nat.le_of_ble_eq_true rfl) (fun r_44 σ_44 h_44 => ?_)
          obtain ⟨a_44, e_44⟩ := h_44
          rw [a_44]
          obtain rfl := e_44.symm
          exact tq_iret rfl (dget dX8_sheet 25 rfl) ⟨_, rfl, by simp only [cnd_t (P := isSh k) (Classical.not_not.mp (b_1.f c_4)), cnd_t (P := isLn l) (b_19.t c_22), cnd_t (P := n ≤ 100) c_28, cnd_f (P := 0 ≤ n) c_39]; try rfl, by simp only [cnd_t (P := isSh k) (Classical.not_not.mp (b_1.f c_4)), cnd_t (P := isLn l) (b_19.t c_22), cnd_t (P := n ≤ 100) c_28, cnd_f (P := 0 ≤ n) c_39]⟩
      · refine tq_aload_n 0 (dget dX8_sheet 16 rfl) rfl rfl ?_
        refine tq_bipush (v := (-2)) (dget dX8_sheet 17 rfl) rfl ?_
        refine mq_Vi (As := [.int (-2)]) (rest := []) (dget dX8_sheet 18 rfl) lX8_131 miX8_refused (k_refused σ (-2) d (by omega)) rfl rfl rfl rfl (Nat.le_of_ble_eq_true rfl) (Nat.le_of_ble_eq_true rfl) (fun r_34 σ_34 h_34 => ?_)
        obtain ⟨a_34, e_34⟩ := h_34
        rw [a_34]
        obtain rfl := e_34.symm
        exact tq_iret rfl (dget dX8_sheet 19 rfl) ⟨_, rfl, by simp only [cnd_t (P := isSh k) (Classical.not_not.mp (b_1.f c_4)), cnd_t (P := isLn l) (b_19.t c_22), cnd_f (P := n ≤ 100) c_28], by simp only [cnd_t (P := isSh k) (Classical.not_not.mp (b_1.f c_4)), cnd_t (P := isLn l) (b_19.t c_22), cnd_f (P := n ≤ 100) c_28]⟩
  · refine tq_aload_n 0 (dget dX8_sheet 3 rfl) rfl rfl ?_
    refine tq_iconst (v := (-1)) (dget dX8_sheet 4 rfl) rfl ?_
    refine mq_Vi (As := [.int (-1)]) (rest := []) (dget dX8_sheet 5 rfl) lX8_131 miX8_refused (k_refused σ (-1) d (by omega)) rfl rfl rfl rfl (Nat.le_of_ble_eq_true rfl) (Nat.le_of_ble_eq_true rfl) (fun r_9 σ_9 h_9 => ?_)
    obtain ⟨a_9, e_9⟩ := h_9
    rw [a_9]
    obtain rfl := e_9.symm
    exact tq_iret rfl (dget dX8_sheet 6 rfl) ⟨_, rfl, by simp only [cnd_f (P := isSh k) (b_1.t c_4)], by simp only [cnd_f (P := isSh k) (b_1.t c_4)]⟩
set_option maxHeartbeats 4000000 in
set_option maxRecDepth 20000 in
theorem k_lose (σ : Mem) (k : Int32) (d : Nat) (hd : 2 ≤ d) : PMet d mX8_lose [.ref 42, .int k] σ (Pi (fun v σ2 => v = cnd (isSh k) (mHas σ k) (-1) ∧ σ2 = cnd (isSh k) (up σ 59 (cl k) (-1)) σ)) := by
  obtain ⟨d, rfl⟩ : ∃ e, d = e + 1 := ⟨d - 1, by omega⟩
  refine PMet.start (ls0 := [(0, .ref 42), (1, .int k)]) miX8_lose.1 (Nat.le_of_ble_eq_true rfl) rfl ?_
  refine tq_iload_n 1 (dget dX8_lose 0 rfl) rfl rfl ?_
  refine mq_Si (As := [.int k]) (rest := []) (dget dX8_lose 1 rfl) lX8_127 miX8_noSheet (k_noSheet σ k d (by omega)) rfl rfl (Nat.le_of_ble_eq_true rfl) (Nat.le_of_ble_eq_true rfl) (fun r_1 σ_1 h_1 => ?_)
  obtain ⟨b_1, e_1⟩ := h_1
  obtain rfl := e_1.symm
  refine tq_if_eq (tgt := 9) (dget dX8_lose 2 rfl) (by decide) (fun c_4 => ?_) (fun c_4 => ?_)
  · obtain ⟨kk, e_kk, hkk⟩ := isSh_n (Classical.not_not.mp (b_1.f c_4))
    subst e_kk
    refine tq_aload_n 0 (dget dX8_lose 5 rfl) rfl rfl ?_
    refine tq_getR (dget dX8_lose 6 rfl) fX8_59 rfl rfl ?_
    refine tq_iload_n 1 (dget dX8_lose 7 rfl) rfl rfl ?_
    refine tq_ialdN kk (dget dX8_lose 8 rfl) rfl (by decide) rfl (by omega) ?_
    refine tq_if_ge (tgt := 22) (dget dX8_lose 9 rfl) (by decide) (fun c_15 => ?_) (fun c_15 => ?_)
    · refine tq_iconst (v := 1) (dget dX8_lose 12 rfl) rfl ?_
      refine tq_istore_n (ls2 := [(2, .int 1), (0, .ref 42), (1, .int (nI kk))]) (dget dX8_lose 13 rfl) rfl (by decide) rfl ?_
      refine tq_aload_n 1 (dget dX8_lose 14 rfl) rfl rfl ?_
      refine tq_getR (dget dX8_lose 15 rfl) fX8_59 rfl rfl ?_
      refine tq_iload_n 2 (dget dX8_lose 16 rfl) rfl rfl ?_
      refine tq_iconst (v := (-1)) (dget dX8_lose 17 rfl) rfl ?_
      refine tq_iastN kk (dget dX8_lose 18 rfl) rfl (by decide) rfl (by omega) ?_
      refine tq_iload_n 0 (dget dX8_lose 19 rfl) rfl rfl ?_
      exact tq_iret rfl (dget dX8_lose 20 rfl) ⟨_, rfl, by simp only [mHas, nI_clamp (show kk < 2 ^ 31 by omega), cnd_t (P := isSh (nI kk)) (Classical.not_not.mp (b_1.f c_4)), if_neg (Int32.not_lt.mpr c_15)], by simp only [mHas, nI_clamp (show kk < 2 ^ 31 by omega), cnd_t (P := isSh (nI kk)) (Classical.not_not.mp (b_1.f c_4)), if_neg (Int32.not_lt.mpr c_15)]⟩
    · refine tq_iconst (v := 0) (dget dX8_lose 10 rfl) rfl ?_
      refine tq_goto (tgt := 23) (dget dX8_lose 11 rfl) (by decide) ?_
      refine tq_istore_n (ls2 := [(2, .int 0), (0, .ref 42), (1, .int (nI kk))]) (dget dX8_lose 13 rfl) rfl (by decide) rfl ?_
      refine tq_aload_n 1 (dget dX8_lose 14 rfl) rfl rfl ?_
      refine tq_getR (dget dX8_lose 15 rfl) fX8_59 rfl rfl ?_
      refine tq_iload_n 2 (dget dX8_lose 16 rfl) rfl rfl ?_
      refine tq_iconst (v := (-1)) (dget dX8_lose 17 rfl) rfl ?_
      refine tq_iastN kk (dget dX8_lose 18 rfl) rfl (by decide) rfl (by omega) ?_
      refine tq_iload_n 0 (dget dX8_lose 19 rfl) rfl rfl ?_
      exact tq_iret rfl (dget dX8_lose 20 rfl) ⟨_, rfl, by simp only [mHas, nI_clamp (show kk < 2 ^ 31 by omega), cnd_t (P := isSh (nI kk)) (Classical.not_not.mp (b_1.f c_4)), if_pos (Int32.not_le.mp c_15)], by simp only [mHas, nI_clamp (show kk < 2 ^ 31 by omega), cnd_t (P := isSh (nI kk)) (Classical.not_not.mp (b_1.f c_4)), if_pos (Int32.not_le.mp c_15)]⟩
  · refine tq_iconst (v := (-1)) (dget dX8_lose 3 rfl) rfl ?_
    exact tq_iret rfl (dget dX8_lose 4 rfl) ⟨_, rfl, by simp only [cnd_f (P := isSh k) (b_1.t c_4)], by simp only [cnd_f (P := isSh k) (b_1.t c_4)]⟩
set_option maxHeartbeats 4000000 in
set_option maxRecDepth 20000 in
theorem k_noCell (σ : Mem) (hz : szOK σ) (k : Nat) (i : Int32) (hk : k < 4) (d : Nat) (hd : 1 ≤ d) : PMet d mX8_noCell [.ref 42, .int (nI k), .int i] σ (Pi (fun v σ2 => v = ncF (σ 59 k) i ∧ σ2 = σ)) := by
  obtain ⟨d, rfl⟩ : ∃ e, d = e + 1 := ⟨d - 1, by omega⟩
  refine PMet.start (ls0 := [(0, .ref 42), (1, .int (nI k)), (2, .int i)]) miX8_noCell.1 (Nat.le_of_ble_eq_true rfl) rfl ?_
  refine tq_aload_n 0 (dget dX8_noCell 0 rfl) rfl rfl ?_
  refine tq_getR (dget dX8_noCell 1 rfl) fX8_59 rfl rfl ?_
  refine tq_iload_n 1 (dget dX8_noCell 2 rfl) rfl rfl ?_
  refine tq_ialdN k (dget dX8_noCell 3 rfl) rfl (by decide) rfl (by omega) ?_
  refine tq_if_ge (tgt := 13) (dget dX8_noCell 4 rfl) (by decide) (fun c_6 => ?_) (fun c_6 => ?_)
  · obtain ⟨L, hL, eL⟩ := (hz k hk).resolve_left (fun e => absurd c_6 (by rw [e]; decide))
    refine tq_iload_n 2 (dget dX8_noCell 7 rfl) rfl rfl ?_
    refine tq_i2l (dget dX8_noCell 8 rfl) ?_
    refine tq_lconst (v := 0) (dget dX8_noCell 9 rfl) rfl ?_
    refine tq_aload_n 0 (dget dX8_noCell 10 rfl) rfl rfl ?_
    refine tq_getR (dget dX8_noCell 11 rfl) fX8_59 rfl rfl ?_
    refine tq_iload_n 1 (dget dX8_noCell 12 rfl) rfl rfl ?_
    refine tq_ialdN k (dget dX8_noCell 13 rfl) rfl (by decide) rfl (by omega) ?_
    refine tq_i2l (dget dX8_noCell 14 rfl) ?_
    refine tq_lconst (v := 1) (dget dX8_noCell 15 rfl) rfl ?_
    refine tq_lsub (dget dX8_noCell 16 rfl) ?_
    refine mq_Si (As := [.long (i).toInt64, .long 0, .long (((σ 59 k)).toInt64 - 1)]) (rest := []) (dget dX8_noCell 17 rfl) lX8_84 miX8_in (k_in σ i.toInt64 0 ((σ 59 k).toInt64 - 1) d (by omega)) rfl rfl (Nat.le_of_ble_eq_true rfl) (Nat.le_of_ble_eq_true rfl) (fun r_25 σ_25 h_25 => ?_)
    obtain ⟨b_25, e_25⟩ := h_25
    obtain rfl := e_25.symm
    rw [eL] at b_25
    have b_25 := b_25.iff (w_lt2 (by omega))
    rw [← eL] at b_25
    refine tq_if_eq (tgt := 35) (dget dX8_noCell 18 rfl) (by decide) (fun c_28 => ?_) (fun c_28 => ?_)
    · refine tq_iconst (v := 3) (dget dX8_noCell 21 rfl) rfl ?_
      exact tq_iret rfl (dget dX8_noCell 22 rfl) ⟨_, rfl, by unfold ncF; rw [if_neg (Int32.not_lt.mpr c_6), if_neg (b_25.f c_28)], rfl⟩
    · refine tq_iconst (v := 0) (dget dX8_noCell 19 rfl) rfl ?_
      refine tq_goto (tgt := 36) (dget dX8_noCell 20 rfl) (by decide) ?_
      exact tq_iret rfl (dget dX8_noCell 22 rfl) ⟨_, rfl, by unfold ncF; rw [if_neg (Int32.not_lt.mpr c_6), if_pos (b_25.t c_28)], rfl⟩
  · refine tq_iconst (v := 1) (dget dX8_noCell 5 rfl) rfl ?_
    refine tq_goto (tgt := 36) (dget dX8_noCell 6 rfl) (by decide) ?_
    exact tq_iret rfl (dget dX8_noCell 22 rfl) ⟨_, rfl, by unfold ncF; rw [if_pos (Int32.not_le.mp c_6)], rfl⟩
theorem ncF_ok {z i : Int32} (h : ¬ 0 < ncF z i) : ¬ z < 0 ∧ 0 ≤ i ∧ i < z := by
  unfold ncF at h
  by_cases h1 : z < 0
  · rw [if_pos h1] at h; exact absurd (by decide) h
  · rw [if_neg h1] at h
    by_cases h2 : 0 ≤ i ∧ i < z
    · exact ⟨h1, h2⟩
    · rw [if_neg h2] at h; exact absurd (by decide) h

set_option maxHeartbeats 4000000 in
set_option maxRecDepth 20000 in
theorem k_put (σ : Mem) (hz : szOK σ) (k i v : Int32) (d : Nat) (hd : 2 ≤ d) : PMet d mX8_put [.ref 42, .int k, .int i, .int v] σ (Pi (fun r σ2 => r = cnd (isSh k) (cnd (0 < ncF (σ 59 (cl k)) i) (-10 - ncF (σ 59 (cl k)) i) 1) (-1) ∧ σ2 = cnd (isSh k) (cnd (0 < ncF (σ 59 (cl k)) i) (up σ 42 0 (ncF (σ 59 (cl k)) i)) (up (up σ 61 (100 * cl k + cl i) (cutF (σ 60 (cl k)) v)) 42 0 0)) (up σ 42 0 0))) := by
  obtain ⟨d, rfl⟩ : ∃ e, d = e + 1 := ⟨d - 1, by omega⟩
  refine PMet.start (ls0 := [(0, .ref 42), (1, .int k), (2, .int i), (3, .int v)]) miX8_put.1 (Nat.le_of_ble_eq_true rfl) rfl ?_
  refine tq_iload_n 1 (dget dX8_put 0 rfl) rfl rfl ?_
  refine mq_Si (As := [.int k]) (rest := []) (dget dX8_put 1 rfl) lX8_127 miX8_noSheet (k_noSheet σ k d (by omega)) rfl rfl (Nat.le_of_ble_eq_true rfl) (Nat.le_of_ble_eq_true rfl) (fun r_1 σ_1 h_1 => ?_)
  obtain ⟨b_1, e_1⟩ := h_1
  obtain rfl := e_1.symm
  refine tq_if_eq (tgt := 13) (dget dX8_put 2 rfl) (by decide) (fun c_4 => ?_) (fun c_4 => ?_)
  · obtain ⟨kk, e_kk, hkk⟩ := isSh_n (Classical.not_not.mp (b_1.f c_4))
    subst e_kk
    refine tq_aload_n 0 (dget dX8_put 7 rfl) rfl rfl ?_
    refine tq_iload_n 1 (dget dX8_put 8 rfl) rfl rfl ?_
    refine tq_iload_n 2 (dget dX8_put 9 rfl) rfl rfl ?_
    refine mq_Vi (As := [.int (nI kk), .int i]) (rest := []) (dget dX8_put 10 rfl) lX8_215 miX8_noCell (k_noCell σ hz kk i hkk d (by omega)) rfl rfl rfl rfl (Nat.le_of_ble_eq_true rfl) (Nat.le_of_ble_eq_true rfl) (fun r_16 σ_16 h_16 => ?_)
    obtain ⟨a_16, e_16⟩ := h_16
    obtain rfl := a_16.symm
    obtain rfl := e_16.symm
    refine tq_if_le (tgt := 33) (dget dX8_put 11 rfl) (by decide) (fun c_19 => ?_) (fun c_19 => ?_)
    · have g_n := ncF_ok (by first | exact c_19 | exact Int32.not_lt.mpr c_19)
      obtain ⟨L, hL, eL⟩ := (hz kk hkk).resolve_left (fun e => g_n.1 (by rw [e]; decide))
      obtain ⟨a, e_a, ha⟩ := kC_n (C := L) (by omega) g_n.2.1 (by rw [← eL]; exact g_n.2.2)
      subst e_a
      refine tq_aload_n 0 (dget dX8_put 19 rfl) rfl rfl ?_
      refine tq_getR (dget dX8_put 20 rfl) fX8_65 rfl rfl ?_
      refine tq_bipush (v := 100) (dget dX8_put 21 rfl) rfl ?_
      refine tq_iload_n 1 (dget dX8_put 22 rfl) rfl rfl ?_
      refine tq_imul (dget dX8_put 23 rfl) ?_
      refine tq_eqi (y := (nI (100 * kk))) (nI_mulN (100) (kk)) ?_
      refine tq_iload_n 2 (dget dX8_put 24 rfl) rfl rfl ?_
      refine tq_iadd (dget dX8_put 25 rfl) ?_
      refine tq_eqi (y := (nI ((100 * kk) + a))) (nI_add ((100 * kk)) (a)) ?_
      refine tq_aload_n 0 (dget dX8_put 26 rfl) rfl rfl ?_
      refine tq_getR (dget dX8_put 27 rfl) fX8_62 rfl rfl ?_
      refine tq_iload_n 1 (dget dX8_put 28 rfl) rfl rfl ?_
      refine tq_ialdN kk (dget dX8_put 29 rfl) rfl (by decide) rfl (by omega) ?_
      refine tq_if_ne (tgt := 57) (dget dX8_put 30 rfl) (by decide) (fun c_49 => ?_) (fun c_49 => ?_)
      · refine tq_aload_n 0 (dget dX8_put 34 rfl) rfl rfl ?_
        refine tq_getR (dget dX8_put 35 rfl) fX8_62 rfl rfl ?_
        refine tq_iload_n 1 (dget dX8_put 36 rfl) rfl rfl ?_
        refine tq_ialdN kk (dget dX8_put 37 rfl) rfl (by decide) rfl (by omega) ?_
        refine tq_iconst (v := 1) (dget dX8_put 38 rfl) rfl ?_
        refine tq_icmp_ne (tgt := 72) (dget dX8_put 39 rfl) (by decide) (fun c_64 => ?_) (fun c_64 => ?_)
        · refine tq_iload_n 3 (dget dX8_put 43 rfl) rfl rfl ?_
          refine tq_iastN ((100 * kk) + a) (dget dX8_put 44 rfl) rfl (by decide) rfl (by omega) ?_
          refine tq_aload_n 0 (dget dX8_put 45 rfl) rfl rfl ?_
          refine tq_iconst (v := 1) (dget dX8_put 46 rfl) rfl ?_
          refine mq_Vi (As := [.int 1]) (rest := []) (dget dX8_put 47 rfl) lX8_131 miX8_refused (k_refused (up σ 61 ((100 * kk) + a) v) 1 d (by omega)) rfl rfl rfl rfl (Nat.le_of_ble_eq_true rfl) (Nat.le_of_ble_eq_true rfl) (fun r_76 σ_76 h_76 => ?_)
          obtain ⟨a_76, e_76⟩ := h_76
          rw [a_76]
          obtain rfl := e_76.symm
          exact tq_iret rfl (dget dX8_put 48 rfl) ⟨_, rfl, by simp only [nI_clamp (show kk < 2 ^ 31 by omega), cnd_t (P := isSh (nI kk)) (Classical.not_not.mp (b_1.f c_4)), nI_clamp (show a < 2 ^ 31 by omega), cnd_f (P := 0 < ncF (σ 59 kk) (nI a)) (Int32.not_lt.mpr c_19), cutF, if_neg c_49, if_neg c_64], by simp only [nI_clamp (show kk < 2 ^ 31 by omega), cnd_t (P := isSh (nI kk)) (Classical.not_not.mp (b_1.f c_4)), nI_clamp (show a < 2 ^ 31 by omega), cnd_f (P := 0 < ncF (σ 59 kk) (nI a)) (Int32.not_lt.mpr c_19), cutF, if_neg c_49, if_neg c_64]⟩
        · refine tq_iload_n 3 (dget dX8_put 40 rfl) rfl rfl ?_
          refine tq_i2s (dget dX8_put 41 rfl) ?_
          refine tq_goto (tgt := 73) (dget dX8_put 42 rfl) (by decide) ?_
          refine tq_iastN ((100 * kk) + a) (dget dX8_put 44 rfl) rfl (by decide) rfl (by omega) ?_
          refine tq_aload_n 0 (dget dX8_put 45 rfl) rfl rfl ?_
          refine tq_iconst (v := 1) (dget dX8_put 46 rfl) rfl ?_
          refine mq_Vi (As := [.int 1]) (rest := []) (dget dX8_put 47 rfl) lX8_131 miX8_refused (k_refused (up σ 61 ((100 * kk) + a) (v).toInt16.toInt32) 1 d (by omega)) rfl rfl rfl rfl (Nat.le_of_ble_eq_true rfl) (Nat.le_of_ble_eq_true rfl) (fun r_76 σ_76 h_76 => ?_)
          obtain ⟨a_76, e_76⟩ := h_76
          rw [a_76]
          obtain rfl := e_76.symm
          exact tq_iret rfl (dget dX8_put 48 rfl) ⟨_, rfl, by simp only [nI_clamp (show kk < 2 ^ 31 by omega), cnd_t (P := isSh (nI kk)) (Classical.not_not.mp (b_1.f c_4)), nI_clamp (show a < 2 ^ 31 by omega), cnd_f (P := 0 < ncF (σ 59 kk) (nI a)) (Int32.not_lt.mpr c_19), cutF, if_neg c_49, if_pos c_64], by simp only [nI_clamp (show kk < 2 ^ 31 by omega), cnd_t (P := isSh (nI kk)) (Classical.not_not.mp (b_1.f c_4)), nI_clamp (show a < 2 ^ 31 by omega), cnd_f (P := 0 < ncF (σ 59 kk) (nI a)) (Int32.not_lt.mpr c_19), cutF, if_neg c_49, if_pos c_64]⟩
      · refine tq_iload_n 3 (dget dX8_put 31 rfl) rfl rfl ?_
        refine tq_i2b (dget dX8_put 32 rfl) ?_
        refine tq_goto (tgt := 73) (dget dX8_put 33 rfl) (by decide) ?_
        refine tq_iastN ((100 * kk) + a) (dget dX8_put 44 rfl) rfl (by decide) rfl (by omega) ?_
        refine tq_aload_n 0 (dget dX8_put 45 rfl) rfl rfl ?_
        refine tq_iconst (v := 1) (dget dX8_put 46 rfl) rfl ?_
        refine mq_Vi (As := [.int 1]) (rest := []) (dget dX8_put 47 rfl) lX8_131 miX8_refused (k_refused (up σ 61 ((100 * kk) + a) (v).toInt8.toInt32) 1 d (by omega)) rfl rfl rfl rfl (Nat.le_of_ble_eq_true rfl) (Nat.le_of_ble_eq_true rfl) (fun r_76 σ_76 h_76 => ?_)
        obtain ⟨a_76, e_76⟩ := h_76
        rw [a_76]
        obtain rfl := e_76.symm
        exact tq_iret rfl (dget dX8_put 48 rfl) ⟨_, rfl, by simp only [nI_clamp (show kk < 2 ^ 31 by omega), cnd_t (P := isSh (nI kk)) (Classical.not_not.mp (b_1.f c_4)), nI_clamp (show a < 2 ^ 31 by omega), cnd_f (P := 0 < ncF (σ 59 kk) (nI a)) (Int32.not_lt.mpr c_19), cutF, if_pos c_49], by simp only [nI_clamp (show kk < 2 ^ 31 by omega), cnd_t (P := isSh (nI kk)) (Classical.not_not.mp (b_1.f c_4)), nI_clamp (show a < 2 ^ 31 by omega), cnd_f (P := 0 < ncF (σ 59 kk) (nI a)) (Int32.not_lt.mpr c_19), cutF, if_pos c_49]⟩
    · refine tq_aload_n 0 (dget dX8_put 12 rfl) rfl rfl ?_
      refine tq_aload_n 0 (dget dX8_put 13 rfl) rfl rfl ?_
      refine tq_iload_n 1 (dget dX8_put 14 rfl) rfl rfl ?_
      refine tq_iload_n 2 (dget dX8_put 15 rfl) rfl rfl ?_
      refine mq_Vi (As := [.int (nI kk), .int i]) (rest := [.ref 42]) (dget dX8_put 16 rfl) lX8_215 miX8_noCell (k_noCell σ hz kk i hkk d (by omega)) rfl rfl rfl rfl (Nat.le_of_ble_eq_true rfl) (Nat.le_of_ble_eq_true rfl) (fun r_26 σ_26 h_26 => ?_)
      obtain ⟨a_26, e_26⟩ := h_26
      obtain rfl := a_26.symm
      obtain rfl := e_26.symm
      refine mq_Vi (As := [.int (ncF (σ 59 kk) i)]) (rest := []) (dget dX8_put 17 rfl) lX8_119 miX8_failed (k_failed σ (ncF (σ 59 kk) i) d (by omega)) rfl rfl rfl rfl (Nat.le_of_ble_eq_true rfl) (Nat.le_of_ble_eq_true rfl) (fun r_29 σ_29 h_29 => ?_)
      obtain ⟨a_29, e_29⟩ := h_29
      rw [a_29]
      obtain rfl := e_29.symm
      exact tq_iret rfl (dget dX8_put 18 rfl) ⟨_, rfl, by simp only [nI_clamp (show kk < 2 ^ 31 by omega), cnd_t (P := isSh (nI kk)) (Classical.not_not.mp (b_1.f c_4)), cnd_t (P := 0 < ncF (σ 59 kk) i) (Int32.not_le.mp c_19)], by simp only [nI_clamp (show kk < 2 ^ 31 by omega), cnd_t (P := isSh (nI kk)) (Classical.not_not.mp (b_1.f c_4)), cnd_t (P := 0 < ncF (σ 59 kk) i) (Int32.not_le.mp c_19)]⟩
  · refine tq_aload_n 0 (dget dX8_put 3 rfl) rfl rfl ?_
    refine tq_iconst (v := (-1)) (dget dX8_put 4 rfl) rfl ?_
    refine mq_Vi (As := [.int (-1)]) (rest := []) (dget dX8_put 5 rfl) lX8_131 miX8_refused (k_refused σ (-1) d (by omega)) rfl rfl rfl rfl (Nat.le_of_ble_eq_true rfl) (Nat.le_of_ble_eq_true rfl) (fun r_9 σ_9 h_9 => ?_)
    obtain ⟨a_9, e_9⟩ := h_9
    rw [a_9]
    obtain rfl := e_9.symm
    exact tq_iret rfl (dget dX8_put 6 rfl) ⟨_, rfl, by simp only [cnd_f (P := isSh k) (b_1.t c_4)], by simp only [cnd_f (P := isSh k) (b_1.t c_4)]⟩
theorem up_up {σ : Mem} {i k : Nat} {v w : Int32} : up (up σ i k v) i k w = up σ i k w := by
  unfold up
  rw [upR_upR, upR_s]
  congr 1
  funext j
  unfold upd
  by_cases h : j = k
  · rw [if_pos h, if_pos h]
  · rw [if_neg h, if_neg h, if_neg h]
theorem szOK_up {σ : Mem} {v : Int32} (h : szOK σ) : szOK (up σ 42 0 v) := fun k hk => by rw [up_row (by decide)]; exact h k hk

set_option maxHeartbeats 4000000 in
set_option maxRecDepth 20000 in
theorem k_cell (σ : Mem) (hz : szOK σ) (k i l : Int32) (d : Nat) (hd : 2 ≤ d) : PMet d mX8_cell [.ref 42, .int k, .int i, .int l] σ (Pl (fun r σ2 => r = cnd (isSh k) (cnd (isLn l) (cnd (¬ σ 59 (cl k) < 0 ∧ ¬ σ 60 (cl k) = l) (-9223372036854775808) (cnd (0 < ncF (σ 59 (cl k)) i) (-9223372036854775808) (σ 61 (100 * cl k + cl i)).toInt64)) (-9223372036854775808)) (-9223372036854775808) ∧ σ2 = up σ 42 0 (cnd (isSh k) (cnd (isLn l) (cnd (¬ σ 59 (cl k) < 0 ∧ ¬ σ 60 (cl k) = l) 2 (cnd (0 < ncF (σ 59 (cl k)) i) (ncF (σ 59 (cl k)) i) 0)) 0) 0))) := by
  obtain ⟨d, rfl⟩ : ∃ e, d = e + 1 := ⟨d - 1, by omega⟩
  refine PMet.start (ls0 := [(0, .ref 42), (1, .int k), (2, .int i), (3, .int l)]) miX8_cell.1 (Nat.le_of_ble_eq_true rfl) rfl ?_
  refine tq_aload_n 0 (dget dX8_cell 0 rfl) rfl rfl ?_
  refine tq_iconst (v := 0) (dget dX8_cell 1 rfl) rfl ?_
  refine tq_putI (dget dX8_cell 2 rfl) fX8_73 rfl rfl rfl rfl ?_
  refine tq_iload_n 1 (dget dX8_cell 3 rfl) rfl rfl ?_
  refine mq_Si (As := [.int k]) (rest := []) (dget dX8_cell 4 rfl) lX8_127 miX8_noSheet (k_noSheet (up σ 42 0 0) k d (by omega)) rfl rfl (Nat.le_of_ble_eq_true rfl) (Nat.le_of_ble_eq_true rfl) (fun r_6 σ_6 h_6 => ?_)
  obtain ⟨b_6, e_6⟩ := h_6
  obtain rfl := e_6.symm
  refine tq_if_ne (tgt := 24) (dget dX8_cell 5 rfl) (by decide) (fun c_9 => ?_) (fun c_9 => ?_)
  · refine mq_Sl (As := []) (rest := []) (dget dX8_cell 12 rfl) lX8_77 miX8_lost (k_lost (up σ 42 0 0) d (by omega)) rfl rfl (Nat.le_of_ble_eq_true rfl) (Nat.le_of_ble_eq_true rfl) (fun r_24 σ_24 h_24 => ?_)
    obtain ⟨a_24, e_24⟩ := h_24
    obtain rfl := a_24.symm
    obtain rfl := e_24.symm
    exact tq_lret rfl (dget dX8_cell 13 rfl) ⟨_, rfl, by simp only [cnd_f (P := isSh k) (b_6.t c_9)], by simp only [cnd_f (P := isSh k) (b_6.t c_9)]⟩
  · refine tq_iload_n 3 (dget dX8_cell 6 rfl) rfl rfl ?_
    refine tq_i2l (dget dX8_cell 7 rfl) ?_
    refine tq_lconst (v := 0) (dget dX8_cell 8 rfl) rfl ?_
    refine tq_ldc2 (v := 2) (dget dX8_cell 9 rfl) (tblG_3 226 rfl rfl) ?_
    refine mq_Si (As := [.long (l).toInt64, .long 0, .long 2]) (rest := []) (dget dX8_cell 10 rfl) lX8_84 miX8_in (k_in (up σ 42 0 0) (l).toInt64 0 2 d (by omega)) rfl rfl (Nat.le_of_ble_eq_true rfl) (Nat.le_of_ble_eq_true rfl) (fun r_18 σ_18 h_18 => ?_)
    obtain ⟨b_18, e_18⟩ := h_18
    obtain rfl := e_18.symm
    have b_18 := b_18.iff in2
    refine tq_if_ne (tgt := 28) (dget dX8_cell 11 rfl) (by decide) (fun c_21 => ?_) (fun c_21 => ?_)
    · obtain ⟨kk, e_kk, hkk⟩ := isSh_n (Classical.not_not.mp (b_6.f c_9))
      subst e_kk
      refine tq_aload_n 0 (dget dX8_cell 14 rfl) rfl rfl ?_
      refine tq_getR (dget dX8_cell 15 rfl) fX8_59 rfl rfl ?_
      refine tq_iload_n 1 (dget dX8_cell 16 rfl) rfl rfl ?_
      refine tq_ialdN kk (dget dX8_cell 17 rfl) rfl (by decide) rfl (by omega) ?_
      refine tq_eqi (y := (σ 59 kk)) (congrFun (up_row (by decide)) kk) ?_
      refine tq_if_lt (tgt := 53) (dget dX8_cell 18 rfl) (by decide) (fun c_34 => ?_) (fun c_34 => ?_)
      · refine tq_aload_n 0 (dget dX8_cell 29 rfl) rfl rfl ?_
        refine tq_iload_n 1 (dget dX8_cell 30 rfl) rfl rfl ?_
        refine tq_iload_n 2 (dget dX8_cell 31 rfl) rfl rfl ?_
        refine mq_Vi (As := [.int (nI kk), .int i]) (rest := []) (dget dX8_cell 32 rfl) lX8_215 miX8_noCell (k_noCell (up σ 42 0 0) (szOK_up hz) kk i hkk d (by omega)) rfl rfl rfl rfl (Nat.le_of_ble_eq_true rfl) (Nat.le_of_ble_eq_true rfl) (fun r_56 σ_56 h_56 => ?_)
        obtain ⟨a_56, e_56⟩ := h_56
        obtain rfl := a_56.symm
        obtain rfl := e_56.symm
        rw [show up σ 42 0 0 59 kk = σ 59 kk from (congrFun (up_row (by decide)) kk)]
        refine tq_if_le (tgt := 75) (dget dX8_cell 33 rfl) (by decide) (fun c_59 => ?_) (fun c_59 => ?_)
        · have g_n := ncF_ok (by first | exact c_59 | exact Int32.not_lt.mpr c_59)
          obtain ⟨L, hL, eL⟩ := (hz kk hkk).resolve_left (fun e => g_n.1 (by rw [e]; decide))
          obtain ⟨a, e_a, ha⟩ := kC_n (C := L) (by omega) g_n.2.1 (by rw [← eL]; exact g_n.2.2)
          subst e_a
          refine tq_aload_n 0 (dget dX8_cell 41 rfl) rfl rfl ?_
          refine tq_getR (dget dX8_cell 42 rfl) fX8_65 rfl rfl ?_
          refine tq_bipush (v := 100) (dget dX8_cell 43 rfl) rfl ?_
          refine tq_iload_n 1 (dget dX8_cell 44 rfl) rfl rfl ?_
          refine tq_imul (dget dX8_cell 45 rfl) ?_
          refine tq_eqi (y := (nI (100 * kk))) (nI_mulN (100) (kk)) ?_
          refine tq_iload_n 2 (dget dX8_cell 46 rfl) rfl rfl ?_
          refine tq_iadd (dget dX8_cell 47 rfl) ?_
          refine tq_eqi (y := (nI ((100 * kk) + a))) (nI_add ((100 * kk)) (a)) ?_
          refine tq_ialdN ((100 * kk) + a) (dget dX8_cell 48 rfl) rfl (by decide) rfl (by omega) ?_
          refine tq_eqi (y := (σ 61 (100 * kk + a))) (congrFun (up_row (by decide)) (100 * kk + a)) ?_
          refine tq_i2l (dget dX8_cell 49 rfl) ?_
          exact tq_lret rfl (dget dX8_cell 50 rfl) ⟨_, rfl, by simp only [nI_clamp (show kk < 2 ^ 31 by omega), cnd_t (P := isSh (nI kk)) (Classical.not_not.mp (b_6.f c_9)), cnd_t (P := isLn l) (b_18.t c_21), cnd_f (P := ¬ σ 59 kk < 0 ∧ ¬ σ 60 kk = l) (fun q => q.1 c_34), nI_clamp (show a < 2 ^ 31 by omega), cnd_f (P := 0 < ncF (σ 59 kk) (nI a)) (Int32.not_lt.mpr c_59)], by simp only [nI_clamp (show kk < 2 ^ 31 by omega), cnd_t (P := isSh (nI kk)) (Classical.not_not.mp (b_6.f c_9)), cnd_t (P := isLn l) (b_18.t c_21), cnd_f (P := ¬ σ 59 kk < 0 ∧ ¬ σ 60 kk = l) (fun q => q.1 c_34), nI_clamp (show a < 2 ^ 31 by omega), cnd_f (P := 0 < ncF (σ 59 kk) (nI a)) (Int32.not_lt.mpr c_59)]⟩
        · refine tq_aload_n 0 (dget dX8_cell 34 rfl) rfl rfl ?_
          refine tq_aload_n 0 (dget dX8_cell 35 rfl) rfl rfl ?_
          refine tq_iload_n 1 (dget dX8_cell 36 rfl) rfl rfl ?_
          refine tq_iload_n 2 (dget dX8_cell 37 rfl) rfl rfl ?_
          refine mq_Vi (As := [.int (nI kk), .int i]) (rest := [.ref 42]) (dget dX8_cell 38 rfl) lX8_215 miX8_noCell (k_noCell (up σ 42 0 0) (szOK_up hz) kk i hkk d (by omega)) rfl rfl rfl rfl (Nat.le_of_ble_eq_true rfl) (Nat.le_of_ble_eq_true rfl) (fun r_66 σ_66 h_66 => ?_)
          obtain ⟨a_66, e_66⟩ := h_66
          obtain rfl := a_66.symm
          obtain rfl := e_66.symm
          rw [show up σ 42 0 0 59 kk = σ 59 kk from (congrFun (up_row (by decide)) kk)]
          refine mq_Vl (As := [.int (ncF (σ 59 kk) i)]) (rest := []) (dget dX8_cell 39 rfl) lX8_218 miX8_failedLong (k_failedLong (up σ 42 0 0) (ncF (σ 59 kk) i) d (by omega)) rfl rfl rfl rfl (Nat.le_of_ble_eq_true rfl) (Nat.le_of_ble_eq_true rfl) (fun r_69 σ_69 h_69 => ?_)
          obtain ⟨a_69, e_69⟩ := h_69
          rw [a_69]
          obtain rfl := e_69.symm
          refine tq_goto (tgt := 87) (dget dX8_cell 40 rfl) (by decide) ?_
          exact tq_lret rfl (dget dX8_cell 50 rfl) ⟨_, rfl, by simp only [nI_clamp (show kk < 2 ^ 31 by omega), cnd_t (P := isSh (nI kk)) (Classical.not_not.mp (b_6.f c_9)), cnd_t (P := isLn l) (b_18.t c_21), cnd_f (P := ¬ σ 59 kk < 0 ∧ ¬ σ 60 kk = l) (fun q => q.1 c_34), cnd_t (P := 0 < ncF (σ 59 kk) i) (Int32.not_le.mp c_59)], by rw [up_up]; simp only [nI_clamp (show kk < 2 ^ 31 by omega), cnd_t (P := isSh (nI kk)) (Classical.not_not.mp (b_6.f c_9)), cnd_t (P := isLn l) (b_18.t c_21), cnd_f (P := ¬ σ 59 kk < 0 ∧ ¬ σ 60 kk = l) (fun q => q.1 c_34), cnd_t (P := 0 < ncF (σ 59 kk) i) (Int32.not_le.mp c_59)]⟩
      · refine tq_aload_n 0 (dget dX8_cell 19 rfl) rfl rfl ?_
        refine tq_getR (dget dX8_cell 20 rfl) fX8_62 rfl rfl ?_
        refine tq_iload_n 1 (dget dX8_cell 21 rfl) rfl rfl ?_
        refine tq_ialdN kk (dget dX8_cell 22 rfl) rfl (by decide) rfl (by omega) ?_
        refine tq_eqi (y := (σ 60 kk)) (congrFun (up_row (by decide)) kk) ?_
        refine tq_iload_n 3 (dget dX8_cell 23 rfl) rfl rfl ?_
        refine tq_icmp_eq (tgt := 53) (dget dX8_cell 24 rfl) (by decide) (fun c_44 => ?_) (fun c_44 => ?_)
        · refine tq_aload_n 0 (dget dX8_cell 29 rfl) rfl rfl ?_
          refine tq_iload_n 1 (dget dX8_cell 30 rfl) rfl rfl ?_
          refine tq_iload_n 2 (dget dX8_cell 31 rfl) rfl rfl ?_
          refine mq_Vi (As := [.int (nI kk), .int i]) (rest := []) (dget dX8_cell 32 rfl) lX8_215 miX8_noCell (k_noCell (up σ 42 0 0) (szOK_up hz) kk i hkk d (by omega)) rfl rfl rfl rfl (Nat.le_of_ble_eq_true rfl) (Nat.le_of_ble_eq_true rfl) (fun r_56 σ_56 h_56 => ?_)
          obtain ⟨a_56, e_56⟩ := h_56
          obtain rfl := a_56.symm
          obtain rfl := e_56.symm
          rw [show up σ 42 0 0 59 kk = σ 59 kk from (congrFun (up_row (by decide)) kk)]
          refine tq_if_le (tgt := 75) (dget dX8_cell 33 rfl) (by decide) (fun c_59 => ?_) (fun c_59 => ?_)
          · have g_n := ncF_ok (by first | exact c_59 | exact Int32.not_lt.mpr c_59)
            obtain ⟨L, hL, eL⟩ := (hz kk hkk).resolve_left (fun e => g_n.1 (by rw [e]; decide))
            obtain ⟨a, e_a, ha⟩ := kC_n (C := L) (by omega) g_n.2.1 (by rw [← eL]; exact g_n.2.2)
            subst e_a
            refine tq_aload_n 0 (dget dX8_cell 41 rfl) rfl rfl ?_
            refine tq_getR (dget dX8_cell 42 rfl) fX8_65 rfl rfl ?_
            refine tq_bipush (v := 100) (dget dX8_cell 43 rfl) rfl ?_
            refine tq_iload_n 1 (dget dX8_cell 44 rfl) rfl rfl ?_
            refine tq_imul (dget dX8_cell 45 rfl) ?_
            refine tq_eqi (y := (nI (100 * kk))) (nI_mulN (100) (kk)) ?_
            refine tq_iload_n 2 (dget dX8_cell 46 rfl) rfl rfl ?_
            refine tq_iadd (dget dX8_cell 47 rfl) ?_
            refine tq_eqi (y := (nI ((100 * kk) + a))) (nI_add ((100 * kk)) (a)) ?_
            refine tq_ialdN ((100 * kk) + a) (dget dX8_cell 48 rfl) rfl (by decide) rfl (by omega) ?_
            refine tq_eqi (y := (σ 61 (100 * kk + a))) (congrFun (up_row (by decide)) (100 * kk + a)) ?_
            refine tq_i2l (dget dX8_cell 49 rfl) ?_
            exact tq_lret rfl (dget dX8_cell 50 rfl) ⟨_, rfl, by simp only [nI_clamp (show kk < 2 ^ 31 by omega), cnd_t (P := isSh (nI kk)) (Classical.not_not.mp (b_6.f c_9)), cnd_t (P := isLn l) (b_18.t c_21), cnd_f (P := ¬ σ 59 kk < 0 ∧ ¬ σ 60 kk = l) (fun q => q.2 c_44), nI_clamp (show a < 2 ^ 31 by omega), cnd_f (P := 0 < ncF (σ 59 kk) (nI a)) (Int32.not_lt.mpr c_59)], by simp only [nI_clamp (show kk < 2 ^ 31 by omega), cnd_t (P := isSh (nI kk)) (Classical.not_not.mp (b_6.f c_9)), cnd_t (P := isLn l) (b_18.t c_21), cnd_f (P := ¬ σ 59 kk < 0 ∧ ¬ σ 60 kk = l) (fun q => q.2 c_44), nI_clamp (show a < 2 ^ 31 by omega), cnd_f (P := 0 < ncF (σ 59 kk) (nI a)) (Int32.not_lt.mpr c_59)]⟩
          · refine tq_aload_n 0 (dget dX8_cell 34 rfl) rfl rfl ?_
            refine tq_aload_n 0 (dget dX8_cell 35 rfl) rfl rfl ?_
            refine tq_iload_n 1 (dget dX8_cell 36 rfl) rfl rfl ?_
            refine tq_iload_n 2 (dget dX8_cell 37 rfl) rfl rfl ?_
            refine mq_Vi (As := [.int (nI kk), .int i]) (rest := [.ref 42]) (dget dX8_cell 38 rfl) lX8_215 miX8_noCell (k_noCell (up σ 42 0 0) (szOK_up hz) kk i hkk d (by omega)) rfl rfl rfl rfl (Nat.le_of_ble_eq_true rfl) (Nat.le_of_ble_eq_true rfl) (fun r_66 σ_66 h_66 => ?_)
            obtain ⟨a_66, e_66⟩ := h_66
            obtain rfl := a_66.symm
            obtain rfl := e_66.symm
            rw [show up σ 42 0 0 59 kk = σ 59 kk from (congrFun (up_row (by decide)) kk)]
            refine mq_Vl (As := [.int (ncF (σ 59 kk) i)]) (rest := []) (dget dX8_cell 39 rfl) lX8_218 miX8_failedLong (k_failedLong (up σ 42 0 0) (ncF (σ 59 kk) i) d (by omega)) rfl rfl rfl rfl (Nat.le_of_ble_eq_true rfl) (Nat.le_of_ble_eq_true rfl) (fun r_69 σ_69 h_69 => ?_)
            obtain ⟨a_69, e_69⟩ := h_69
            rw [a_69]
            obtain rfl := e_69.symm
            refine tq_goto (tgt := 87) (dget dX8_cell 40 rfl) (by decide) ?_
            exact tq_lret rfl (dget dX8_cell 50 rfl) ⟨_, rfl, by simp only [nI_clamp (show kk < 2 ^ 31 by omega), cnd_t (P := isSh (nI kk)) (Classical.not_not.mp (b_6.f c_9)), cnd_t (P := isLn l) (b_18.t c_21), cnd_f (P := ¬ σ 59 kk < 0 ∧ ¬ σ 60 kk = l) (fun q => q.2 c_44), cnd_t (P := 0 < ncF (σ 59 kk) i) (Int32.not_le.mp c_59)], by rw [up_up]; simp only [nI_clamp (show kk < 2 ^ 31 by omega), cnd_t (P := isSh (nI kk)) (Classical.not_not.mp (b_6.f c_9)), cnd_t (P := isLn l) (b_18.t c_21), cnd_f (P := ¬ σ 59 kk < 0 ∧ ¬ σ 60 kk = l) (fun q => q.2 c_44), cnd_t (P := 0 < ncF (σ 59 kk) i) (Int32.not_le.mp c_59)]⟩
        · refine tq_aload_n 0 (dget dX8_cell 25 rfl) rfl rfl ?_
          refine tq_iconst (v := 2) (dget dX8_cell 26 rfl) rfl ?_
          refine mq_Vl (As := [.int 2]) (rest := []) (dget dX8_cell 27 rfl) lX8_218 miX8_failedLong (k_failedLong (up σ 42 0 0) 2 d (by omega)) rfl rfl rfl rfl (Nat.le_of_ble_eq_true rfl) (Nat.le_of_ble_eq_true rfl) (fun r_49 σ_49 h_49 => ?_)
          obtain ⟨a_49, e_49⟩ := h_49
          rw [a_49]
          obtain rfl := e_49.symm
          exact tq_lret rfl (dget dX8_cell 28 rfl) ⟨_, rfl, by simp only [nI_clamp (show kk < 2 ^ 31 by omega), cnd_t (P := isSh (nI kk)) (Classical.not_not.mp (b_6.f c_9)), cnd_t (P := isLn l) (b_18.t c_21), cnd_t (P := ¬ σ 59 kk < 0 ∧ ¬ σ 60 kk = l) ⟨c_34, c_44⟩], by rw [up_up]; simp only [nI_clamp (show kk < 2 ^ 31 by omega), cnd_t (P := isSh (nI kk)) (Classical.not_not.mp (b_6.f c_9)), cnd_t (P := isLn l) (b_18.t c_21), cnd_t (P := ¬ σ 59 kk < 0 ∧ ¬ σ 60 kk = l) ⟨c_34, c_44⟩]⟩
    · refine mq_Sl (As := []) (rest := []) (dget dX8_cell 12 rfl) lX8_77 miX8_lost (k_lost (up σ 42 0 0) d (by omega)) rfl rfl (Nat.le_of_ble_eq_true rfl) (Nat.le_of_ble_eq_true rfl) (fun r_24 σ_24 h_24 => ?_)
      obtain ⟨a_24, e_24⟩ := h_24
      obtain rfl := a_24.symm
      obtain rfl := e_24.symm
      exact tq_lret rfl (dget dX8_cell 13 rfl) ⟨_, rfl, by simp only [cnd_t (P := isSh k) (Classical.not_not.mp (b_6.f c_9)), cnd_f (P := isLn l) (b_18.f c_21)], by simp only [cnd_t (P := isSh k) (Classical.not_not.mp (b_6.f c_9)), cnd_f (P := isLn l) (b_18.f c_21)]⟩
set_option maxHeartbeats 4000000 in
set_option maxRecDepth 20000 in
theorem k_isBeyond (σ : Mem) (i y : Int32) (L : Nat) (hL : L ≤ 100) (d : Nat) (hd : 0 ≤ d) : PMet d mX8_isBeyond [.int i, .long y.toInt64, .int (nI L)] σ (Pi (fun v σ2 => BP (¬ (0 ≤ i ∧ i ≤ nI L ∧ 0 ≤ y ∧ y ≤ nI L - i)) v ∧ σ2 = σ)) := by
  refine PMet.start (ls0 := [(0, .int i), (1, .long y.toInt64), (3, .int (nI L))]) miX8_isBeyond.1 (Nat.le_of_ble_eq_true rfl) rfl ?_
  refine tq_iload_n 0 (dget dX8_isBeyond 0 rfl) rfl rfl ?_
  refine tq_if_lt (tgt := 20) (dget dX8_isBeyond 1 rfl) (by decide) (fun c_1 => ?_) (fun c_1 => ?_)
  · refine tq_iconst (v := 1) (dget dX8_isBeyond 14 rfl) rfl ?_
    refine tq_goto (tgt := 25) (dget dX8_isBeyond 15 rfl) (by decide) ?_
    exact tq_zret rfl rfl (dget dX8_isBeyond 17 rfl) ⟨_, rfl, BP.y (fun q => by have q2 := (bynd hL).mpr q; first | exact absurd q2.1 (Int32.not_le.mpr c_1) | exact absurd ((lg_cmp_ge _ _).mpr q2.2.1) (Int32.not_le.mpr c_7) | exact c_17 ((lg_cmp_le _ _).mpr q2.2.2)), rfl⟩
  · refine tq_lload_n 1 (dget dX8_isBeyond 2 rfl) rfl rfl ?_
    refine tq_lconst (v := 0) (dget dX8_isBeyond 3 rfl) rfl ?_
    refine tq_lcmp (dget dX8_isBeyond 4 rfl) ?_
    refine tq_if_lt (tgt := 20) (dget dX8_isBeyond 5 rfl) (by decide) (fun c_7 => ?_) (fun c_7 => ?_)
    · refine tq_iconst (v := 1) (dget dX8_isBeyond 14 rfl) rfl ?_
      refine tq_goto (tgt := 25) (dget dX8_isBeyond 15 rfl) (by decide) ?_
      exact tq_zret rfl rfl (dget dX8_isBeyond 17 rfl) ⟨_, rfl, BP.y (fun q => by have q2 := (bynd hL).mpr q; first | exact absurd q2.1 (Int32.not_le.mpr c_1) | exact absurd ((lg_cmp_ge _ _).mpr q2.2.1) (Int32.not_le.mpr c_7) | exact c_17 ((lg_cmp_le _ _).mpr q2.2.2)), rfl⟩
    · refine tq_iload_n 0 (dget dX8_isBeyond 6 rfl) rfl rfl ?_
      refine tq_i2l (dget dX8_isBeyond 7 rfl) ?_
      refine tq_lload_n 1 (dget dX8_isBeyond 8 rfl) rfl rfl ?_
      refine tq_ladd (dget dX8_isBeyond 9 rfl) ?_
      refine tq_iload_n 2 (dget dX8_isBeyond 10 rfl) rfl rfl ?_
      refine tq_i2l (dget dX8_isBeyond 11 rfl) ?_
      refine tq_lcmp (dget dX8_isBeyond 12 rfl) ?_
      refine tq_if_le (tgt := 24) (dget dX8_isBeyond 13 rfl) (by decide) (fun c_17 => ?_) (fun c_17 => ?_)
      · refine tq_iconst (v := 0) (dget dX8_isBeyond 16 rfl) rfl ?_
        exact tq_zret rfl rfl (dget dX8_isBeyond 17 rfl) ⟨_, rfl, BP.n (fun q => q ((bynd hL).mp ⟨Int32.not_lt.mp c_1, (lg_cmp_ge _ _).mp (Int32.not_lt.mp c_7), (lg_cmp_le _ _).mp c_17⟩)), rfl⟩
      · refine tq_iconst (v := 1) (dget dX8_isBeyond 14 rfl) rfl ?_
        refine tq_goto (tgt := 25) (dget dX8_isBeyond 15 rfl) (by decide) ?_
        exact tq_zret rfl rfl (dget dX8_isBeyond 17 rfl) ⟨_, rfl, BP.y (fun q => by have q2 := (bynd hL).mpr q; first | exact absurd q2.1 (Int32.not_le.mpr c_1) | exact absurd ((lg_cmp_ge _ _).mpr q2.2.1) (Int32.not_le.mpr c_7) | exact c_17 ((lg_cmp_le _ _).mpr q2.2.2)), rfl⟩

/-! ===== the class's public calls (3): one maid, matches, worth, what is learnt ===== -/
theorem nI_nm1 {s : Nat} (h : s < 2 ^ 31) : ¬ nI s = -1 := fun e => by
  have h2 := nI_pos h
  rw [e] at h2
  exact h2 (by decide)
theorem gdF_pos : ∀ (n a b : Nat), 0 < a → 0 < gdF n a b
  | 0, a, b, h => h
  | n + 1, a, b, h => by
    unfold gdF
    split
    · exact h
    · exact gdF_pos n b (a % b) (by omega)
theorem gdF_pos2 {n a b : Nat} (h : 0 < b) : 0 < gdF (n + 1) a b := by
  unfold gdF
  rw [if_neg (by omega)]
  exact gdF_pos n b (a % b) h
noncomputable def lsR (P : Nat → Prop) : Nat → Nat → Int32
  | 0, _ => -9
  | n + 1, k => cnd (P k) (nI k) (lsR P n (k + 1))
noncomputable def gsR (P : Nat → Prop) : Nat → Int32
  | 0 => -9
  | n + 1 => cnd (P n) (nI n) (gsR P n)
theorem lsR_t {P : Nat → Prop} {j : Nat} : ∀ (n k : Nat), k ≤ j → j < k + n → P j → (∀ i, k ≤ i → i < j → ¬ P i) → lsR P n k = nI j
  | 0, k, h1, h2, _, _ => by omega
  | n + 1, k, h1, h2, h3, h4 => by
    unfold lsR
    by_cases e : k = j
    · subst e; exact cnd_t h3 _ _
    · rw [cnd_f (h4 k (Nat.le_refl _) (by omega))]
      exact lsR_t n (k + 1) (by omega) (by omega) h3 (fun i h5 h6 => h4 i (by omega) h6)
theorem lsR_0 {P : Nat → Prop} : ∀ (n k : Nat), (∀ i, k ≤ i → i < k + n → ¬ P i) → lsR P n k = -9
  | 0, k, _ => rfl
  | n + 1, k, h => by
    unfold lsR
    rw [cnd_f (h k (Nat.le_refl _) (by omega))]
    exact lsR_0 n (k + 1) (fun i h1 h2 => h i (by omega) (by omega))
theorem ll_eq {P : Nat → Prop} {v : Int32} (h : llP P v) : v = lsR P 10 0 := by
  rcases h with ⟨k, h1, rfl, h2, h3⟩ | ⟨rfl, h1⟩
  · exact (lsR_t 10 0 (Nat.zero_le _) (by omega) h2 (fun i _ h5 => h3 i h5)).symm
  · exact (lsR_0 10 0 (fun i _ h5 => h1 i (by omega))).symm
theorem gsR_t {P : Nat → Prop} {j : Nat} : ∀ (n : Nat), j < n → P j → (∀ i, j < i → i < n → ¬ P i) → gsR P n = nI j
  | 0, h, _, _ => by omega
  | n + 1, h1, h2, h3 => by
    unfold gsR
    by_cases e : n = j
    · subst e; exact cnd_t h2 _ _
    · rw [cnd_f (h3 n (by omega) (by omega))]
      exact gsR_t n (by omega) h2 (fun i h5 h6 => h3 i h5 (by omega))
theorem gsR_0 {P : Nat → Prop} : ∀ (n : Nat), (∀ i, i < n → ¬ P i) → gsR P n = -9
  | 0, _ => rfl
  | n + 1, h => by
    unfold gsR
    rw [cnd_f (h n (by omega))]
    exact gsR_0 n (fun i h1 => h i (by omega))
theorem gl_eq {P : Nat → Prop} {v : Int32} (h : glP P v) : v = gsR P 10 := by
  rcases h with ⟨k, h1, rfl, h2, h3⟩ | ⟨rfl, h1⟩
  · exact (gsR_t 10 h1 h2 h3).symm
  · exact (gsR_0 10 h1).symm
def brS (σ : Mem) (S m told : Nat) : Nat → Prop := fun set => brP (σ 1 2) (σ 2 m) (fun s => σ (4 + m) s) S told set
noncomputable def firmM (σ : Mem) (S M : Nat) : Mem := mfP S M S (up (begF 27 σ) 26 2 0)
noncomputable def brgP (σ : Mem) (S M : Nat) : Int32 × Mem := bfP S M S (begF 27 σ)
def herN (σ : Mem) (m : Nat) : Nat → Nat := fun s => cl (σ (4 + m) s)
def lkOK (σ : Mem) (S M : Nat) : Prop := ∀ m, m < M → ∀ s, s < S → ∃ j, j ≤ 9 ∧ σ (4 + m) s = nI j
theorem herN_ok {σ : Mem} {S M m : Nat} (h : lkOK σ S M) (hm : m < M) : ∀ s, s < S → σ (4 + m) s = nI (herN σ m s) ∧ herN σ m s ≤ 9 := by
  intro s hs
  obtain ⟨j, h1, h2⟩ := h m hm s hs
  unfold herN
  have e : cl (nI j) = j := nI_clamp (by omega)
  rw [h2, e]
  exact ⟨rfl, h1⟩

set_option maxHeartbeats 4000000 in
set_option maxRecDepth 20000 in
theorem c_sent (σ : Mem) (S M : Nat) (hV : VA σ S M) (x y : Int32) (d : Nat) (hd : 4 ≤ d) : PMet d mX7_sent [.ref 0, .int x, .int y] σ (Pi (fun v σ2 => v = cnd (hM σ x) (cnd (hS σ y) (fwV (fwF (brS σ S (cl x) (cl y)) (cl y) (2 ^ S))) (-1)) (-1) ∧ σ2 = σ)) := by
  obtain ⟨d, rfl⟩ : ∃ e, d = e + 1 := ⟨d - 1, by omega⟩
  refine PMet.start (ls0 := [(0, .ref 0), (1, .int x), (2, .int y)]) miX7_sent.1 (Nat.le_of_ble_eq_true rfl) rfl ?_
  refine tq_aload_n 0 (dget dX7_sent 0 rfl) rfl rfl ?_
  refine tq_getR (dget dX7_sent 1 rfl) fX7_12 rfl rfl ?_
  refine tq_iload_n 1 (dget dX7_sent 2 rfl) rfl rfl ?_
  refine mq_Vi (As := [.int x]) (rest := []) (dget dX7_sent 3 rfl) lX7_92 miX6_hasMaid (c_hasMaid σ x d (by omega)) rfl rfl rfl rfl (Nat.le_of_ble_eq_true rfl) (Nat.le_of_ble_eq_true rfl) (fun r_5 σ_5 h_5 => ?_)
  obtain ⟨b_5, e_5⟩ := h_5
  obtain rfl := e_5.symm
  refine tq_if_eq (tgt := 22) (dget dX7_sent 4 rfl) (by decide) (fun c_8 => ?_) (fun c_8 => ?_)
  · refine tq_iconst (v := (-1)) (dget dX7_sent 10 rfl) rfl ?_
    exact tq_iret rfl (dget dX7_sent 11 rfl) ⟨_, rfl, by simp only [cnd_f (P := hM σ x) (b_5.f c_8)]; try rfl, rfl⟩
  · refine tq_aload_n 0 (dget dX7_sent 5 rfl) rfl rfl ?_
    refine tq_getR (dget dX7_sent 6 rfl) fX7_12 rfl rfl ?_
    refine tq_iload_n 2 (dget dX7_sent 7 rfl) rfl rfl ?_
    refine mq_Vi (As := [.int y]) (rest := []) (dget dX7_sent 8 rfl) lX7_95 miX6_hasSuitor (c_hasSuitor σ y d (by omega)) rfl rfl rfl rfl (Nat.le_of_ble_eq_true rfl) (Nat.le_of_ble_eq_true rfl) (fun r_16 σ_16 h_16 => ?_)
    obtain ⟨b_16, e_16⟩ := h_16
    obtain rfl := e_16.symm
    refine tq_if_ne (tgt := 24) (dget dX7_sent 9 rfl) (by decide) (fun c_19 => ?_) (fun c_19 => ?_)
    · obtain ⟨m, e_m, hm, hm4⟩ := hM_n hV (b_5.t c_8)
      subst e_m
      obtain ⟨s, e_s, hs, hs6⟩ := hS_n hV (b_16.t c_19)
      subst e_s
      refine tq_aload_n 0 (dget dX7_sent 12 rfl) rfl rfl ?_
      refine tq_getR (dget dX7_sent 13 rfl) fX7_12 rfl rfl ?_
      refine tq_iload_n 1 (dget dX7_sent 14 rfl) rfl rfl ?_
      refine tq_iload_n 2 (dget dX7_sent 15 rfl) rfl rfl ?_
      refine mq_Vi (As := [.int (nI m), .int (nI s)]) (rest := []) (dget dX7_sent 16 rfl) lX7_167 miX6_fewestAhead (c_fewestAhead σ S M m s hV hm4 hs6 d (by omega)) rfl rfl rfl rfl (Nat.le_of_ble_eq_true rfl) (Nat.le_of_ble_eq_true rfl) (fun r_30 σ_30 h_30 => ?_)
      obtain ⟨a_30, e_30⟩ := h_30
      obtain rfl := a_30.symm
      obtain rfl := e_30.symm
      exact tq_iret rfl (dget dX7_sent 17 rfl) ⟨_, rfl, by simp only [cnd_t (P := hM σ (nI m)) (b_5.t c_8), cnd_t (P := hS σ (nI s)) (b_16.t c_19), nI_clamp (show m < 2 ^ 31 by omega), nI_clamp (show s < 2 ^ 31 by omega)]; try rfl, rfl⟩
    · refine tq_iconst (v := (-1)) (dget dX7_sent 10 rfl) rfl ?_
      exact tq_iret rfl (dget dX7_sent 11 rfl) ⟨_, rfl, by simp only [cnd_t (P := hM σ x) (b_5.t c_8), cnd_f (P := hS σ y) (b_16.f c_19)]; try rfl, rfl⟩
set_option maxHeartbeats 4000000 in
set_option maxRecDepth 20000 in
theorem c_firm (σ : Mem) (S M : Nat) (hV : VA σ S M) (y : Int32) (d : Nat) (hd : 11 ≤ d) : PMet d mX7_firm [.ref 0, .int y] σ (Pi (fun v σ2 => v = cnd (y = -1 ∨ hS σ y) (cnd (0 < σ 1 1) (cnd (y = -1) (firmM σ S M 26 2) (figF (firmM σ S M 31 (cl y)))) (-3)) (-1) ∧ σ2 = cnd (y = -1 ∨ hS σ y) (cnd (0 < σ 1 1) (firmM σ S M) σ) σ)) := by
  obtain ⟨d, rfl⟩ : ∃ e, d = e + 1 := ⟨d - 1, by omega⟩
  refine PMet.start (ls0 := [(0, .ref 0), (1, .int y)]) miX7_firm.1 (Nat.le_of_ble_eq_true rfl) rfl ?_
  refine tq_iload_n 1 (dget dX7_firm 0 rfl) rfl rfl ?_
  refine tq_iconst (v := (-1)) (dget dX7_firm 1 rfl) rfl ?_
  refine tq_icmp_eq (tgt := 18) (dget dX7_firm 2 rfl) (by decide) (fun c_2 => ?_) (fun c_2 => ?_)
  · refine tq_aload_n 0 (dget dX7_firm 10 rfl) rfl rfl ?_
    refine tq_getR (dget dX7_firm 11 rfl) fX7_12 rfl rfl ?_
    refine mq_Vi (As := []) (rest := []) (dget dX7_firm 12 rfl) lX7_128 miX6_stands (c_stands σ d (by omega)) rfl rfl rfl rfl (Nat.le_of_ble_eq_true rfl) (Nat.le_of_ble_eq_true rfl) (fun r_22 σ_22 h_22 => ?_)
    obtain ⟨b_22, e_22⟩ := h_22
    obtain rfl := e_22.symm
    refine tq_if_ne (tgt := 31) (dget dX7_firm 13 rfl) (by decide) (fun c_25 => ?_) (fun c_25 => ?_)
    · refine tq_aload_n 0 (dget dX7_firm 16 rfl) rfl rfl ?_
      refine tq_getR (dget dX7_firm 17 rfl) fX7_35 rfl rfl ?_
      refine tq_aload_n 0 (dget dX7_firm 18 rfl) rfl rfl ?_
      refine tq_getR (dget dX7_firm 19 rfl) fX7_12 rfl rfl ?_
      refine mq_Vi (As := [.ref 1]) (rest := []) (dget dX7_firm 20 rfl) lX7_170 miX1_countFirm (c_countFirm σ S M hV d (by omega)) rfl rfl rfl rfl (Nat.le_of_ble_eq_true rfl) (Nat.le_of_ble_eq_true rfl) (fun r_39 σ_39 h_39 => ?_)
      obtain ⟨e_39, a_39⟩ := h_39
      change σ_39 = firmM σ S M at e_39
      rw [a_39]
      obtain rfl := e_39.symm
      refine tq_istore_n (ls2 := [(2, .int (firmM σ S M 26 2)), (0, .ref 0), (1, .int y)]) (dget dX7_firm 21 rfl) rfl (by decide) rfl ?_
      refine tq_iload_n 2 (dget dX7_firm 22 rfl) rfl rfl ?_
      refine tq_iconst (v := (-1)) (dget dX7_firm 23 rfl) rfl ?_
      refine tq_icmp_ne (tgt := 52) (dget dX7_firm 24 rfl) (by decide) (fun c_45 => ?_) (fun c_45 => ?_)
      · exact absurd c_2 c_45
      · refine tq_iload_n 0 (dget dX7_firm 25 rfl) rfl rfl ?_
        refine tq_goto (tgt := 64) (dget dX7_firm 26 rfl) (by decide) ?_
        exact tq_iret rfl (dget dX7_firm 33 rfl) ⟨_, rfl, by simp only [cnd_t (P := y = -1 ∨ hS σ y) (Or.inl c_2), cnd_t (P := 0 < σ 1 1) (b_22.t c_25), cnd_t c_2], by simp only [cnd_t (P := y = -1 ∨ hS σ y) (Or.inl c_2), cnd_t (P := 0 < σ 1 1) (b_22.t c_25), cnd_t c_2]⟩
    · refine tq_bipush (v := (-3)) (dget dX7_firm 14 rfl) rfl ?_
      exact tq_iret rfl (dget dX7_firm 15 rfl) ⟨_, rfl, by simp only [cnd_t (P := y = -1 ∨ hS σ y) (Or.inl c_2), cnd_f (P := 0 < σ 1 1) (b_22.f c_25)], by simp only [cnd_t (P := y = -1 ∨ hS σ y) (Or.inl c_2), cnd_f (P := 0 < σ 1 1) (b_22.f c_25)]⟩
  · refine tq_aload_n 0 (dget dX7_firm 3 rfl) rfl rfl ?_
    refine tq_getR (dget dX7_firm 4 rfl) fX7_12 rfl rfl ?_
    refine tq_iload_n 1 (dget dX7_firm 5 rfl) rfl rfl ?_
    refine mq_Vi (As := [.int y]) (rest := []) (dget dX7_firm 6 rfl) lX7_95 miX6_hasSuitor (c_hasSuitor σ y d (by omega)) rfl rfl rfl rfl (Nat.le_of_ble_eq_true rfl) (Nat.le_of_ble_eq_true rfl) (fun r_10 σ_10 h_10 => ?_)
    obtain ⟨b_10, e_10⟩ := h_10
    obtain rfl := e_10.symm
    refine tq_if_ne (tgt := 18) (dget dX7_firm 7 rfl) (by decide) (fun c_13 => ?_) (fun c_13 => ?_)
    · obtain ⟨s, e_s, hs, hs6⟩ := hS_n hV (b_10.t c_13)
      subst e_s
      refine tq_aload_n 0 (dget dX7_firm 10 rfl) rfl rfl ?_
      refine tq_getR (dget dX7_firm 11 rfl) fX7_12 rfl rfl ?_
      refine mq_Vi (As := []) (rest := []) (dget dX7_firm 12 rfl) lX7_128 miX6_stands (c_stands σ d (by omega)) rfl rfl rfl rfl (Nat.le_of_ble_eq_true rfl) (Nat.le_of_ble_eq_true rfl) (fun r_22 σ_22 h_22 => ?_)
      obtain ⟨b_22, e_22⟩ := h_22
      obtain rfl := e_22.symm
      refine tq_if_ne (tgt := 31) (dget dX7_firm 13 rfl) (by decide) (fun c_25 => ?_) (fun c_25 => ?_)
      · refine tq_aload_n 0 (dget dX7_firm 16 rfl) rfl rfl ?_
        refine tq_getR (dget dX7_firm 17 rfl) fX7_35 rfl rfl ?_
        refine tq_aload_n 0 (dget dX7_firm 18 rfl) rfl rfl ?_
        refine tq_getR (dget dX7_firm 19 rfl) fX7_12 rfl rfl ?_
        refine mq_Vi (As := [.ref 1]) (rest := []) (dget dX7_firm 20 rfl) lX7_170 miX1_countFirm (c_countFirm σ S M hV d (by omega)) rfl rfl rfl rfl (Nat.le_of_ble_eq_true rfl) (Nat.le_of_ble_eq_true rfl) (fun r_39 σ_39 h_39 => ?_)
        obtain ⟨e_39, a_39⟩ := h_39
        change σ_39 = firmM σ S M at e_39
        rw [a_39]
        obtain rfl := e_39.symm
        refine tq_istore_n (ls2 := [(2, .int (firmM σ S M 26 2)), (0, .ref 0), (1, .int (nI s))]) (dget dX7_firm 21 rfl) rfl (by decide) rfl ?_
        refine tq_iload_n 2 (dget dX7_firm 22 rfl) rfl rfl ?_
        refine tq_iconst (v := (-1)) (dget dX7_firm 23 rfl) rfl ?_
        refine tq_icmp_ne (tgt := 52) (dget dX7_firm 24 rfl) (by decide) (fun c_45 => ?_) (fun c_45 => ?_)
        · refine tq_aload_n 1 (dget dX7_firm 27 rfl) rfl rfl ?_
          refine tq_getR (dget dX7_firm 28 rfl) fX7_35 rfl rfl ?_
          refine tq_getR (dget dX7_firm 29 rfl) fX7_174 rfl rfl ?_
          refine tq_iload_n 2 (dget dX7_firm 30 rfl) rfl rfl ?_
          refine tq_ialdN s (dget dX7_firm 31 rfl) rfl (by decide) rfl (by omega) ?_
          refine mq_Si (As := [.int ((firmM σ S M) 31 s)]) (rest := []) (dget dX7_firm 32 rfl) lX7_153 miX7_figure (c_figure (firmM σ S M) ((firmM σ S M) 31 s) d (by omega)) rfl rfl (Nat.le_of_ble_eq_true rfl) (Nat.le_of_ble_eq_true rfl) (fun r_61 σ_61 h_61 => ?_)
          obtain ⟨a_61, e_61⟩ := h_61
          obtain rfl := a_61.symm
          obtain rfl := e_61.symm
          exact tq_iret rfl (dget dX7_firm 33 rfl) ⟨_, rfl, by simp only [cnd_t (P := nI s = -1 ∨ hS σ (nI s)) (Or.inr (b_10.t c_13)), nI_clamp (show s < 2 ^ 31 by omega), cnd_t (P := 0 < σ 1 1) (b_22.t c_25), cnd_f c_45], by simp only [cnd_t (P := nI s = -1 ∨ hS σ (nI s)) (Or.inr (b_10.t c_13)), nI_clamp (show s < 2 ^ 31 by omega), cnd_t (P := 0 < σ 1 1) (b_22.t c_25), cnd_f c_45]⟩
        · exact absurd c_45 (nI_nm1 (by omega))
      · refine tq_bipush (v := (-3)) (dget dX7_firm 14 rfl) rfl ?_
        exact tq_iret rfl (dget dX7_firm 15 rfl) ⟨_, rfl, by simp only [cnd_t (P := nI s = -1 ∨ hS σ (nI s)) (Or.inr (b_10.t c_13)), nI_clamp (show s < 2 ^ 31 by omega), cnd_f (P := 0 < σ 1 1) (b_22.f c_25)], by simp only [cnd_t (P := nI s = -1 ∨ hS σ (nI s)) (Or.inr (b_10.t c_13)), nI_clamp (show s < 2 ^ 31 by omega), cnd_f (P := 0 < σ 1 1) (b_22.f c_25)]⟩
    · refine tq_iconst (v := (-1)) (dget dX7_firm 8 rfl) rfl ?_
      exact tq_iret rfl (dget dX7_firm 9 rfl) ⟨_, rfl, by simp only [cnd_f (P := y = -1 ∨ hS σ y) (fun q => q.elim c_2 (b_10.f c_13))], by simp only [cnd_f (P := y = -1 ∨ hS σ y) (fun q => q.elim c_2 (b_10.f c_13))]⟩
set_option maxHeartbeats 4000000 in
set_option maxRecDepth 20000 in
theorem c_brought (σ : Mem) (S M : Nat) (hV : VA σ S M) (d : Nat) (hd : 11 ≤ d) : PMet d mX7_brought [.ref 0] σ (Pi (fun v σ2 => v = cnd (0 < σ 1 1) (brgP σ S M).1 (-3) ∧ σ2 = cnd (0 < σ 1 1) (brgP σ S M).2 σ)) := by
  obtain ⟨d, rfl⟩ : ∃ e, d = e + 1 := ⟨d - 1, by omega⟩
  refine PMet.start (ls0 := [(0, .ref 0)]) miX7_brought.1 (Nat.le_of_ble_eq_true rfl) rfl ?_
  refine tq_aload_n 0 (dget dX7_brought 0 rfl) rfl rfl ?_
  refine tq_getR (dget dX7_brought 1 rfl) fX7_12 rfl rfl ?_
  refine mq_Vi (As := []) (rest := []) (dget dX7_brought 2 rfl) lX7_128 miX6_stands (c_stands σ d (by omega)) rfl rfl rfl rfl (Nat.le_of_ble_eq_true rfl) (Nat.le_of_ble_eq_true rfl) (fun r_4 σ_4 h_4 => ?_)
  obtain ⟨b_4, e_4⟩ := h_4
  obtain rfl := e_4.symm
  refine tq_if_ne (tgt := 13) (dget dX7_brought 3 rfl) (by decide) (fun c_7 => ?_) (fun c_7 => ?_)
  · refine tq_aload_n 0 (dget dX7_brought 6 rfl) rfl rfl ?_
    refine tq_getR (dget dX7_brought 7 rfl) fX7_35 rfl rfl ?_
    refine tq_aload_n 0 (dget dX7_brought 8 rfl) rfl rfl ?_
    refine tq_getR (dget dX7_brought 9 rfl) fX7_12 rfl rfl ?_
    refine mq_Vi (As := [.ref 1]) (rest := []) (dget dX7_brought 10 rfl) lX7_177 miX1_countBringing (c_countBringing σ S M hV d (by omega)) rfl rfl rfl rfl (Nat.le_of_ble_eq_true rfl) (Nat.le_of_ble_eq_true rfl) (fun r_21 σ_21 h_21 => ?_)
    obtain ⟨a_21, e_21⟩ := h_21
    obtain rfl := a_21.symm
    obtain rfl := e_21.symm
    exact tq_iret rfl (dget dX7_brought 11 rfl) ⟨_, rfl, by simp only [cnd_t (P := 0 < σ 1 1) (b_4.t c_7)]; rfl, by simp only [cnd_t (P := 0 < σ 1 1) (b_4.t c_7)]; rfl⟩
  · refine tq_bipush (v := (-3)) (dget dX7_brought 4 rfl) rfl ?_
    exact tq_iret rfl (dget dX7_brought 5 rfl) ⟨_, rfl, by simp only [cnd_f (P := 0 < σ 1 1) (b_4.f c_7)], by simp only [cnd_f (P := 0 < σ 1 1) (b_4.f c_7)]⟩
theorem gdF_le : ∀ (n a b : Nat), gdF n a b ≤ a + b
  | 0, a, b => Nat.le_add_right a b
  | n + 1, a, b => by
    unfold gdF
    split
    · omega
    · have h1 := gdF_le n b (a % b)
      have h2 := Nat.mod_le a b
      omega

set_option maxHeartbeats 4000000 in
set_option maxRecDepth 20000 in
theorem c_worth (σ : Mem) (S M : Nat) (hV : VA σ S M) (hL : lkOK σ S M) (hSp : 0 < M → 0 < S) (x n r z : Int32) (d : Nat) (hd : 3 ≤ d) : PMet d mX7_worth [.ref 0, .int x, .int n, .int r, .int z] σ (Pl (fun v σ2 => v = cnd (hM σ x) (cnd (1 ≤ n ∧ n ≤ 4 ∧ 0 ≤ r ∧ r ≤ 3 ∧ (z = 0 ∨ z = 1)) (cnd (z = 0) (lN (sorF (herN σ (cl x)) S (cl n) (cl r) (cl n) / gdF 50 (sorF (herN σ (cl x)) S (cl n) (cl r) (cl n)) (S ^ cl n))) (lN (S ^ cl n / gdF 50 (sorF (herN σ (cl x)) S (cl n) (cl r) (cl n)) (S ^ cl n)))) (-9223372036854775808)) (-9223372036854775808) ∧ σ2 = σ)) := by
  obtain ⟨d, rfl⟩ : ∃ e, d = e + 1 := ⟨d - 1, by omega⟩
  refine PMet.start (ls0 := [(0, .ref 0), (1, .int x), (2, .int n), (3, .int r), (4, .int z)]) miX7_worth.1 (Nat.le_of_ble_eq_true rfl) rfl ?_
  refine tq_aload_n 0 (dget dX7_worth 0 rfl) rfl rfl ?_
  refine tq_getR (dget dX7_worth 1 rfl) fX7_12 rfl rfl ?_
  refine tq_iload_n 1 (dget dX7_worth 2 rfl) rfl rfl ?_
  refine mq_Vi (As := [.int x]) (rest := []) (dget dX7_worth 3 rfl) lX7_92 miX6_hasMaid (c_hasMaid σ x d (by omega)) rfl rfl rfl rfl (Nat.le_of_ble_eq_true rfl) (Nat.le_of_ble_eq_true rfl) (fun r_5 σ_5 h_5 => ?_)
  obtain ⟨b_5, e_5⟩ := h_5
  obtain rfl := e_5.symm
  refine tq_if_ne (tgt := 15) (dget dX7_worth 4 rfl) (by decide) (fun c_8 => ?_) (fun c_8 => ?_)
  · refine tq_iload_n 2 (dget dX7_worth 7 rfl) rfl rfl ?_
    refine tq_iconst (v := 1) (dget dX7_worth 8 rfl) rfl ?_
    refine tq_icmp_lt (tgt := 45) (dget dX7_worth 9 rfl) (by decide) (fun c_17 => ?_) (fun c_17 => ?_)
    · refine tq_ldc2 (v := (-9223372036854775808)) (dget dX7_worth 23 rfl) (tblG_2 110 rfl rfl) ?_
      exact tq_lret rfl (dget dX7_worth 24 rfl) ⟨_, rfl, by simp only [cnd_t (P := hM σ x) (b_5.t c_8), cnd_f (P := 1 ≤ n ∧ n ≤ 4 ∧ 0 ≤ r ∧ r ≤ 3 ∧ (z = 0 ∨ z = 1)) (fun q => by first | exact absurd q.1 (Int32.not_le.mpr c_17) | exact absurd q.2.1 (Int32.not_le.mpr c_22) | exact absurd q.2.2.1 (Int32.not_le.mpr c_26) | exact absurd q.2.2.2.1 (Int32.not_le.mpr c_31) | exact q.2.2.2.2.elim c_36 c_42)], rfl⟩
    · refine tq_iload_n 2 (dget dX7_worth 10 rfl) rfl rfl ?_
      refine tq_iconst (v := 4) (dget dX7_worth 11 rfl) rfl ?_
      refine tq_icmp_gt (tgt := 45) (dget dX7_worth 12 rfl) (by decide) (fun c_22 => ?_) (fun c_22 => ?_)
      · refine tq_ldc2 (v := (-9223372036854775808)) (dget dX7_worth 23 rfl) (tblG_2 110 rfl rfl) ?_
        exact tq_lret rfl (dget dX7_worth 24 rfl) ⟨_, rfl, by simp only [cnd_t (P := hM σ x) (b_5.t c_8), cnd_f (P := 1 ≤ n ∧ n ≤ 4 ∧ 0 ≤ r ∧ r ≤ 3 ∧ (z = 0 ∨ z = 1)) (fun q => by first | exact absurd q.1 (Int32.not_le.mpr c_17) | exact absurd q.2.1 (Int32.not_le.mpr c_22) | exact absurd q.2.2.1 (Int32.not_le.mpr c_26) | exact absurd q.2.2.2.1 (Int32.not_le.mpr c_31) | exact q.2.2.2.2.elim c_36 c_42)], rfl⟩
      · refine tq_iload_n 3 (dget dX7_worth 13 rfl) rfl rfl ?_
        refine tq_if_lt (tgt := 45) (dget dX7_worth 14 rfl) (by decide) (fun c_26 => ?_) (fun c_26 => ?_)
        · refine tq_ldc2 (v := (-9223372036854775808)) (dget dX7_worth 23 rfl) (tblG_2 110 rfl rfl) ?_
          exact tq_lret rfl (dget dX7_worth 24 rfl) ⟨_, rfl, by simp only [cnd_t (P := hM σ x) (b_5.t c_8), cnd_f (P := 1 ≤ n ∧ n ≤ 4 ∧ 0 ≤ r ∧ r ≤ 3 ∧ (z = 0 ∨ z = 1)) (fun q => by first | exact absurd q.1 (Int32.not_le.mpr c_17) | exact absurd q.2.1 (Int32.not_le.mpr c_22) | exact absurd q.2.2.1 (Int32.not_le.mpr c_26) | exact absurd q.2.2.2.1 (Int32.not_le.mpr c_31) | exact q.2.2.2.2.elim c_36 c_42)], rfl⟩
        · refine tq_iload_n 3 (dget dX7_worth 15 rfl) rfl rfl ?_
          refine tq_iconst (v := 3) (dget dX7_worth 16 rfl) rfl ?_
          refine tq_icmp_gt (tgt := 45) (dget dX7_worth 17 rfl) (by decide) (fun c_31 => ?_) (fun c_31 => ?_)
          · refine tq_ldc2 (v := (-9223372036854775808)) (dget dX7_worth 23 rfl) (tblG_2 110 rfl rfl) ?_
            exact tq_lret rfl (dget dX7_worth 24 rfl) ⟨_, rfl, by simp only [cnd_t (P := hM σ x) (b_5.t c_8), cnd_f (P := 1 ≤ n ∧ n ≤ 4 ∧ 0 ≤ r ∧ r ≤ 3 ∧ (z = 0 ∨ z = 1)) (fun q => by first | exact absurd q.1 (Int32.not_le.mpr c_17) | exact absurd q.2.1 (Int32.not_le.mpr c_22) | exact absurd q.2.2.1 (Int32.not_le.mpr c_26) | exact absurd q.2.2.2.1 (Int32.not_le.mpr c_31) | exact q.2.2.2.2.elim c_36 c_42)], rfl⟩
          · refine tq_iload 4 (dget dX7_worth 18 rfl) rfl ?_
            refine tq_if_eq (tgt := 49) (dget dX7_worth 19 rfl) (by decide) (fun c_36 => ?_) (fun c_36 => ?_)
            · obtain ⟨m, e_m, hm, hm4⟩ := hM_n hV (b_5.t c_8)
              subst e_m
              have hS1 := hSp (by omega)
              have v3 := hV.2.2.1
              obtain ⟨N, e_N, hN1, hN5⟩ := dig (a := 1) (b := 5) (c := n) (by decide) (by decide) (Int32.not_lt.mp c_17) (Int32.lt_of_le_of_lt (Int32.not_lt.mp c_22) (by decide))
              subst e_N
              obtain ⟨q, e_q, hq0, hq4⟩ := dig (a := 0) (b := 4) (c := r) (by decide) (by decide) (Int32.not_lt.mp c_26) (Int32.lt_of_le_of_lt (Int32.not_lt.mp c_31) (by decide))
              subst e_q
              have hh := herN_ok hL hm
              have hp6 := pow6 (k := N) v3 (by omega)
              have hp1 : 0 < S ^ N := Nat.pow_pos hS1
              have hso := sorF_le (herN σ m) S N q (fun s hs => (hh s hs).2) N
              have hg : 0 < gdF 50 (sorF (herN σ m) S N q N) (S ^ N) := gdF_pos2 (n := 49) hp1
              have hgl := gdF_le 50 (sorF (herN σ m) S N q N) (S ^ N)
              refine tq_aload_n 0 (dget dX7_worth 25 rfl) rfl rfl ?_
              refine tq_getR (dget dX7_worth 26 rfl) fX7_12 rfl rfl ?_
              refine tq_iload_n 2 (dget dX7_worth 27 rfl) rfl rfl ?_
              refine mq_Vi (As := [.int (nI N)]) (rest := []) (dget dX7_worth 28 rfl) lX7_180 miX6_rowsOf (c_rowsOf σ S M N hV (by omega) d (by omega)) rfl rfl rfl rfl (Nat.le_of_ble_eq_true rfl) (Nat.le_of_ble_eq_true rfl) (fun r_54 σ_54 h_54 => ?_)
              obtain ⟨a_54, e_54⟩ := h_54
              obtain rfl := a_54.symm
              obtain rfl := e_54.symm
              refine tq_istore (ls2 := [(5, .int (nI (S ^ N))), (0, .ref 0), (1, .int (nI m)), (2, .int (nI N)), (3, .int (nI q)), (4, .int z)]) (dget dX7_worth 29 rfl) (by decide) rfl ?_
              refine tq_aload_n 1 (dget dX7_worth 30 rfl) rfl rfl ?_
              refine tq_getR (dget dX7_worth 31 rfl) fX7_12 rfl rfl ?_
              refine tq_iload_n 2 (dget dX7_worth 32 rfl) rfl rfl ?_
              refine tq_iload_n 3 (dget dX7_worth 33 rfl) rfl rfl ?_
              refine tq_iload_n 4 (dget dX7_worth 34 rfl) rfl rfl ?_
              refine mq_Vi (As := [.int (nI m), .int (nI N), .int (nI q)]) (rest := []) (dget dX7_worth 35 rfl) lX7_183 miX6_sumOverRows (c_sumOverRows σ S M m N q (herN σ m) hV hm4 hh (by omega) (by omega) d (by omega)) rfl rfl rfl rfl (Nat.le_of_ble_eq_true rfl) (Nat.le_of_ble_eq_true rfl) (fun r_66 σ_66 h_66 => ?_)
              obtain ⟨a_66, e_66⟩ := h_66
              obtain rfl := a_66.symm
              obtain rfl := e_66.symm
              refine tq_istore (ls2 := [(6, .int (nI (sorF (herN σ m) S N q N))), (5, .int (nI (S ^ N))), (0, .ref 0), (1, .int (nI m)), (2, .int (nI N)), (3, .int (nI q)), (4, .int z)]) (dget dX7_worth 36 rfl) (by decide) rfl ?_
              refine tq_iload 0 (dget dX7_worth 37 rfl) rfl ?_
              refine tq_iload 1 (dget dX7_worth 38 rfl) rfl ?_
              refine mq_Si (As := [.int (nI (sorF (herN σ m) S N q N)), .int (nI (S ^ N))]) (rest := []) (dget dX7_worth 39 rfl) lX7_186 miX7_greatestDivisor (c_gd σ (sorF (herN σ m) S N q N) (S ^ N) (by omega) (by omega) d (by omega)) rfl rfl (Nat.le_of_ble_eq_true rfl) (Nat.le_of_ble_eq_true rfl) (fun r_75 σ_75 h_75 => ?_)
              obtain ⟨a_75, e_75⟩ := h_75
              obtain rfl := a_75.symm
              obtain rfl := e_75.symm
              refine tq_istore (ls2 := [(7, .int (nI (gdF 50 (sorF (herN σ m) S N q N) (S ^ N)))), (6, .int (nI (sorF (herN σ m) S N q N))), (5, .int (nI (S ^ N))), (0, .ref 0), (1, .int (nI m)), (2, .int (nI N)), (3, .int (nI q)), (4, .int z)]) (dget dX7_worth 40 rfl) (by decide) rfl ?_
              refine tq_iload 0 (dget dX7_worth 41 rfl) rfl ?_
              refine tq_if_gt (tgt := 89) (dget dX7_worth 42 rfl) (by decide) (fun c_82 => ?_) (fun c_82 => ?_)
              · refine tq_iload 7 (dget dX7_worth 45 rfl) rfl ?_
                refine tq_if_ne (tgt := 103) (dget dX7_worth 46 rfl) (by decide) (fun c_91 => ?_) (fun c_91 => ?_)
                · exact absurd c_36 c_91
                · refine tq_iload 1 (dget dX7_worth 47 rfl) rfl ?_
                  refine tq_iload 0 (dget dX7_worth 48 rfl) rfl ?_
                  refine tq_idiv (dget dX7_worth 49 rfl) (fun e => nI_ne0 hg (by omega) e) ?_
                  refine tq_eqi (y := (nI (sorF (herN σ m) S N q N / (gdF 50 (sorF (herN σ m) S N q N) (S ^ N))))) (nI_divN (by omega) (by omega)) ?_
                  refine tq_i2l (dget dX7_worth 50 rfl) ?_
                  refine tq_goto (tgt := 109) (dget dX7_worth 51 rfl) (by decide) ?_
                  rw [nI_l (Nat.lt_of_le_of_lt (Nat.div_le_self _ _) (by omega))]
                  exact tq_lret rfl (dget dX7_worth 56 rfl) ⟨_, rfl, by simp only [cnd_t (P := hM σ (nI m)) (b_5.t c_8), cnd_t (P := 1 ≤ nI N ∧ nI N ≤ 4 ∧ 0 ≤ nI q ∧ nI q ≤ 3 ∧ (z = 0 ∨ z = 1)) ⟨Int32.not_lt.mp c_17, Int32.not_lt.mp c_22, Int32.not_lt.mp c_26, Int32.not_lt.mp c_31, Or.inl c_36⟩, nI_clamp (show m < 2 ^ 31 by omega), nI_clamp (show N < 2 ^ 31 by omega), nI_clamp (show q < 2 ^ 31 by omega), cnd_t c_91], rfl⟩
              · exact absurd (show (0 : Int32) < nI (gdF 50 (sorF (herN σ m) S N q N) (S ^ N)) from nI_lt (a := 0) hg (by omega)) c_82
            · refine tq_iload 4 (dget dX7_worth 20 rfl) rfl ?_
              refine tq_iconst (v := 1) (dget dX7_worth 21 rfl) rfl ?_
              refine tq_icmp_eq (tgt := 49) (dget dX7_worth 22 rfl) (by decide) (fun c_42 => ?_) (fun c_42 => ?_)
              · obtain ⟨m, e_m, hm, hm4⟩ := hM_n hV (b_5.t c_8)
                subst e_m
                have hS1 := hSp (by omega)
                have v3 := hV.2.2.1
                obtain ⟨N, e_N, hN1, hN5⟩ := dig (a := 1) (b := 5) (c := n) (by decide) (by decide) (Int32.not_lt.mp c_17) (Int32.lt_of_le_of_lt (Int32.not_lt.mp c_22) (by decide))
                subst e_N
                obtain ⟨q, e_q, hq0, hq4⟩ := dig (a := 0) (b := 4) (c := r) (by decide) (by decide) (Int32.not_lt.mp c_26) (Int32.lt_of_le_of_lt (Int32.not_lt.mp c_31) (by decide))
                subst e_q
                have hh := herN_ok hL hm
                have hp6 := pow6 (k := N) v3 (by omega)
                have hp1 : 0 < S ^ N := Nat.pow_pos hS1
                have hso := sorF_le (herN σ m) S N q (fun s hs => (hh s hs).2) N
                have hg : 0 < gdF 50 (sorF (herN σ m) S N q N) (S ^ N) := gdF_pos2 (n := 49) hp1
                have hgl := gdF_le 50 (sorF (herN σ m) S N q N) (S ^ N)
                refine tq_aload_n 0 (dget dX7_worth 25 rfl) rfl rfl ?_
                refine tq_getR (dget dX7_worth 26 rfl) fX7_12 rfl rfl ?_
                refine tq_iload_n 2 (dget dX7_worth 27 rfl) rfl rfl ?_
                refine mq_Vi (As := [.int (nI N)]) (rest := []) (dget dX7_worth 28 rfl) lX7_180 miX6_rowsOf (c_rowsOf σ S M N hV (by omega) d (by omega)) rfl rfl rfl rfl (Nat.le_of_ble_eq_true rfl) (Nat.le_of_ble_eq_true rfl) (fun r_54 σ_54 h_54 => ?_)
                obtain ⟨a_54, e_54⟩ := h_54
                obtain rfl := a_54.symm
                obtain rfl := e_54.symm
                refine tq_istore (ls2 := [(5, .int (nI (S ^ N))), (0, .ref 0), (1, .int (nI m)), (2, .int (nI N)), (3, .int (nI q)), (4, .int z)]) (dget dX7_worth 29 rfl) (by decide) rfl ?_
                refine tq_aload_n 1 (dget dX7_worth 30 rfl) rfl rfl ?_
                refine tq_getR (dget dX7_worth 31 rfl) fX7_12 rfl rfl ?_
                refine tq_iload_n 2 (dget dX7_worth 32 rfl) rfl rfl ?_
                refine tq_iload_n 3 (dget dX7_worth 33 rfl) rfl rfl ?_
                refine tq_iload_n 4 (dget dX7_worth 34 rfl) rfl rfl ?_
                refine mq_Vi (As := [.int (nI m), .int (nI N), .int (nI q)]) (rest := []) (dget dX7_worth 35 rfl) lX7_183 miX6_sumOverRows (c_sumOverRows σ S M m N q (herN σ m) hV hm4 hh (by omega) (by omega) d (by omega)) rfl rfl rfl rfl (Nat.le_of_ble_eq_true rfl) (Nat.le_of_ble_eq_true rfl) (fun r_66 σ_66 h_66 => ?_)
                obtain ⟨a_66, e_66⟩ := h_66
                obtain rfl := a_66.symm
                obtain rfl := e_66.symm
                refine tq_istore (ls2 := [(6, .int (nI (sorF (herN σ m) S N q N))), (5, .int (nI (S ^ N))), (0, .ref 0), (1, .int (nI m)), (2, .int (nI N)), (3, .int (nI q)), (4, .int z)]) (dget dX7_worth 36 rfl) (by decide) rfl ?_
                refine tq_iload 0 (dget dX7_worth 37 rfl) rfl ?_
                refine tq_iload 1 (dget dX7_worth 38 rfl) rfl ?_
                refine mq_Si (As := [.int (nI (sorF (herN σ m) S N q N)), .int (nI (S ^ N))]) (rest := []) (dget dX7_worth 39 rfl) lX7_186 miX7_greatestDivisor (c_gd σ (sorF (herN σ m) S N q N) (S ^ N) (by omega) (by omega) d (by omega)) rfl rfl (Nat.le_of_ble_eq_true rfl) (Nat.le_of_ble_eq_true rfl) (fun r_75 σ_75 h_75 => ?_)
                obtain ⟨a_75, e_75⟩ := h_75
                obtain rfl := a_75.symm
                obtain rfl := e_75.symm
                refine tq_istore (ls2 := [(7, .int (nI (gdF 50 (sorF (herN σ m) S N q N) (S ^ N)))), (6, .int (nI (sorF (herN σ m) S N q N))), (5, .int (nI (S ^ N))), (0, .ref 0), (1, .int (nI m)), (2, .int (nI N)), (3, .int (nI q)), (4, .int z)]) (dget dX7_worth 40 rfl) (by decide) rfl ?_
                refine tq_iload 0 (dget dX7_worth 41 rfl) rfl ?_
                refine tq_if_gt (tgt := 89) (dget dX7_worth 42 rfl) (by decide) (fun c_82 => ?_) (fun c_82 => ?_)
                · refine tq_iload 7 (dget dX7_worth 45 rfl) rfl ?_
                  refine tq_if_ne (tgt := 103) (dget dX7_worth 46 rfl) (by decide) (fun c_91 => ?_) (fun c_91 => ?_)
                  · refine tq_iload 2 (dget dX7_worth 52 rfl) rfl ?_
                    refine tq_iload 0 (dget dX7_worth 53 rfl) rfl ?_
                    refine tq_idiv (dget dX7_worth 54 rfl) (fun e => nI_ne0 hg (by omega) e) ?_
                    refine tq_eqi (y := (nI (S ^ N / (gdF 50 (sorF (herN σ m) S N q N) (S ^ N))))) (nI_divN (by omega) (by omega)) ?_
                    refine tq_i2l (dget dX7_worth 55 rfl) ?_
                    rw [nI_l (Nat.lt_of_le_of_lt (Nat.div_le_self _ _) (by omega))]
                    exact tq_lret rfl (dget dX7_worth 56 rfl) ⟨_, rfl, by simp only [cnd_t (P := hM σ (nI m)) (b_5.t c_8), cnd_t (P := 1 ≤ nI N ∧ nI N ≤ 4 ∧ 0 ≤ nI q ∧ nI q ≤ 3 ∧ (z = 0 ∨ z = 1)) ⟨Int32.not_lt.mp c_17, Int32.not_lt.mp c_22, Int32.not_lt.mp c_26, Int32.not_lt.mp c_31, Or.inr c_42⟩, nI_clamp (show m < 2 ^ 31 by omega), nI_clamp (show N < 2 ^ 31 by omega), nI_clamp (show q < 2 ^ 31 by omega), cnd_f c_91], rfl⟩
                  · exact absurd c_91 c_36
                · exact absurd (show (0 : Int32) < nI (gdF 50 (sorF (herN σ m) S N q N) (S ^ N)) from nI_lt (a := 0) hg (by omega)) c_82
              · refine tq_ldc2 (v := (-9223372036854775808)) (dget dX7_worth 23 rfl) (tblG_2 110 rfl rfl) ?_
                exact tq_lret rfl (dget dX7_worth 24 rfl) ⟨_, rfl, by simp only [cnd_t (P := hM σ x) (b_5.t c_8), cnd_f (P := 1 ≤ n ∧ n ≤ 4 ∧ 0 ≤ r ∧ r ≤ 3 ∧ (z = 0 ∨ z = 1)) (fun q => by first | exact absurd q.1 (Int32.not_le.mpr c_17) | exact absurd q.2.1 (Int32.not_le.mpr c_22) | exact absurd q.2.2.1 (Int32.not_le.mpr c_26) | exact absurd q.2.2.2.1 (Int32.not_le.mpr c_31) | exact q.2.2.2.2.elim c_36 c_42)], rfl⟩
  · refine tq_ldc2 (v := (-9223372036854775808)) (dget dX7_worth 5 rfl) (tblG_2 110 rfl rfl) ?_
    exact tq_lret rfl (dget dX7_worth 6 rfl) ⟨_, rfl, by simp only [cnd_f (P := hM σ x) (b_5.f c_8)], rfl⟩
set_option maxHeartbeats 4000000 in
set_option maxRecDepth 20000 in
theorem c_reading (σ : Mem) (S M R : Nat) (rs : Nat → Nat) (hV : VA σ S M) (hR : RD σ R rs) (x y r t : Int32) (d : Nat) (hd : 1 ≤ d) : PMet d mX7_reading [.ref 0, .int x, .int y, .int r, .int t] σ (Pi (fun v σ2 => v = cnd (hM σ x) (cnd (hS σ y) (cnd (0 ≤ r ∧ r ≤ 9) (cnd (R < 8) (nI R) (-4)) (-2)) (-1)) (-1) ∧ σ2 = cnd (hM σ x) (cnd (hS σ y) (cnd (0 ≤ r ∧ r ≤ 9) (cnd (R < 8) (up (up (up (up (up σ 22 R (nI (cl x))) 23 R (nI (cl y))) 24 R r) 25 R (vp_nar .boolean t)) 21 4 (nI (R + 1))) σ) σ) σ) σ)) := by
  obtain ⟨d, rfl⟩ : ∃ e, d = e + 1 := ⟨d - 1, by omega⟩
  refine PMet.start (ls0 := [(0, .ref 0), (1, .int x), (2, .int y), (3, .int r), (4, .int t)]) miX7_reading.1 (Nat.le_of_ble_eq_true rfl) rfl ?_
  refine tq_aload_n 0 (dget dX7_reading 0 rfl) rfl rfl ?_
  refine tq_getR (dget dX7_reading 1 rfl) fX7_12 rfl rfl ?_
  refine tq_iload_n 1 (dget dX7_reading 2 rfl) rfl rfl ?_
  refine mq_Vi (As := [.int x]) (rest := []) (dget dX7_reading 3 rfl) lX7_92 miX6_hasMaid (c_hasMaid σ x d (by omega)) rfl rfl rfl rfl (Nat.le_of_ble_eq_true rfl) (Nat.le_of_ble_eq_true rfl) (fun r_5 σ_5 h_5 => ?_)
  obtain ⟨b_5, e_5⟩ := h_5
  obtain rfl := e_5.symm
  refine tq_if_eq (tgt := 22) (dget dX7_reading 4 rfl) (by decide) (fun c_8 => ?_) (fun c_8 => ?_)
  · refine tq_iconst (v := (-1)) (dget dX7_reading 10 rfl) rfl ?_
    exact tq_iret rfl (dget dX7_reading 11 rfl) ⟨_, rfl, by simp only [cnd_f (P := hM σ x) (b_5.f c_8)], by simp only [cnd_f (P := hM σ x) (b_5.f c_8)]⟩
  · refine tq_aload_n 0 (dget dX7_reading 5 rfl) rfl rfl ?_
    refine tq_getR (dget dX7_reading 6 rfl) fX7_12 rfl rfl ?_
    refine tq_iload_n 2 (dget dX7_reading 7 rfl) rfl rfl ?_
    refine mq_Vi (As := [.int y]) (rest := []) (dget dX7_reading 8 rfl) lX7_95 miX6_hasSuitor (c_hasSuitor σ y d (by omega)) rfl rfl rfl rfl (Nat.le_of_ble_eq_true rfl) (Nat.le_of_ble_eq_true rfl) (fun r_16 σ_16 h_16 => ?_)
    obtain ⟨b_16, e_16⟩ := h_16
    obtain rfl := e_16.symm
    refine tq_if_ne (tgt := 24) (dget dX7_reading 9 rfl) (by decide) (fun c_19 => ?_) (fun c_19 => ?_)
    · obtain ⟨m, e_m, hm, hm4⟩ := hM_n hV (b_5.t c_8)
      subst e_m
      obtain ⟨s, e_s, hs, hs6⟩ := hS_n hV (b_16.t c_19)
      subst e_s
      refine tq_iload_n 3 (dget dX7_reading 12 rfl) rfl rfl ?_
      refine tq_if_lt (tgt := 34) (dget dX7_reading 13 rfl) (by decide) (fun c_25 => ?_) (fun c_25 => ?_)
      · refine tq_bipush (v := (-2)) (dget dX7_reading 17 rfl) rfl ?_
        exact tq_iret rfl (dget dX7_reading 18 rfl) ⟨_, rfl, by simp only [cnd_t (P := hM σ (nI m)) (b_5.t c_8), cnd_t (P := hS σ (nI s)) (b_16.t c_19), nI_clamp (show m < 2 ^ 31 by omega), nI_clamp (show s < 2 ^ 31 by omega), cnd_f (P := 0 ≤ r ∧ r ≤ 9) (fun q => by first | exact absurd q.1 (Int32.not_le.mpr c_25) | exact c_31 q.2)], by simp only [cnd_t (P := hM σ (nI m)) (b_5.t c_8), cnd_t (P := hS σ (nI s)) (b_16.t c_19), nI_clamp (show m < 2 ^ 31 by omega), nI_clamp (show s < 2 ^ 31 by omega), cnd_f (P := 0 ≤ r ∧ r ≤ 9) (fun q => by first | exact absurd q.1 (Int32.not_le.mpr c_25) | exact c_31 q.2)]⟩
      · refine tq_iload_n 3 (dget dX7_reading 14 rfl) rfl rfl ?_
        refine tq_bipush (v := 9) (dget dX7_reading 15 rfl) rfl ?_
        refine tq_icmp_le (tgt := 37) (dget dX7_reading 16 rfl) (by decide) (fun c_31 => ?_) (fun c_31 => ?_)
        · refine tq_aload_n 0 (dget dX7_reading 19 rfl) rfl rfl ?_
          refine tq_getR (dget dX7_reading 20 rfl) fX7_28 rfl rfl ?_
          refine tq_getI (dget dX7_reading 21 rfl) fX7_85 rfl rfl ?_
          refine tq_bipush (v := 8) (dget dX7_reading 22 rfl) rfl ?_
          refine tq_icmp_lt (tgt := 52) (dget dX7_reading 23 rfl) (by decide) (fun c_46 => ?_) (fun c_46 => ?_)
          · rw [hR.1] at c_46
            have g_46 : R < 8 := klt (b := 8) (by have := hR.2.1; omega) (by decide) c_46
            refine tq_aload_n 0 (dget dX7_reading 26 rfl) rfl rfl ?_
            refine tq_getR (dget dX7_reading 27 rfl) fX7_28 rfl rfl ?_
            refine tq_iload_n 1 (dget dX7_reading 28 rfl) rfl rfl ?_
            refine tq_iload_n 2 (dget dX7_reading 29 rfl) rfl rfl ?_
            refine tq_iload_n 3 (dget dX7_reading 30 rfl) rfl rfl ?_
            refine tq_iload 4 (dget dX7_reading 31 rfl) rfl ?_
            refine mq_Vi (As := [.int (nI m), .int (nI s), .int r, .int t]) (rest := []) (dget dX7_reading 32 rfl) lX7_189 miX3_add (c_Radd σ R (nI m) (nI s) r t hR.1 g_46 d (by omega)) rfl rfl rfl rfl (Nat.le_of_ble_eq_true rfl) (Nat.le_of_ble_eq_true rfl) (fun r_61 σ_61 h_61 => ?_)
            obtain ⟨a_61, e_61⟩ := h_61
            obtain rfl := a_61.symm
            obtain rfl := e_61.symm
            exact tq_iret rfl (dget dX7_reading 33 rfl) ⟨_, rfl, by simp only [cnd_t (P := hM σ (nI m)) (b_5.t c_8), cnd_t (P := hS σ (nI s)) (b_16.t c_19), nI_clamp (show m < 2 ^ 31 by omega), nI_clamp (show s < 2 ^ 31 by omega), cnd_t (P := 0 ≤ r ∧ r ≤ 9) ⟨Int32.not_lt.mp c_25, c_31⟩, cnd_t (P := R < 8) g_46], by simp only [cnd_t (P := hM σ (nI m)) (b_5.t c_8), cnd_t (P := hS σ (nI s)) (b_16.t c_19), nI_clamp (show m < 2 ^ 31 by omega), nI_clamp (show s < 2 ^ 31 by omega), cnd_t (P := 0 ≤ r ∧ r ≤ 9) ⟨Int32.not_lt.mp c_25, c_31⟩, cnd_t (P := R < 8) g_46]⟩
          · rw [hR.1] at c_46
            have g_46 : ¬ R < 8 := Nat.not_lt.mpr (knlt (b := 8) (by have := hR.2.1; omega) (by decide) c_46)
            refine tq_bipush (v := (-4)) (dget dX7_reading 24 rfl) rfl ?_
            exact tq_iret rfl (dget dX7_reading 25 rfl) ⟨_, rfl, by simp only [cnd_t (P := hM σ (nI m)) (b_5.t c_8), cnd_t (P := hS σ (nI s)) (b_16.t c_19), nI_clamp (show m < 2 ^ 31 by omega), nI_clamp (show s < 2 ^ 31 by omega), cnd_t (P := 0 ≤ r ∧ r ≤ 9) ⟨Int32.not_lt.mp c_25, c_31⟩, cnd_f (P := R < 8) g_46], by simp only [cnd_t (P := hM σ (nI m)) (b_5.t c_8), cnd_t (P := hS σ (nI s)) (b_16.t c_19), nI_clamp (show m < 2 ^ 31 by omega), nI_clamp (show s < 2 ^ 31 by omega), cnd_t (P := 0 ≤ r ∧ r ≤ 9) ⟨Int32.not_lt.mp c_25, c_31⟩, cnd_f (P := R < 8) g_46]⟩
        · refine tq_bipush (v := (-2)) (dget dX7_reading 17 rfl) rfl ?_
          exact tq_iret rfl (dget dX7_reading 18 rfl) ⟨_, rfl, by simp only [cnd_t (P := hM σ (nI m)) (b_5.t c_8), cnd_t (P := hS σ (nI s)) (b_16.t c_19), nI_clamp (show m < 2 ^ 31 by omega), nI_clamp (show s < 2 ^ 31 by omega), cnd_f (P := 0 ≤ r ∧ r ≤ 9) (fun q => by first | exact absurd q.1 (Int32.not_le.mpr c_25) | exact c_31 q.2)], by simp only [cnd_t (P := hM σ (nI m)) (b_5.t c_8), cnd_t (P := hS σ (nI s)) (b_16.t c_19), nI_clamp (show m < 2 ^ 31 by omega), nI_clamp (show s < 2 ^ 31 by omega), cnd_f (P := 0 ≤ r ∧ r ≤ 9) (fun q => by first | exact absurd q.1 (Int32.not_le.mpr c_25) | exact c_31 q.2)]⟩
    · refine tq_iconst (v := (-1)) (dget dX7_reading 10 rfl) rfl ?_
      exact tq_iret rfl (dget dX7_reading 11 rfl) ⟨_, rfl, by simp only [cnd_t (P := hM σ x) (b_5.t c_8), cnd_f (P := hS σ y) (b_16.f c_19)], by simp only [cnd_t (P := hM σ x) (b_5.t c_8), cnd_f (P := hS σ y) (b_16.f c_19)]⟩
set_option maxHeartbeats 4000000 in
set_option maxRecDepth 20000 in
theorem c_back (σ : Mem) (S M R : Nat) (rs : Nat → Nat) (hV : VA σ S M) (hR : RD σ R rs) (x : Int32) (d : Nat) (hd : 0 ≤ d) : PMet d mX7_back [.ref 0, .int x] σ (Pi (fun r σ2 => r = cnd (0 ≤ x ∧ x ≤ nI R) (nI (R - cl x)) (-2) ∧ σ2 = cnd (0 ≤ x ∧ x ≤ nI R) (up σ 21 4 (nI (R - cl x))) σ)) := by
  refine PMet.start (ls0 := [(0, .ref 0), (1, .int x)]) miX7_back.1 (Nat.le_of_ble_eq_true rfl) rfl ?_
  have hR8 := hR.2.1
  refine tq_iload_n 1 (dget dX7_back 0 rfl) rfl rfl ?_
  refine tq_if_lt (tgt := 15) (dget dX7_back 1 rfl) (by decide) (fun c_1 => ?_) (fun c_1 => ?_)
  · refine tq_bipush (v := (-2)) (dget dX7_back 7 rfl) rfl ?_
    exact tq_iret rfl (dget dX7_back 8 rfl) ⟨_, rfl, by simp only [cnd_f (P := 0 ≤ x ∧ x ≤ nI R) (fun q => by first | exact absurd q.1 (Int32.not_le.mpr c_1) | exact absurd (by rw [hR.1]; exact q.2) c_12)], by simp only [cnd_f (P := 0 ≤ x ∧ x ≤ nI R) (fun q => by first | exact absurd q.1 (Int32.not_le.mpr c_1) | exact absurd (by rw [hR.1]; exact q.2) c_12)]⟩
  · refine tq_iload_n 1 (dget dX7_back 2 rfl) rfl rfl ?_
    refine tq_aload_n 0 (dget dX7_back 3 rfl) rfl rfl ?_
    refine tq_getR (dget dX7_back 4 rfl) fX7_28 rfl rfl ?_
    refine tq_getI (dget dX7_back 5 rfl) fX7_85 rfl rfl ?_
    refine tq_icmp_le (tgt := 18) (dget dX7_back 6 rfl) (by decide) (fun c_12 => ?_) (fun c_12 => ?_)
    · obtain ⟨k, e_k, hk⟩ := kC_n2 (C := R) (by omega) (Int32.not_lt.mp c_1) (by rw [← hR.1]; exact c_12)
      subst e_k
      refine tq_aload_n 0 (dget dX7_back 9 rfl) rfl rfl ?_
      refine tq_getR (dget dX7_back 10 rfl) fX7_28 rfl rfl ?_
      refine tq_dup (dget dX7_back 11 rfl) rfl ?_
      refine tq_getI (dget dX7_back 12 rfl) fX7_85 rfl rfl ?_
      refine tq_iload_n 1 (dget dX7_back 13 rfl) rfl rfl ?_
      refine tq_isub (dget dX7_back 14 rfl) ?_
      refine tq_eqi (y := (nI (R - k))) (by rw [hR.1]; exact nI_subN hk) ?_
      refine tq_putI (dget dX7_back 15 rfl) fX7_85 rfl rfl rfl rfl ?_
      refine tq_aload_n 0 (dget dX7_back 16 rfl) rfl rfl ?_
      refine tq_getR (dget dX7_back 17 rfl) fX7_28 rfl rfl ?_
      refine tq_getI (dget dX7_back 18 rfl) fX7_85 rfl rfl ?_
      refine tq_eqi (y := (nI (R - k))) up_s ?_
      exact tq_iret rfl (dget dX7_back 19 rfl) ⟨_, rfl, by simp only [cnd_t (P := 0 ≤ nI k ∧ nI k ≤ nI R) ⟨Int32.not_lt.mp c_1, by rw [← hR.1]; exact c_12⟩, nI_clamp (show k < 2 ^ 31 by omega)], by simp only [cnd_t (P := 0 ≤ nI k ∧ nI k ≤ nI R) ⟨Int32.not_lt.mp c_1, by rw [← hR.1]; exact c_12⟩, nI_clamp (show k < 2 ^ 31 by omega)]⟩
    · refine tq_bipush (v := (-2)) (dget dX7_back 7 rfl) rfl ?_
      exact tq_iret rfl (dget dX7_back 8 rfl) ⟨_, rfl, by simp only [cnd_f (P := 0 ≤ x ∧ x ≤ nI R) (fun q => by first | exact absurd q.1 (Int32.not_le.mpr c_1) | exact absurd (by rw [hR.1]; exact q.2) c_12)], by simp only [cnd_f (P := 0 ≤ x ∧ x ≤ nI R) (fun q => by first | exact absurd q.1 (Int32.not_le.mpr c_1) | exact absurd (by rw [hR.1]; exact q.2) c_12)]⟩
set_option maxHeartbeats 4000000 in
set_option maxRecDepth 20000 in
theorem c_learnt (σ : Mem) (S M R : Nat) (rs : Nat → Nat) (hV : VA σ S M) (hR : RD σ R rs) (x y z : Int32) (d : Nat) (hd : 4 ≤ d) : PMet d mX7_learnt [.ref 0, .int x, .int y, .int z] σ (Pi (fun v σ2 => v = cnd (hM σ x) (cnd (hS σ y) (cnd (z = 0) (lsR (fun j => soL σ R (cl x) (cl y) (nI j)) 10 0) (cnd (z = 1) (gsR (fun j => soL σ R (cl x) (cl y) (nI j)) 10) (-2))) (-1)) (-1) ∧ σ2 = σ)) := by
  obtain ⟨d, rfl⟩ : ∃ e, d = e + 1 := ⟨d - 1, by omega⟩
  refine PMet.start (ls0 := [(0, .ref 0), (1, .int x), (2, .int y), (3, .int z)]) miX7_learnt.1 (Nat.le_of_ble_eq_true rfl) rfl ?_
  refine tq_aload_n 0 (dget dX7_learnt 0 rfl) rfl rfl ?_
  refine tq_getR (dget dX7_learnt 1 rfl) fX7_12 rfl rfl ?_
  refine tq_iload_n 1 (dget dX7_learnt 2 rfl) rfl rfl ?_
  refine mq_Vi (As := [.int x]) (rest := []) (dget dX7_learnt 3 rfl) lX7_92 miX6_hasMaid (c_hasMaid σ x d (by omega)) rfl rfl rfl rfl (Nat.le_of_ble_eq_true rfl) (Nat.le_of_ble_eq_true rfl) (fun r_5 σ_5 h_5 => ?_)
  obtain ⟨b_5, e_5⟩ := h_5
  obtain rfl := e_5.symm
  refine tq_if_eq (tgt := 22) (dget dX7_learnt 4 rfl) (by decide) (fun c_8 => ?_) (fun c_8 => ?_)
  · refine tq_iconst (v := (-1)) (dget dX7_learnt 10 rfl) rfl ?_
    exact tq_iret rfl (dget dX7_learnt 11 rfl) ⟨_, rfl, by simp only [cnd_f (P := hM σ x) (b_5.f c_8)], rfl⟩
  · refine tq_aload_n 0 (dget dX7_learnt 5 rfl) rfl rfl ?_
    refine tq_getR (dget dX7_learnt 6 rfl) fX7_12 rfl rfl ?_
    refine tq_iload_n 2 (dget dX7_learnt 7 rfl) rfl rfl ?_
    refine mq_Vi (As := [.int y]) (rest := []) (dget dX7_learnt 8 rfl) lX7_95 miX6_hasSuitor (c_hasSuitor σ y d (by omega)) rfl rfl rfl rfl (Nat.le_of_ble_eq_true rfl) (Nat.le_of_ble_eq_true rfl) (fun r_16 σ_16 h_16 => ?_)
    obtain ⟨b_16, e_16⟩ := h_16
    obtain rfl := e_16.symm
    refine tq_if_ne (tgt := 24) (dget dX7_learnt 9 rfl) (by decide) (fun c_19 => ?_) (fun c_19 => ?_)
    · obtain ⟨m, e_m, hm, hm4⟩ := hM_n hV (b_5.t c_8)
      subst e_m
      obtain ⟨s, e_s, hs, hs6⟩ := hS_n hV (b_16.t c_19)
      subst e_s
      refine tq_iload_n 3 (dget dX7_learnt 12 rfl) rfl rfl ?_
      refine tq_if_eq (tgt := 36) (dget dX7_learnt 13 rfl) (by decide) (fun c_25 => ?_) (fun c_25 => ?_)
      · refine tq_iload_n 3 (dget dX7_learnt 19 rfl) rfl rfl ?_
        refine tq_if_ne (tgt := 56) (dget dX7_learnt 20 rfl) (by decide) (fun c_37 => ?_) (fun c_37 => ?_)
        · exact absurd c_25 c_37
        · refine tq_aload_n 0 (dget dX7_learnt 21 rfl) rfl rfl ?_
          refine tq_getR (dget dX7_learnt 22 rfl) fX7_28 rfl rfl ?_
          refine tq_aload_n 0 (dget dX7_learnt 23 rfl) rfl rfl ?_
          refine tq_getR (dget dX7_learnt 24 rfl) fX7_12 rfl rfl ?_
          refine tq_iload_n 1 (dget dX7_learnt 25 rfl) rfl rfl ?_
          refine tq_iload_n 2 (dget dX7_learnt 26 rfl) rfl rfl ?_
          refine mq_Vi (As := [.ref 1, .int (nI m), .int (nI s)]) (rest := []) (dget dX7_learnt 27 rfl) lX7_192 miX3_leastLiking (c_least σ R m hR.1 hR.2.1 hm4 s d (by omega)) rfl rfl rfl rfl (Nat.le_of_ble_eq_true rfl) (Nat.le_of_ble_eq_true rfl) (fun r_50 σ_50 h_50 => ?_)
          obtain ⟨a_50, e_50⟩ := h_50
          obtain rfl := e_50.symm
          rw [ll_eq a_50]
          refine tq_goto (tgt := 69) (dget dX7_learnt 28 rfl) (by decide) ?_
          exact tq_iret rfl (dget dX7_learnt 36 rfl) ⟨_, rfl, by simp only [cnd_t (P := hM σ (nI m)) (b_5.t c_8), cnd_t (P := hS σ (nI s)) (b_16.t c_19), nI_clamp (show m < 2 ^ 31 by omega), nI_clamp (show s < 2 ^ 31 by omega), cnd_t c_25], rfl⟩
      · refine tq_iload_n 3 (dget dX7_learnt 14 rfl) rfl rfl ?_
        refine tq_iconst (v := 1) (dget dX7_learnt 15 rfl) rfl ?_
        refine tq_icmp_eq (tgt := 36) (dget dX7_learnt 16 rfl) (by decide) (fun c_30 => ?_) (fun c_30 => ?_)
        · refine tq_iload_n 3 (dget dX7_learnt 19 rfl) rfl rfl ?_
          refine tq_if_ne (tgt := 56) (dget dX7_learnt 20 rfl) (by decide) (fun c_37 => ?_) (fun c_37 => ?_)
          · refine tq_aload_n 0 (dget dX7_learnt 29 rfl) rfl rfl ?_
            refine tq_getR (dget dX7_learnt 30 rfl) fX7_28 rfl rfl ?_
            refine tq_aload_n 0 (dget dX7_learnt 31 rfl) rfl rfl ?_
            refine tq_getR (dget dX7_learnt 32 rfl) fX7_12 rfl rfl ?_
            refine tq_iload_n 1 (dget dX7_learnt 33 rfl) rfl rfl ?_
            refine tq_iload_n 2 (dget dX7_learnt 34 rfl) rfl rfl ?_
            refine mq_Vi (As := [.ref 1, .int (nI m), .int (nI s)]) (rest := []) (dget dX7_learnt 35 rfl) lX7_195 miX3_greatestLiking (c_greatest σ R m hR.1 hR.2.1 hm4 s d (by omega)) rfl rfl rfl rfl (Nat.le_of_ble_eq_true rfl) (Nat.le_of_ble_eq_true rfl) (fun r_66 σ_66 h_66 => ?_)
            obtain ⟨a_66, e_66⟩ := h_66
            obtain rfl := e_66.symm
            rw [gl_eq a_66]
            exact tq_iret rfl (dget dX7_learnt 36 rfl) ⟨_, rfl, by simp only [cnd_t (P := hM σ (nI m)) (b_5.t c_8), cnd_t (P := hS σ (nI s)) (b_16.t c_19), nI_clamp (show m < 2 ^ 31 by omega), nI_clamp (show s < 2 ^ 31 by omega), cnd_f c_25, cnd_t c_30], rfl⟩
          · exact absurd c_37 c_25
        · refine tq_bipush (v := (-2)) (dget dX7_learnt 17 rfl) rfl ?_
          exact tq_iret rfl (dget dX7_learnt 18 rfl) ⟨_, rfl, by simp only [cnd_t (P := hM σ (nI m)) (b_5.t c_8), cnd_t (P := hS σ (nI s)) (b_16.t c_19), nI_clamp (show m < 2 ^ 31 by omega), nI_clamp (show s < 2 ^ 31 by omega), cnd_f c_25, cnd_f c_30], rfl⟩
    · refine tq_iconst (v := (-1)) (dget dX7_learnt 10 rfl) rfl ?_
      exact tq_iret rfl (dget dX7_learnt 11 rfl) ⟨_, rfl, by simp only [cnd_t (P := hM σ x) (b_5.t c_8), cnd_f (P := hS σ y) (b_16.f c_19)], rfl⟩
set_option maxHeartbeats 4000000 in
set_option maxRecDepth 20000 in
theorem c_kinds (σ : Mem) (S M R : Nat) (rs : Nat → Nat) (hV : VA σ S M) (hR : RD σ R rs) (x : Int32) (d : Nat) (hd : 4 ≤ d) : PMet d mX7_kinds [.ref 0, .int x] σ (Pi (fun v σ2 => v = cnd (hM σ x) (ksF (fun j => soK σ R (cl x) rs (nI j)) 3) (-1) ∧ σ2 = σ)) := by
  obtain ⟨d, rfl⟩ : ∃ e, d = e + 1 := ⟨d - 1, by omega⟩
  refine PMet.start (ls0 := [(0, .ref 0), (1, .int x)]) miX7_kinds.1 (Nat.le_of_ble_eq_true rfl) rfl ?_
  refine tq_aload_n 0 (dget dX7_kinds 0 rfl) rfl rfl ?_
  refine tq_getR (dget dX7_kinds 1 rfl) fX7_12 rfl rfl ?_
  refine tq_iload_n 1 (dget dX7_kinds 2 rfl) rfl rfl ?_
  refine mq_Vi (As := [.int x]) (rest := []) (dget dX7_kinds 3 rfl) lX7_92 miX6_hasMaid (c_hasMaid σ x d (by omega)) rfl rfl rfl rfl (Nat.le_of_ble_eq_true rfl) (Nat.le_of_ble_eq_true rfl) (fun r_5 σ_5 h_5 => ?_)
  obtain ⟨b_5, e_5⟩ := h_5
  obtain rfl := e_5.symm
  refine tq_if_ne (tgt := 13) (dget dX7_kinds 4 rfl) (by decide) (fun c_8 => ?_) (fun c_8 => ?_)
  · obtain ⟨m, e_m, hm, hm4⟩ := hM_n hV (b_5.t c_8)
    subst e_m
    refine tq_aload_n 0 (dget dX7_kinds 7 rfl) rfl rfl ?_
    refine tq_getR (dget dX7_kinds 8 rfl) fX7_28 rfl rfl ?_
    refine tq_aload_n 0 (dget dX7_kinds 9 rfl) rfl rfl ?_
    refine tq_getR (dget dX7_kinds 10 rfl) fX7_12 rfl rfl ?_
    refine tq_iload_n 1 (dget dX7_kinds 11 rfl) rfl rfl ?_
    refine mq_Vi (As := [.ref 1, .int (nI m)]) (rest := []) (dget dX7_kinds 12 rfl) lX7_198 miX3_kindsOf (c_kindsOf σ R m hR.1 hR.2.1 hm4 rs hR.2.2 d (by omega)) rfl rfl rfl rfl (Nat.le_of_ble_eq_true rfl) (Nat.le_of_ble_eq_true rfl) (fun r_22 σ_22 h_22 => ?_)
    obtain ⟨a_22, e_22⟩ := h_22
    obtain rfl := a_22.symm
    obtain rfl := e_22.symm
    exact tq_iret rfl (dget dX7_kinds 13 rfl) ⟨_, rfl, by simp only [cnd_t (P := hM σ (nI m)) (b_5.t c_8), nI_clamp (show m < 2 ^ 31 by omega)], rfl⟩
  · refine tq_iconst (v := (-1)) (dget dX7_kinds 5 rfl) rfl ?_
    exact tq_iret rfl (dget dX7_kinds 6 rfl) ⟨_, rfl, by simp only [cnd_f (P := hM σ x) (b_5.f c_8)], rfl⟩
def mkF (σ : Mem) (b : Int32) : Mem := up σ 0 6 (31 * σ 0 6 + b)

set_option maxHeartbeats 4000000 in
set_option maxRecDepth 20000 in
theorem c_mark (σ : Mem) (b : Int32) (d : Nat) (hd : 0 ≤ d) : PMet d mX7_mark [.ref 0, .int b] σ (Pv (fun σ2 => σ2 = mkF σ b)) := by
  refine PMet.start (ls0 := [(0, .ref 0), (1, .int b)]) miX7_mark.1 (Nat.le_of_ble_eq_true rfl) rfl ?_
  refine tq_aload_n 0 (dget dX7_mark 0 rfl) rfl rfl ?_
  refine tq_bipush (v := 31) (dget dX7_mark 1 rfl) rfl ?_
  refine tq_aload_n 0 (dget dX7_mark 2 rfl) rfl rfl ?_
  refine tq_getI (dget dX7_mark 3 rfl) fX7_258 rfl rfl ?_
  refine tq_imul (dget dX7_mark 4 rfl) ?_
  refine tq_iload_n 1 (dget dX7_mark 5 rfl) rfl rfl ?_
  refine tq_iadd (dget dX7_mark 6 rfl) ?_
  refine tq_putI (dget dX7_mark 7 rfl) fX7_258 rfl rfl rfl rfl ?_
  exact tq_vret rfl (dget dX7_mark 8 rfl) ⟨rfl, rfl⟩
set_option maxHeartbeats 4000000 in
set_option maxRecDepth 20000 in
theorem c_tellAsMaid (σ : Mem) (x : Int32) (d : Nat) (hd : 1 ≤ d) : PMet d mX7_tellAsMaid [.ref 0, .int x] σ (Pi (fun v σ2 => v = x ∧ σ2 = mkF σ 1)) := by
  obtain ⟨d, rfl⟩ : ∃ e, d = e + 1 := ⟨d - 1, by omega⟩
  refine PMet.start (ls0 := [(0, .ref 0), (1, .int x)]) miX7_tellAsMaid.1 (Nat.le_of_ble_eq_true rfl) rfl ?_
  refine tq_aload_n 0 (dget dX7_tellAsMaid 0 rfl) rfl rfl ?_
  refine tq_iconst (v := 1) (dget dX7_tellAsMaid 1 rfl) rfl ?_
  refine mq_Vv (As := [.int 1]) (rest := []) (dget dX7_tellAsMaid 2 rfl) lX7_268 miX7_mark (c_mark σ 1 d (by omega)) rfl rfl rfl rfl (Nat.le_of_ble_eq_true rfl) (Nat.le_of_ble_eq_true rfl) (fun σ_2 h_2 => ?_)
  obtain rfl := Eq.symm h_2
  refine tq_iload_n 1 (dget dX7_tellAsMaid 3 rfl) rfl rfl ?_
  exact tq_iret rfl (dget dX7_tellAsMaid 4 rfl) ⟨_, rfl, rfl, rfl⟩
set_option maxHeartbeats 4000000 in
set_option maxRecDepth 20000 in
theorem c_tellAsProud (σ : Mem) (x : Int32) (d : Nat) (hd : 2 ≤ d) : PMet d mX7_tellAsProud [.ref 0, .int x] σ (Pi (fun v σ2 => v = x + 100 ∧ σ2 = mkF (mkF σ 2) 1)) := by
  obtain ⟨d, rfl⟩ : ∃ e, d = e + 1 := ⟨d - 1, by omega⟩
  refine PMet.start (ls0 := [(0, .ref 0), (1, .int x)]) miX7_tellAsProud.1 (Nat.le_of_ble_eq_true rfl) rfl ?_
  refine tq_aload_n 0 (dget dX7_tellAsProud 0 rfl) rfl rfl ?_
  refine tq_iconst (v := 2) (dget dX7_tellAsProud 1 rfl) rfl ?_
  refine mq_Vv (As := [.int 2]) (rest := []) (dget dX7_tellAsProud 2 rfl) lX7_268 miX7_mark (c_mark σ 2 d (by omega)) rfl rfl rfl rfl (Nat.le_of_ble_eq_true rfl) (Nat.le_of_ble_eq_true rfl) (fun σ_2 h_2 => ?_)
  obtain rfl := Eq.symm h_2
  refine tq_aload_n 0 (dget dX7_tellAsProud 3 rfl) rfl rfl ?_
  refine tq_iload_n 1 (dget dX7_tellAsProud 4 rfl) rfl rfl ?_
  refine mq_Vi (As := [.int x]) (rest := []) (dget dX7_tellAsProud 5 rfl) lX7_248 miX7_tellAsMaid (c_tellAsMaid (mkF σ 2) x d (by omega)) rfl rfl rfl rfl (Nat.le_of_ble_eq_true rfl) (Nat.le_of_ble_eq_true rfl) (fun r_7 σ_7 h_7 => ?_)
  obtain ⟨a_7, e_7⟩ := h_7
  rw [a_7]
  obtain rfl := e_7.symm
  refine tq_bipush (v := 100) (dget dX7_tellAsProud 6 rfl) rfl ?_
  refine tq_iadd (dget dX7_tellAsProud 7 rfl) ?_
  exact tq_iret rfl (dget dX7_tellAsProud 8 rfl) ⟨_, rfl, rfl, rfl⟩
set_option maxHeartbeats 4000000 in
set_option maxRecDepth 20000 in
theorem c_tellAsHeiress (σ : Mem) (x : Int32) (d : Nat) (hd : 3 ≤ d) : PMet d mX7_tellAsHeiress [.ref 0, .int x] σ (Pi (fun v σ2 => v = x + 100 + x ∧ σ2 = mkF (mkF (mkF (mkF σ 3) 2) 1) 1)) := by
  obtain ⟨d, rfl⟩ : ∃ e, d = e + 1 := ⟨d - 1, by omega⟩
  refine PMet.start (ls0 := [(0, .ref 0), (1, .int x)]) miX7_tellAsHeiress.1 (Nat.le_of_ble_eq_true rfl) rfl ?_
  refine tq_aload_n 0 (dget dX7_tellAsHeiress 0 rfl) rfl rfl ?_
  refine tq_iconst (v := 3) (dget dX7_tellAsHeiress 1 rfl) rfl ?_
  refine mq_Vv (As := [.int 3]) (rest := []) (dget dX7_tellAsHeiress 2 rfl) lX7_268 miX7_mark (c_mark σ 3 d (by omega)) rfl rfl rfl rfl (Nat.le_of_ble_eq_true rfl) (Nat.le_of_ble_eq_true rfl) (fun σ_2 h_2 => ?_)
  obtain rfl := Eq.symm h_2
  refine tq_aload_n 0 (dget dX7_tellAsHeiress 3 rfl) rfl rfl ?_
  refine tq_iload_n 1 (dget dX7_tellAsHeiress 4 rfl) rfl rfl ?_
  refine mq_Vi (As := [.int x]) (rest := []) (dget dX7_tellAsHeiress 5 rfl) lX7_242 miX7_tellAsProud (c_tellAsProud (mkF σ 3) x d (by omega)) rfl rfl rfl rfl (Nat.le_of_ble_eq_true rfl) (Nat.le_of_ble_eq_true rfl) (fun r_7 σ_7 h_7 => ?_)
  obtain ⟨a_7, e_7⟩ := h_7
  rw [a_7]
  obtain rfl := e_7.symm
  refine tq_istore_n (ls2 := [(2, .int (x + 100)), (0, .ref 0), (1, .int x)]) (dget dX7_tellAsHeiress 6 rfl) rfl (by decide) rfl ?_
  refine tq_iload_n 0 (dget dX7_tellAsHeiress 7 rfl) rfl rfl ?_
  refine tq_aload_n 1 (dget dX7_tellAsHeiress 8 rfl) rfl rfl ?_
  refine tq_iload_n 2 (dget dX7_tellAsHeiress 9 rfl) rfl rfl ?_
  refine mq_Vi (As := [.int x]) (rest := [.int (x + 100)]) (dget dX7_tellAsHeiress 10 rfl) lX7_248 miX7_tellAsMaid (c_tellAsMaid (mkF (mkF (mkF σ 3) 2) 1) x d (by omega)) rfl rfl rfl rfl (Nat.le_of_ble_eq_true rfl) (Nat.le_of_ble_eq_true rfl) (fun r_14 σ_14 h_14 => ?_)
  obtain ⟨a_14, e_14⟩ := h_14
  rw [a_14]
  obtain rfl := e_14.symm
  refine tq_iadd (dget dX7_tellAsHeiress 11 rfl) ?_
  exact tq_iret rfl (dget dX7_tellAsHeiress 12 rfl) ⟨_, rfl, rfl, rfl⟩
set_option maxHeartbeats 4000000 in
set_option maxRecDepth 20000 in
theorem c_greetAsAnyone (σ : Mem) (x : Int32) (d : Nat) (hd : 1 ≤ d) : PMet d mX7_greetAsAnyone [.ref 0, .int x] σ (Pi (fun v σ2 => v = x ∧ σ2 = mkF σ 4)) := by
  obtain ⟨d, rfl⟩ : ∃ e, d = e + 1 := ⟨d - 1, by omega⟩
  refine PMet.start (ls0 := [(0, .ref 0), (1, .int x)]) miX7_greetAsAnyone.1 (Nat.le_of_ble_eq_true rfl) rfl ?_
  refine tq_aload_n 0 (dget dX7_greetAsAnyone 0 rfl) rfl rfl ?_
  refine tq_iconst (v := 4) (dget dX7_greetAsAnyone 1 rfl) rfl ?_
  refine mq_Vv (As := [.int 4]) (rest := []) (dget dX7_greetAsAnyone 2 rfl) lX7_268 miX7_mark (c_mark σ 4 d (by omega)) rfl rfl rfl rfl (Nat.le_of_ble_eq_true rfl) (Nat.le_of_ble_eq_true rfl) (fun σ_2 h_2 => ?_)
  obtain rfl := Eq.symm h_2
  refine tq_iload_n 1 (dget dX7_greetAsAnyone 3 rfl) rfl rfl ?_
  exact tq_iret rfl (dget dX7_greetAsAnyone 4 rfl) ⟨_, rfl, rfl, rfl⟩
set_option maxHeartbeats 4000000 in
set_option maxRecDepth 20000 in
theorem c_greetAsHeiress (σ : Mem) (d : Nat) (hd : 1 ≤ d) : PMet d mX7_greetAsHeiress [.ref 0] σ (Pi (fun v σ2 => v = 70 ∧ σ2 = mkF σ 5)) := by
  obtain ⟨d, rfl⟩ : ∃ e, d = e + 1 := ⟨d - 1, by omega⟩
  refine PMet.start (ls0 := [(0, .ref 0)]) miX7_greetAsHeiress.1 (Nat.le_of_ble_eq_true rfl) rfl ?_
  refine tq_aload_n 0 (dget dX7_greetAsHeiress 0 rfl) rfl rfl ?_
  refine tq_iconst (v := 5) (dget dX7_greetAsHeiress 1 rfl) rfl ?_
  refine mq_Vv (As := [.int 5]) (rest := []) (dget dX7_greetAsHeiress 2 rfl) lX7_268 miX7_mark (c_mark σ 5 d (by omega)) rfl rfl rfl rfl (Nat.le_of_ble_eq_true rfl) (Nat.le_of_ble_eq_true rfl) (fun σ_2 h_2 => ?_)
  obtain rfl := Eq.symm h_2
  refine tq_bipush (v := 70) (dget dX7_greetAsHeiress 3 rfl) rfl ?_
  exact tq_iret rfl (dget dX7_greetAsHeiress 4 rfl) ⟨_, rfl, rfl, rfl⟩
set_option maxHeartbeats 4000000 in
set_option maxRecDepth 20000 in
theorem c_tell (σ : Mem) (S M : Nat) (hV : VA σ S M) (x : Int32) (d : Nat) (hd : 4 ≤ d) : PMet d mX7_tell [.ref 0, .int x] σ (Pi (fun v σ2 => v = cnd (hM σ x) (cnd (σ 2 (cl x) = 1) (x + 100) (cnd (σ 2 (cl x) = 2) (x + 100 + x) x)) (-1) ∧ σ2 = cnd (hM σ x) (cnd (σ 2 (cl x) = 1) (mkF (mkF σ 2) 1) (cnd (σ 2 (cl x) = 2) (mkF (mkF (mkF (mkF σ 3) 2) 1) 1) (mkF σ 1))) σ)) := by
  obtain ⟨d, rfl⟩ : ∃ e, d = e + 1 := ⟨d - 1, by omega⟩
  refine PMet.start (ls0 := [(0, .ref 0), (1, .int x)]) miX7_tell.1 (Nat.le_of_ble_eq_true rfl) rfl ?_
  refine tq_aload_n 0 (dget dX7_tell 0 rfl) rfl rfl ?_
  refine tq_getR (dget dX7_tell 1 rfl) fX7_12 rfl rfl ?_
  refine tq_iload_n 1 (dget dX7_tell 2 rfl) rfl rfl ?_
  refine mq_Vi (As := [.int x]) (rest := []) (dget dX7_tell 3 rfl) lX7_92 miX6_hasMaid (c_hasMaid σ x d (by omega)) rfl rfl rfl rfl (Nat.le_of_ble_eq_true rfl) (Nat.le_of_ble_eq_true rfl) (fun r_5 σ_5 h_5 => ?_)
  obtain ⟨b_5, e_5⟩ := h_5
  obtain rfl := e_5.symm
  refine tq_if_ne (tgt := 13) (dget dX7_tell 4 rfl) (by decide) (fun c_8 => ?_) (fun c_8 => ?_)
  · obtain ⟨m, e_m, hm, hm4⟩ := hM_n hV (b_5.t c_8)
    subst e_m
    refine tq_aload_n 0 (dget dX7_tell 7 rfl) rfl rfl ?_
    refine tq_getR (dget dX7_tell 8 rfl) fX7_12 rfl rfl ?_
    refine tq_getR (dget dX7_tell 9 rfl) fX7_121 rfl rfl ?_
    refine tq_iload_n 1 (dget dX7_tell 10 rfl) rfl rfl ?_
    refine tq_ialdN m (dget dX7_tell 11 rfl) rfl (by decide) rfl (by omega) ?_
    by_cases s_22_1 : (σ 2 m) = 1
    · refine tq_lookup (tgt := 48) (off := 26) (dget dX7_tell 12 rfl) (by decide) (by rw [s_22_1]; decide) (by decide) ?_
      refine tq_aload_n 0 (dget dX7_tell 13 rfl) rfl rfl ?_
      refine tq_iload_n 1 (dget dX7_tell 14 rfl) rfl rfl ?_
      refine mq_Vi (As := [.int (nI m)]) (rest := []) (dget dX7_tell 15 rfl) lX7_242 miX7_tellAsProud (c_tellAsProud σ (nI m) d (by omega)) rfl rfl rfl rfl (Nat.le_of_ble_eq_true rfl) (Nat.le_of_ble_eq_true rfl) (fun r_50 σ_50 h_50 => ?_)
      obtain ⟨a_50, e_50⟩ := h_50
      rw [a_50]
      obtain rfl := e_50.symm
      exact tq_iret rfl (dget dX7_tell 16 rfl) ⟨_, rfl, by simp only [cnd_t (P := hM σ (nI m)) (b_5.t c_8), nI_clamp (show m < 2 ^ 31 by omega), cnd_t s_22_1], by simp only [cnd_t (P := hM σ (nI m)) (b_5.t c_8), nI_clamp (show m < 2 ^ 31 by omega), cnd_t s_22_1]⟩
    by_cases s_22_2 : (σ 2 m) = 2
    · refine tq_lookup (tgt := 54) (off := 32) (dget dX7_tell 12 rfl) (by decide) (by rw [s_22_2]; decide) (by decide) ?_
      refine tq_aload_n 0 (dget dX7_tell 17 rfl) rfl rfl ?_
      refine tq_iload_n 1 (dget dX7_tell 18 rfl) rfl rfl ?_
      refine mq_Vi (As := [.int (nI m)]) (rest := []) (dget dX7_tell 19 rfl) lX7_245 miX7_tellAsHeiress (c_tellAsHeiress σ (nI m) d (by omega)) rfl rfl rfl rfl (Nat.le_of_ble_eq_true rfl) (Nat.le_of_ble_eq_true rfl) (fun r_56 σ_56 h_56 => ?_)
      obtain ⟨a_56, e_56⟩ := h_56
      rw [a_56]
      obtain rfl := e_56.symm
      exact tq_iret rfl (dget dX7_tell 20 rfl) ⟨_, rfl, by simp only [cnd_t (P := hM σ (nI m)) (b_5.t c_8), nI_clamp (show m < 2 ^ 31 by omega), cnd_f s_22_1, cnd_t s_22_2], by simp only [cnd_t (P := hM σ (nI m)) (b_5.t c_8), nI_clamp (show m < 2 ^ 31 by omega), cnd_f s_22_1, cnd_t s_22_2]⟩
    refine tq_lookup (tgt := 60) (off := 38) (dget dX7_tell 12 rfl) (by decide) ((lv_osw s_22_1 (by decide)).trans ((lv_osw s_22_2 (by decide)).trans (rfl))) (by decide) ?_
    refine tq_aload_n 0 (dget dX7_tell 21 rfl) rfl rfl ?_
    refine tq_iload_n 1 (dget dX7_tell 22 rfl) rfl rfl ?_
    refine mq_Vi (As := [.int (nI m)]) (rest := []) (dget dX7_tell 23 rfl) lX7_248 miX7_tellAsMaid (c_tellAsMaid σ (nI m) d (by omega)) rfl rfl rfl rfl (Nat.le_of_ble_eq_true rfl) (Nat.le_of_ble_eq_true rfl) (fun r_62 σ_62 h_62 => ?_)
    obtain ⟨a_62, e_62⟩ := h_62
    rw [a_62]
    obtain rfl := e_62.symm
    exact tq_iret rfl (dget dX7_tell 24 rfl) ⟨_, rfl, by simp only [cnd_t (P := hM σ (nI m)) (b_5.t c_8), nI_clamp (show m < 2 ^ 31 by omega), cnd_f s_22_1, cnd_f s_22_2], by simp only [cnd_t (P := hM σ (nI m)) (b_5.t c_8), nI_clamp (show m < 2 ^ 31 by omega), cnd_f s_22_1, cnd_f s_22_2]⟩
  · refine tq_iconst (v := (-1)) (dget dX7_tell 5 rfl) rfl ?_
    exact tq_iret rfl (dget dX7_tell 6 rfl) ⟨_, rfl, by simp only [cnd_f (P := hM σ x) (b_5.f c_8)], by simp only [cnd_f (P := hM σ x) (b_5.f c_8)]⟩
set_option maxHeartbeats 4000000 in
set_option maxRecDepth 20000 in
theorem c_greet (σ : Mem) (S M : Nat) (hV : VA σ S M) (x : Int32) (d : Nat) (hd : 2 ≤ d) : PMet d mX7_greet [.ref 0, .int x] σ (Pi (fun v σ2 => v = cnd (hM σ x) (cnd (σ 2 (cl x) = 2) 70 x) (-1) ∧ σ2 = cnd (hM σ x) (cnd (σ 2 (cl x) = 2) (mkF σ 5) (mkF σ 4)) σ)) := by
  obtain ⟨d, rfl⟩ : ∃ e, d = e + 1 := ⟨d - 1, by omega⟩
  refine PMet.start (ls0 := [(0, .ref 0), (1, .int x)]) miX7_greet.1 (Nat.le_of_ble_eq_true rfl) rfl ?_
  refine tq_aload_n 0 (dget dX7_greet 0 rfl) rfl rfl ?_
  refine tq_getR (dget dX7_greet 1 rfl) fX7_12 rfl rfl ?_
  refine tq_iload_n 1 (dget dX7_greet 2 rfl) rfl rfl ?_
  refine mq_Vi (As := [.int x]) (rest := []) (dget dX7_greet 3 rfl) lX7_92 miX6_hasMaid (c_hasMaid σ x d (by omega)) rfl rfl rfl rfl (Nat.le_of_ble_eq_true rfl) (Nat.le_of_ble_eq_true rfl) (fun r_5 σ_5 h_5 => ?_)
  obtain ⟨b_5, e_5⟩ := h_5
  obtain rfl := e_5.symm
  refine tq_if_ne (tgt := 13) (dget dX7_greet 4 rfl) (by decide) (fun c_8 => ?_) (fun c_8 => ?_)
  · obtain ⟨m, e_m, hm, hm4⟩ := hM_n hV (b_5.t c_8)
    subst e_m
    refine tq_aload_n 0 (dget dX7_greet 7 rfl) rfl rfl ?_
    refine tq_getR (dget dX7_greet 8 rfl) fX7_12 rfl rfl ?_
    refine tq_getR (dget dX7_greet 9 rfl) fX7_121 rfl rfl ?_
    refine tq_iload_n 1 (dget dX7_greet 10 rfl) rfl rfl ?_
    refine tq_ialdN m (dget dX7_greet 11 rfl) rfl (by decide) rfl (by omega) ?_
    refine tq_iconst (v := 2) (dget dX7_greet 12 rfl) rfl ?_
    refine tq_icmp_ne (tgt := 33) (dget dX7_greet 13 rfl) (by decide) (fun c_23 => ?_) (fun c_23 => ?_)
    · refine tq_aload_n 0 (dget dX7_greet 17 rfl) rfl rfl ?_
      refine tq_iload_n 1 (dget dX7_greet 18 rfl) rfl rfl ?_
      refine mq_Vi (As := [.int (nI m)]) (rest := []) (dget dX7_greet 19 rfl) lX7_255 miX7_greetAsAnyone (c_greetAsAnyone σ (nI m) d (by omega)) rfl rfl rfl rfl (Nat.le_of_ble_eq_true rfl) (Nat.le_of_ble_eq_true rfl) (fun r_35 σ_35 h_35 => ?_)
      obtain ⟨a_35, e_35⟩ := h_35
      rw [a_35]
      obtain rfl := e_35.symm
      exact tq_iret rfl (dget dX7_greet 20 rfl) ⟨_, rfl, by simp only [cnd_t (P := hM σ (nI m)) (b_5.t c_8), nI_clamp (show m < 2 ^ 31 by omega), cnd_f c_23], by simp only [cnd_t (P := hM σ (nI m)) (b_5.t c_8), nI_clamp (show m < 2 ^ 31 by omega), cnd_f c_23]⟩
    · refine tq_aload_n 0 (dget dX7_greet 14 rfl) rfl rfl ?_
      refine mq_Vi (As := []) (rest := []) (dget dX7_greet 15 rfl) lX7_251 miX7_greetAsHeiress (c_greetAsHeiress σ  d (by omega)) rfl rfl rfl rfl (Nat.le_of_ble_eq_true rfl) (Nat.le_of_ble_eq_true rfl) (fun r_27 σ_27 h_27 => ?_)
      obtain ⟨a_27, e_27⟩ := h_27
      rw [a_27]
      obtain rfl := e_27.symm
      refine tq_goto (tgt := 38) (dget dX7_greet 16 rfl) (by decide) ?_
      exact tq_iret rfl (dget dX7_greet 20 rfl) ⟨_, rfl, by simp only [cnd_t (P := hM σ (nI m)) (b_5.t c_8), nI_clamp (show m < 2 ^ 31 by omega), cnd_t c_23], by simp only [cnd_t (P := hM σ (nI m)) (b_5.t c_8), nI_clamp (show m < 2 ^ 31 by omega), cnd_t c_23]⟩
  · refine tq_iconst (v := (-1)) (dget dX7_greet 5 rfl) rfl ?_
    exact tq_iret rfl (dget dX7_greet 6 rfl) ⟨_, rfl, by simp only [cnd_f (P := hM σ x) (b_5.f c_8)], by simp only [cnd_f (P := hM σ x) (b_5.f c_8)]⟩
set_option maxHeartbeats 4000000 in
set_option maxRecDepth 20000 in
theorem c_as (σ : Mem) (S M : Nat) (hV : VA σ S M) (x k : Int32) (d : Nat) (hd : 1 ≤ d) : PMet d mX7_as [.ref 0, .int x, .int k] σ (Pi (fun v σ2 => v = cnd (hM σ x) (cnd (0 ≤ k ∧ k < 3) (cnd (k ≤ σ 2 (cl x)) 1 (-12)) (-2)) (-1) ∧ σ2 = up σ 0 7 (cnd (hM σ x) (cnd (0 ≤ k ∧ k < 3) (cnd (k ≤ σ 2 (cl x)) 0 2) 0) 0))) := by
  obtain ⟨d, rfl⟩ : ∃ e, d = e + 1 := ⟨d - 1, by omega⟩
  refine PMet.start (ls0 := [(0, .ref 0), (1, .int x), (2, .int k)]) miX7_as.1 (Nat.le_of_ble_eq_true rfl) rfl ?_
  refine tq_aload_n 0 (dget dX7_as 0 rfl) rfl rfl ?_
  refine tq_getR (dget dX7_as 1 rfl) fX7_12 rfl rfl ?_
  refine tq_iload_n 1 (dget dX7_as 2 rfl) rfl rfl ?_
  refine mq_Vi (As := [.int x]) (rest := []) (dget dX7_as 3 rfl) lX7_92 miX6_hasMaid (c_hasMaid σ x d (by omega)) rfl rfl rfl rfl (Nat.le_of_ble_eq_true rfl) (Nat.le_of_ble_eq_true rfl) (fun r_5 σ_5 h_5 => ?_)
  obtain ⟨b_5, e_5⟩ := h_5
  obtain rfl := e_5.symm
  refine tq_if_ne (tgt := 17) (dget dX7_as 4 rfl) (by decide) (fun c_8 => ?_) (fun c_8 => ?_)
  · obtain ⟨m, e_m, hm, hm4⟩ := hM_n hV (b_5.t c_8)
    subst e_m
    refine tq_iload_n 2 (dget dX7_as 9 rfl) rfl rfl ?_
    refine tq_if_lt (tgt := 26) (dget dX7_as 10 rfl) (by decide) (fun c_18 => ?_) (fun c_18 => ?_)
    · refine tq_aload_n 0 (dget dX7_as 14 rfl) rfl rfl ?_
      refine tq_bipush (v := (-2)) (dget dX7_as 15 rfl) rfl ?_
      refine mq_Vi (As := [.int (-2)]) (rest := []) (dget dX7_as 16 rfl) lX7_54 miX7_faultless (c_faultless σ (-2) d (by omega)) rfl rfl rfl rfl (Nat.le_of_ble_eq_true rfl) (Nat.le_of_ble_eq_true rfl) (fun r_29 σ_29 h_29 => ?_)
      obtain ⟨a_29, e_29⟩ := h_29
      rw [a_29]
      obtain rfl := e_29.symm
      exact tq_iret rfl (dget dX7_as 17 rfl) ⟨_, rfl, by simp only [cnd_t (P := hM σ (nI m)) (b_5.t c_8), nI_clamp (show m < 2 ^ 31 by omega), cnd_f (P := 0 ≤ k ∧ k < 3) (fun q => by first | exact absurd q.1 (Int32.not_le.mpr c_18) | exact c_23 q.2)], by simp only [cnd_t (P := hM σ (nI m)) (b_5.t c_8), nI_clamp (show m < 2 ^ 31 by omega), cnd_f (P := 0 ≤ k ∧ k < 3) (fun q => by first | exact absurd q.1 (Int32.not_le.mpr c_18) | exact c_23 q.2)]⟩
    · refine tq_iload_n 2 (dget dX7_as 11 rfl) rfl rfl ?_
      refine tq_iconst (v := 3) (dget dX7_as 12 rfl) rfl ?_
      refine tq_icmp_lt (tgt := 33) (dget dX7_as 13 rfl) (by decide) (fun c_23 => ?_) (fun c_23 => ?_)
      · refine tq_iload_n 2 (dget dX7_as 18 rfl) rfl rfl ?_
        refine tq_aload_n 0 (dget dX7_as 19 rfl) rfl rfl ?_
        refine tq_getR (dget dX7_as 20 rfl) fX7_12 rfl rfl ?_
        refine tq_getR (dget dX7_as 21 rfl) fX7_121 rfl rfl ?_
        refine tq_iload_n 1 (dget dX7_as 22 rfl) rfl rfl ?_
        refine tq_ialdN m (dget dX7_as 23 rfl) rfl (by decide) rfl (by omega) ?_
        refine tq_icmp_le (tgt := 52) (dget dX7_as 24 rfl) (by decide) (fun c_43 => ?_) (fun c_43 => ?_)
        · refine tq_aload_n 0 (dget dX7_as 29 rfl) rfl rfl ?_
          refine tq_iconst (v := 1) (dget dX7_as 30 rfl) rfl ?_
          refine mq_Vi (As := [.int 1]) (rest := []) (dget dX7_as 31 rfl) lX7_54 miX7_faultless (c_faultless σ 1 d (by omega)) rfl rfl rfl rfl (Nat.le_of_ble_eq_true rfl) (Nat.le_of_ble_eq_true rfl) (fun r_54 σ_54 h_54 => ?_)
          obtain ⟨a_54, e_54⟩ := h_54
          rw [a_54]
          obtain rfl := e_54.symm
          exact tq_iret rfl (dget dX7_as 32 rfl) ⟨_, rfl, by simp only [cnd_t (P := hM σ (nI m)) (b_5.t c_8), nI_clamp (show m < 2 ^ 31 by omega), cnd_t (P := 0 ≤ k ∧ k < 3) ⟨Int32.not_lt.mp c_18, c_23⟩, cnd_t c_43], by simp only [cnd_t (P := hM σ (nI m)) (b_5.t c_8), nI_clamp (show m < 2 ^ 31 by omega), cnd_t (P := 0 ≤ k ∧ k < 3) ⟨Int32.not_lt.mp c_18, c_23⟩, cnd_t c_43]⟩
        · refine tq_aload_n 0 (dget dX7_as 25 rfl) rfl rfl ?_
          refine tq_iconst (v := 2) (dget dX7_as 26 rfl) rfl ?_
          refine mq_Vi (As := [.int 2]) (rest := []) (dget dX7_as 27 rfl) lX7_65 miX7_faulted (c_faulted σ 2 d (by omega)) rfl rfl rfl rfl (Nat.le_of_ble_eq_true rfl) (Nat.le_of_ble_eq_true rfl) (fun r_48 σ_48 h_48 => ?_)
          obtain ⟨a_48, e_48⟩ := h_48
          rw [a_48]
          obtain rfl := e_48.symm
          exact tq_iret rfl (dget dX7_as 28 rfl) ⟨_, rfl, by simp only [cnd_t (P := hM σ (nI m)) (b_5.t c_8), nI_clamp (show m < 2 ^ 31 by omega), cnd_t (P := 0 ≤ k ∧ k < 3) ⟨Int32.not_lt.mp c_18, c_23⟩, cnd_f c_43]; try rfl, by simp only [cnd_t (P := hM σ (nI m)) (b_5.t c_8), nI_clamp (show m < 2 ^ 31 by omega), cnd_t (P := 0 ≤ k ∧ k < 3) ⟨Int32.not_lt.mp c_18, c_23⟩, cnd_f c_43]⟩
      · refine tq_aload_n 0 (dget dX7_as 14 rfl) rfl rfl ?_
        refine tq_bipush (v := (-2)) (dget dX7_as 15 rfl) rfl ?_
        refine mq_Vi (As := [.int (-2)]) (rest := []) (dget dX7_as 16 rfl) lX7_54 miX7_faultless (c_faultless σ (-2) d (by omega)) rfl rfl rfl rfl (Nat.le_of_ble_eq_true rfl) (Nat.le_of_ble_eq_true rfl) (fun r_29 σ_29 h_29 => ?_)
        obtain ⟨a_29, e_29⟩ := h_29
        rw [a_29]
        obtain rfl := e_29.symm
        exact tq_iret rfl (dget dX7_as 17 rfl) ⟨_, rfl, by simp only [cnd_t (P := hM σ (nI m)) (b_5.t c_8), nI_clamp (show m < 2 ^ 31 by omega), cnd_f (P := 0 ≤ k ∧ k < 3) (fun q => by first | exact absurd q.1 (Int32.not_le.mpr c_18) | exact c_23 q.2)], by simp only [cnd_t (P := hM σ (nI m)) (b_5.t c_8), nI_clamp (show m < 2 ^ 31 by omega), cnd_f (P := 0 ≤ k ∧ k < 3) (fun q => by first | exact absurd q.1 (Int32.not_le.mpr c_18) | exact c_23 q.2)]⟩
  · refine tq_aload_n 0 (dget dX7_as 5 rfl) rfl rfl ?_
    refine tq_iconst (v := (-1)) (dget dX7_as 6 rfl) rfl ?_
    refine mq_Vi (As := [.int (-1)]) (rest := []) (dget dX7_as 7 rfl) lX7_54 miX7_faultless (c_faultless σ (-1) d (by omega)) rfl rfl rfl rfl (Nat.le_of_ble_eq_true rfl) (Nat.le_of_ble_eq_true rfl) (fun r_13 σ_13 h_13 => ?_)
    obtain ⟨a_13, e_13⟩ := h_13
    rw [a_13]
    obtain rfl := e_13.symm
    exact tq_iret rfl (dget dX7_as 8 rfl) ⟨_, rfl, by simp only [cnd_f (P := hM σ x) (b_5.f c_8)], by simp only [cnd_f (P := hM σ x) (b_5.f c_8)]⟩
set_option maxHeartbeats 4000000 in
set_option maxRecDepth 20000 in
theorem c_trace (σ : Mem) (d : Nat) (hd : 0 ≤ d) : PMet d mX7_trace [.ref 0] σ (Pi (fun v σ2 => v = σ 0 6 ∧ σ2 = σ)) := by
  refine PMet.start (ls0 := [(0, .ref 0)]) miX7_trace.1 (Nat.le_of_ble_eq_true rfl) rfl ?_
  refine tq_aload_n 0 (dget dX7_trace 0 rfl) rfl rfl ?_
  refine tq_getI (dget dX7_trace 1 rfl) fX7_258 rfl rfl ?_
  exact tq_iret rfl (dget dX7_trace 2 rfl) ⟨_, rfl, rfl, rfl⟩
set_option maxHeartbeats 4000000 in
set_option maxRecDepth 20000 in
theorem c_fault (σ : Mem) (d : Nat) (hd : 0 ≤ d) : PMet d mX7_fault [.ref 0] σ (Pi (fun v σ2 => v = σ 0 7 ∧ σ2 = σ)) := by
  refine PMet.start (ls0 := [(0, .ref 0)]) miX7_fault.1 (Nat.le_of_ble_eq_true rfl) rfl ?_
  refine tq_aload_n 0 (dget dX7_fault 0 rfl) rfl rfl ?_
  refine tq_getI (dget dX7_fault 1 rfl) fX7_223 rfl rfl ?_
  exact tq_iret rfl (dget dX7_fault 2 rfl) ⟨_, rfl, rfl, rfl⟩
set_option maxHeartbeats 4000000 in
set_option maxRecDepth 20000 in
theorem c_many (σ : Mem) (z : Int32) (d : Nat) (hd : 0 ≤ d) : PMet d mX7_many [.ref 0, .int z] σ (Pi (fun v σ2 => v = cnd (z = 0) (σ 1 0) (cnd (z = 1) (σ 1 1) (cnd (z = 2) (σ 13 4) (cnd (z = 3) (σ 21 4) (cnd (z = 4) (σ 1 2) (-2))))) ∧ σ2 = σ)) := by
  refine PMet.start (ls0 := [(0, .ref 0), (1, .int z)]) miX7_many.1 (Nat.le_of_ble_eq_true rfl) rfl ?_
  refine tq_iload_n 1 (dget dX7_many 0 rfl) rfl rfl ?_
  by_cases c_1 : (z).toInt < 0 ∨ 4 < (z).toInt
  · refine tq_tableOut (tgt := 76) (dget dX7_many 1 rfl) c_1 (by decide) ?_
    refine tq_bipush (v := (-2)) (dget dX7_many 22 rfl) rfl ?_
    exact tq_iret rfl (dget dX7_many 23 rfl) ⟨_, rfl, by simp only [cnd_f (P := z = 0) (tab_no0 c_1), cnd_f (P := z = 1) (tab_no1 c_1), cnd_f (P := z = 2) (tab_no2 c_1), cnd_f (P := z = 3) (tab_no3 c_1), cnd_f (P := z = 4) (tab_no4 c_1)], rfl⟩
  · have c_1 := sw_in c_1
    by_cases s_1_0 : z = 0
    · refine tq_tableIn (tgt := 36) (off := 35) (dget dX7_many 1 rfl) (by rw [s_1_0]; decide) (by rw [s_1_0]; decide) (by rw [s_1_0]; rfl) (by decide) ?_
      refine tq_aload_n 0 (dget dX7_many 2 rfl) rfl rfl ?_
      refine tq_getR (dget dX7_many 3 rfl) fX7_12 rfl rfl ?_
      refine tq_getI (dget dX7_many 4 rfl) fX7_145 rfl rfl ?_
      exact tq_iret rfl (dget dX7_many 5 rfl) ⟨_, rfl, by simp only [cnd_t (P := z = 0) s_1_0], rfl⟩
    by_cases s_1_1 : z = 1
    · refine tq_tableIn (tgt := 44) (off := 43) (dget dX7_many 1 rfl) (by rw [s_1_1]; decide) (by rw [s_1_1]; decide) (by rw [s_1_1]; rfl) (by decide) ?_
      refine tq_aload_n 0 (dget dX7_many 6 rfl) rfl rfl ?_
      refine tq_getR (dget dX7_many 7 rfl) fX7_12 rfl rfl ?_
      refine tq_getI (dget dX7_many 8 rfl) fX7_89 rfl rfl ?_
      exact tq_iret rfl (dget dX7_many 9 rfl) ⟨_, rfl, by simp only [cnd_f (P := z = 0) s_1_0, cnd_t (P := z = 1) s_1_1], rfl⟩
    by_cases s_1_2 : z = 2
    · refine tq_tableIn (tgt := 52) (off := 51) (dget dX7_many 1 rfl) (by rw [s_1_2]; decide) (by rw [s_1_2]; decide) (by rw [s_1_2]; rfl) (by decide) ?_
      refine tq_aload_n 0 (dget dX7_many 10 rfl) rfl rfl ?_
      refine tq_getR (dget dX7_many 11 rfl) fX7_21 rfl rfl ?_
      refine tq_getI (dget dX7_many 12 rfl) fX7_135 rfl rfl ?_
      exact tq_iret rfl (dget dX7_many 13 rfl) ⟨_, rfl, by simp only [cnd_f (P := z = 0) s_1_0, cnd_f (P := z = 1) s_1_1, cnd_t (P := z = 2) s_1_2], rfl⟩
    by_cases s_1_3 : z = 3
    · refine tq_tableIn (tgt := 60) (off := 59) (dget dX7_many 1 rfl) (by rw [s_1_3]; decide) (by rw [s_1_3]; decide) (by rw [s_1_3]; rfl) (by decide) ?_
      refine tq_aload_n 0 (dget dX7_many 14 rfl) rfl rfl ?_
      refine tq_getR (dget dX7_many 15 rfl) fX7_28 rfl rfl ?_
      refine tq_getI (dget dX7_many 16 rfl) fX7_85 rfl rfl ?_
      exact tq_iret rfl (dget dX7_many 17 rfl) ⟨_, rfl, by simp only [cnd_f (P := z = 0) s_1_0, cnd_f (P := z = 1) s_1_1, cnd_f (P := z = 2) s_1_2, cnd_t (P := z = 3) s_1_3], rfl⟩
    have s_1_4 : z = 4 := sw_last5 c_1 s_1_0 s_1_1 s_1_2 s_1_3
    refine tq_tableIn (tgt := 68) (off := 67) (dget dX7_many 1 rfl) (by rw [s_1_4]; decide) (by rw [s_1_4]; decide) (by rw [s_1_4]; rfl) (by decide) ?_
    refine tq_aload_n 0 (dget dX7_many 18 rfl) rfl rfl ?_
    refine tq_getR (dget dX7_many 19 rfl) fX7_12 rfl rfl ?_
    refine tq_getI (dget dX7_many 20 rfl) fX7_132 rfl rfl ?_
    exact tq_iret rfl (dget dX7_many 21 rfl) ⟨_, rfl, by simp only [cnd_f (P := z = 0) s_1_0, cnd_f (P := z = 1) s_1_1, cnd_f (P := z = 2) s_1_2, cnd_f (P := z = 3) s_1_3, cnd_t (P := z = 4) s_1_4], rfl⟩

/-! ===== numbers; one maid's questions ===== -/
theorem kle {a b : Nat} (ha : a < 2 ^ 31) (hb : b < 2 ^ 31) (h : nI a ≤ nI b) : a ≤ b := (nI_leI ha hb).mp h
theorem knle {a b : Nat} (ha : a < 2 ^ 31) (hb : b < 2 ^ 31) (h : ¬ nI a ≤ nI b) : b < a := by
  have h2 := mt (nI_leI ha hb).mpr h
  omega
theorem klt {a b : Nat} (ha : a < 2 ^ 31) (hb : b < 2 ^ 31) (h : nI a < nI b) : a < b := (nI_ltI ha hb).mp h
theorem knlt {a b : Nat} (ha : a < 2 ^ 31) (hb : b < 2 ^ 31) (h : ¬ nI a < nI b) : b ≤ a := by
  have h2 := mt (nI_ltI ha hb).mpr h
  omega
theorem n_eq {a b : Nat} (ha : a < 2 ^ 31) (hb : b < 2 ^ 31) (h : nI a = nI b) : a = b := (nI_eq ha hb).mp h
theorem n_ne {a b : Nat} (h : ¬ nI a = nI b) : ¬ a = b := fun e => h (by rw [e])
theorem nI_mulN (a b : Nat) : nI a * nI b = nI (a * b) := (Int32.ofNat_mul a b).symm
theorem nI_subN {a b : Nat} (h : b ≤ a) : nI a - nI b = nI (a - b) := by
  have h1 := nI_add (a - b) b
  rw [Nat.sub_add_cancel h] at h1
  rw [← h1, Int32.add_sub_cancel]
/-- the valley of a memory: how many suitors, maids -/
def VA (σ : Mem) (S M : Nat) : Prop := σ 1 0 = nI S ∧ σ 1 1 = nI M ∧ S ≤ 6 ∧ M ≤ 4
def bestF (law : Int32) (f : Nat → Int32) : Nat → Int32
  | 0 => 0
  | k + 1 => if nI k ≤ law then (if bestF law f k < f k then f k else bestF law f k) else bestF law f k
theorem bestF_stop {law : Int32} {f : Nat → Int32} {k : Nat} (h : law < nI k) : ∀ n, k ≤ n → n < 2 ^ 31 → bestF law f n = bestF law f k
  | 0, hk, _ => by rw [Nat.le_zero.mp hk]
  | n + 1, hk, hn => by
    by_cases e : k = n + 1
    · rw [e]
    · rw [bestF, if_neg, bestF_stop h n (by omega) (by omega)]
      intro q
      have h1 : nI k ≤ nI n := (nI_leI (by omega) (by omega)).mpr (by omega)
      exact Int32.lt_irrefl (Int32.lt_of_lt_of_le h (Int32.le_trans h1 q))
def mndP (P : Nat → Prop) (f : Nat → Int32) (n : Nat) (v : Int32) : Prop := (∃ k, k < n ∧ P k ∧ (∀ j, j < k → ¬ P j) ∧ v = f k) ∨ ((∀ j, j < n → ¬ P j) ∧ v = 0)

set_option maxHeartbeats 4000000 in
set_option maxRecDepth 20000 in
theorem c_areSuitors_loop (σ : Mem) (L : Nat) (hL : L ≤ 100) (d : Nat) (hd : 1 ≤ d) : ∀ (n : Nat) (k : Nat) (hm : L < k + n) (hk : k ≤ L) (hI : ∀ j, j < k → 0 ≤ σ 33 j ∧ σ 33 j < σ 1 0), PAt (EM d (Pi (fun v σ2 => BP (∀ j, j < L → 0 ≤ σ 33 j ∧ σ 33 j < σ 1 0) v ∧ σ2 = σ))) mX6_areSuitors 2 [(3, .int (nI k)), (0, .ref 1), (1, .ref 33), (2, .int (nI L))] [] σ := by
  obtain ⟨d, rfl⟩ : ∃ e, d = e + 1 := ⟨d - 1, by omega⟩
  intro n
  induction n with
  | zero => intro k hm hk hI; exact absurd hm (by omega)
  | succ n ih =>
    intro k hm hk hI
    refine tq_iload_n 0 (dget dX6_areSuitors 2 rfl) rfl rfl ?_
    refine tq_iload_n 3 (dget dX6_areSuitors 3 rfl) rfl rfl ?_
    refine tq_icmp_ge (tgt := 25) (dget dX6_areSuitors 4 rfl) (by decide) (fun c_4 => ?_) (fun c_4 => ?_)
    · have g_4 := kle (by omega) (by omega) c_4
      refine tq_iconst (v := 1) (dget dX6_areSuitors 15 rfl) rfl ?_
      exact tq_zret rfl rfl (dget dX6_areSuitors 16 rfl) ⟨_, rfl, BP.y (fun j hj => hI j (by omega)), rfl⟩
    · have g_4 := knle (by omega) (by omega) c_4
      refine tq_aload_n 1 (dget dX6_areSuitors 5 rfl) rfl rfl ?_
      refine tq_aload_n 2 (dget dX6_areSuitors 6 rfl) rfl rfl ?_
      refine tq_iload_n 0 (dget dX6_areSuitors 7 rfl) rfl rfl ?_
      refine tq_ialdN k (dget dX6_areSuitors 8 rfl) rfl (by decide) rfl (by omega) ?_
      refine mq_Vi (As := [.int (σ 33 k)]) (rest := []) (dget dX6_areSuitors 9 rfl) lX6_30 miX6_hasSuitor (c_hasSuitor σ (σ 33 k) d (by omega)) rfl rfl rfl rfl (Nat.le_of_ble_eq_true rfl) (Nat.le_of_ble_eq_true rfl) (fun r_11 σ_11 h_11 => ?_)
      obtain ⟨b_11, e_11⟩ := h_11
      obtain rfl := e_11.symm
      refine tq_if_ne (tgt := 19) (dget dX6_areSuitors 10 rfl) (by decide) (fun c_14 => ?_) (fun c_14 => ?_)
      · refine tq_iinc (v := (nI (k + 1))) (ls2 := [(3, .int (nI (k + 1))), (0, .ref 1), (1, .ref 33), (2, .int (nI L))]) 0 (dget dX6_areSuitors 13 rfl) rfl (nI_1 k) (by decide) rfl ?_
        refine tq_goto (tgt := 2) (dget dX6_areSuitors 14 rfl) (by decide) ?_
        refine tq_sub [0, 1, 2, 3] (ls' := [(3, .int (nI (k + 1))), (0, .ref 1), (1, .ref 33), (2, .int (nI L))]) rfl ?_
        exact ih (k + 1) (by omega) (by omega) (fun j hj => if e : j = k then e ▸ b_11.t c_14 else hI j (by omega))
      · refine tq_iconst (v := 0) (dget dX6_areSuitors 11 rfl) rfl ?_
        exact tq_zret rfl rfl (dget dX6_areSuitors 12 rfl) ⟨_, rfl, BP.n (fun q => b_11.f c_14 (q k g_4)), rfl⟩
set_option maxHeartbeats 4000000 in
set_option maxRecDepth 20000 in
theorem c_areSuitors (σ : Mem) (L : Nat) (hL : L ≤ 100) (d : Nat) (hd : 1 ≤ d) : PMet d mX6_areSuitors [.ref 1, .ref 33, .int (nI L)] σ (Pi (fun v σ2 => BP (∀ j, j < L → 0 ≤ σ 33 j ∧ σ 33 j < σ 1 0) v ∧ σ2 = σ)) := by
  obtain ⟨d, rfl⟩ : ∃ e, d = e + 1 := ⟨d - 1, by omega⟩
  refine PMet.start (ls0 := [(0, .ref 1), (1, .ref 33), (2, .int (nI L))]) miX6_areSuitors.1 (Nat.le_of_ble_eq_true rfl) rfl ?_
  refine tq_iconst (v := 0) (dget dX6_areSuitors 0 rfl) rfl ?_
  refine tq_istore_n (ls2 := [(3, .int 0), (0, .ref 1), (1, .ref 33), (2, .int (nI L))]) (dget dX6_areSuitors 1 rfl) rfl (by decide) rfl ?_
  refine tq_sub [0, 1, 2, 3] (ls' := [(3, .int 0), (0, .ref 1), (1, .ref 33), (2, .int (nI L))]) rfl ?_
  exact c_areSuitors_loop σ L hL (d + 1) (by omega) (L + 1) 0 (by omega) (by omega) (fun j hj => absurd hj (by omega))
set_option maxHeartbeats 4000000 in
set_option maxRecDepth 20000 in
theorem c_best_loop (σ : Mem) (m L : Nat) (w : Nat → Nat) (hm4 : m < 4) (hL : L ≤ 100) (hw : ∀ j, j < L → σ 33 j = nI (w j) ∧ w j < 6) (d : Nat) (hd : 1 ≤ d) : ∀ (n : Nat) (k : Nat) (hm : L < k + n) (hk : k ≤ L), PAt (EM d (Pi (fun v σ2 => v = bestF (σ 1 2) (fun j => σ (4 + m) (w j)) L ∧ σ2 = σ))) mX6_best 6 [(5, .int (nI k)), (4, .int (bestF (σ 1 2) (fun j => σ (4 + m) (w j)) k)), (0, .ref 1), (1, .int (nI m)), (2, .ref 33), (3, .int (nI L))] [] σ := by
  obtain ⟨d, rfl⟩ : ∃ e, d = e + 1 := ⟨d - 1, by omega⟩
  intro n
  induction n with
  | zero => intro k hm hk; exact absurd hm (by omega)
  | succ n ih =>
    intro k hm hk
    refine tq_iload 0 (dget dX6_best 4 rfl) rfl ?_
    refine tq_iload_n 5 (dget dX6_best 5 rfl) rfl rfl ?_
    refine tq_icmp_ge (tgt := 45) (dget dX6_best 6 rfl) (by decide) (fun c_9 => ?_) (fun c_9 => ?_)
    · have g_9 := kle (by omega) (by omega) c_9
      refine tq_iload 1 (dget dX6_best 24 rfl) rfl ?_
      exact tq_iret rfl (dget dX6_best 25 rfl) ⟨_, rfl, by rw [show k = L by omega], rfl⟩
    · have g_9 := knle (by omega) (by omega) c_9
      refine tq_iload 0 (dget dX6_best 7 rfl) rfl ?_
      refine tq_aload_n 2 (dget dX6_best 8 rfl) rfl rfl ?_
      refine tq_getI (dget dX6_best 9 rfl) fX6_34 rfl rfl ?_
      refine tq_icmp_gt (tgt := 45) (dget dX6_best 10 rfl) (by decide) (fun c_18 => ?_) (fun c_18 => ?_)
      · refine tq_iload 1 (dget dX6_best 24 rfl) rfl ?_
        exact tq_iret rfl (dget dX6_best 25 rfl) ⟨_, rfl, (bestF_stop c_18 L hk (by omega)).symm, rfl⟩
      · refine tq_iload 1 (dget dX6_best 11 rfl) rfl ?_
        refine tq_aload_n 2 (dget dX6_best 12 rfl) rfl rfl ?_
        refine tq_getR (dget dX6_best 13 rfl) fX6_17 rfl rfl ?_
        refine tq_iload_n 3 (dget dX6_best 14 rfl) rfl rfl ?_
        refine tq_hers m (dget dX6_best 15 rfl) rfl (by omega) ?_
        refine tq_aload_n 4 (dget dX6_best 16 rfl) rfl rfl ?_
        refine tq_iload 0 (dget dX6_best 17 rfl) rfl ?_
        refine tq_ialdN k (dget dX6_best 18 rfl) rfl (by decide) rfl (by omega) ?_
        refine tq_ialdN (w k) (dget dX6_best 19 rfl) (SH_hers (by omega)) (by decide) (hw k g_9).1 (hw k g_9).2 ?_
        refine tq_max (dget dX6_best 20 rfl) (tblG_2 128 rfl rfl) (tblG_2 129 rfl rfl) (tblG_1 12 rfl rfl) (tblG_2 130 rfl rfl) (by show 1 ≤ d + 1; omega) (by show _ ≤ 40 * (d + 1); have h0 : 16 ≤ 40 * (d + 1) := (by omega); exact Nat.le_trans (Nat.le_of_ble_eq_true rfl) h0) (Nat.le_refl _) (Nat.le_refl _) ?_
        refine tq_istore (ls2 := [(4, .int (if (bestF (σ 1 2) (fun j => σ (4 + m) (w j)) k) < (σ (4 + m) (w k)) then (σ (4 + m) (w k)) else (bestF (σ 1 2) (fun j => σ (4 + m) (w j)) k))), (5, .int (nI k)), (0, .ref 1), (1, .int (nI m)), (2, .ref 33), (3, .int (nI L))]) (dget dX6_best 21 rfl) (by decide) rfl ?_
        refine tq_iinc (v := (nI (k + 1))) (ls2 := [(5, .int (nI (k + 1))), (4, .int (if (bestF (σ 1 2) (fun j => σ (4 + m) (w j)) k) < (σ (4 + m) (w k)) then (σ (4 + m) (w k)) else (bestF (σ 1 2) (fun j => σ (4 + m) (w j)) k))), (0, .ref 1), (1, .int (nI m)), (2, .ref 33), (3, .int (nI L))]) 1 (dget dX6_best 22 rfl) rfl (nI_1 k) (by decide) rfl ?_
        refine tq_goto (tgt := 6) (dget dX6_best 23 rfl) (by decide) ?_
        refine tq_sub [0, 1, 2, 3, 4, 5] (ls' := [(5, .int (nI (k + 1))), (4, .int (if (bestF (σ 1 2) (fun j => σ (4 + m) (w j)) k) < (σ (4 + m) (w k)) then (σ (4 + m) (w k)) else (bestF (σ 1 2) (fun j => σ (4 + m) (w j)) k))), (0, .ref 1), (1, .int (nI m)), (2, .ref 33), (3, .int (nI L))]) rfl ?_
        rw [show (if bestF (σ 1 2) (fun j => σ (4 + m) (w j)) k < σ (4 + m) (w k) then σ (4 + m) (w k) else bestF (σ 1 2) (fun j => σ (4 + m) (w j)) k) = bestF (σ 1 2) (fun j => σ (4 + m) (w j)) (k + 1) by simp [bestF, Int32.not_lt.mp c_18]]
        exact ih (k + 1) (by omega) (by omega)
set_option maxHeartbeats 4000000 in
set_option maxRecDepth 20000 in
theorem c_best (σ : Mem) (m L : Nat) (w : Nat → Nat) (hm : m < 4) (hL : L ≤ 100) (hw : ∀ j, j < L → σ 33 j = nI (w j) ∧ w j < 6) (d : Nat) (hd : 1 ≤ d) : PMet d mX6_best [.ref 1, .int (nI m), .ref 33, .int (nI L)] σ (Pi (fun v σ2 => v = bestF (σ 1 2) (fun j => σ (4 + m) (w j)) L ∧ σ2 = σ)) := by
  obtain ⟨d, rfl⟩ : ∃ e, d = e + 1 := ⟨d - 1, by omega⟩
  refine PMet.start (ls0 := [(0, .ref 1), (1, .int (nI m)), (2, .ref 33), (3, .int (nI L))]) miX6_best.1 (Nat.le_of_ble_eq_true rfl) rfl ?_
  refine tq_iconst (v := 0) (dget dX6_best 0 rfl) rfl ?_
  refine tq_istore (ls2 := [(4, .int 0), (0, .ref 1), (1, .int (nI m)), (2, .ref 33), (3, .int (nI L))]) (dget dX6_best 1 rfl) (by decide) rfl ?_
  refine tq_iconst (v := 0) (dget dX6_best 2 rfl) rfl ?_
  refine tq_istore (ls2 := [(5, .int 0), (4, .int 0), (0, .ref 1), (1, .int (nI m)), (2, .ref 33), (3, .int (nI L))]) (dget dX6_best 3 rfl) (by decide) rfl ?_
  refine tq_sub [0, 1, 2, 3, 4, 5] (ls' := [(5, .int 0), (4, .int 0), (0, .ref 1), (1, .int (nI m)), (2, .ref 33), (3, .int (nI L))]) rfl ?_
  exact c_best_loop σ m L w hm hL hw (d + 1) (by omega) (L + 1) 0 (by omega) (by omega)
set_option maxHeartbeats 4000000 in
set_option maxRecDepth 20000 in
theorem c_minded_loop (σ : Mem) (m L : Nat) (w : Nat → Nat) (hm4 : m < 4) (hL : L ≤ 100) (hw : ∀ j, j < L → σ 33 j = nI (w j) ∧ w j < 6) (d : Nat) (hd : 2 ≤ d) : ∀ (n : Nat) (k : Nat) (hm : L < k + n) (hk : k ≤ L) (hI : ∀ j, j < k → ansF (σ 1 2) (σ 2 m) (σ (4 + m) (w j)) (nI j) = 3), PAt (EM d (Pi (fun v σ2 => mndP (fun j => ¬ ansF (σ 1 2) (σ 2 m) (σ (4 + m) (w j)) (nI j) = 3) (fun j => σ (4 + m) (w j)) L v ∧ σ2 = σ))) mX6_minded 3 [(4, .int (nI k)), (0, .ref 1), (1, .int (nI m)), (2, .ref 33), (3, .int (nI L))] [] σ := by
  obtain ⟨d, rfl⟩ : ∃ e, d = e + 1 := ⟨d - 1, by omega⟩
  intro n
  induction n with
  | zero => intro k hm hk hI; exact absurd hm (by omega)
  | succ n ih =>
    intro k hm hk hI
    refine tq_iload 0 (dget dX6_minded 2 rfl) rfl ?_
    refine tq_iload_n 4 (dget dX6_minded 3 rfl) rfl rfl ?_
    refine tq_icmp_ge (tgt := 42) (dget dX6_minded 4 rfl) (by decide) (fun c_6 => ?_) (fun c_6 => ?_)
    · have g_6 := kle (by omega) (by omega) c_6
      refine tq_iconst (v := 0) (dget dX6_minded 25 rfl) rfl ?_
      exact tq_iret rfl (dget dX6_minded 26 rfl) ⟨_, rfl, Or.inr ⟨fun j hj q => q (hI j (by omega)), rfl⟩, rfl⟩
    · have g_6 := knle (by omega) (by omega) c_6
      refine tq_aload_n 1 (dget dX6_minded 5 rfl) rfl rfl ?_
      refine tq_iload_n 2 (dget dX6_minded 6 rfl) rfl rfl ?_
      refine tq_aload_n 3 (dget dX6_minded 7 rfl) rfl rfl ?_
      refine tq_iload 0 (dget dX6_minded 8 rfl) rfl ?_
      refine tq_ialdN k (dget dX6_minded 9 rfl) rfl (by decide) rfl (by omega) ?_
      refine tq_iload 0 (dget dX6_minded 10 rfl) rfl ?_
      refine mq_Vi (As := [.int (nI m), .int (σ 33 k), .int (nI k)]) (rest := []) (dget dX6_minded 11 rfl) lX6_59 miX6_answer (by rw [(hw k g_6).1]; exact c_answer σ m (w k) (nI k) d (by omega) (by omega) (hw k g_6).2) rfl rfl rfl rfl (Nat.le_of_ble_eq_true rfl) (Nat.le_of_ble_eq_true rfl) (fun r_17 σ_17 h_17 => ?_)
      obtain ⟨a_17, e_17⟩ := h_17
      obtain rfl := a_17.symm
      obtain rfl := e_17.symm
      refine tq_iconst (v := 3) (dget dX6_minded 12 rfl) rfl ?_
      refine tq_icmp_eq (tgt := 36) (dget dX6_minded 13 rfl) (by decide) (fun c_21 => ?_) (fun c_21 => ?_)
      · refine tq_iinc (v := (nI (k + 1))) (ls2 := [(4, .int (nI (k + 1))), (0, .ref 1), (1, .int (nI m)), (2, .ref 33), (3, .int (nI L))]) 0 (dget dX6_minded 23 rfl) rfl (nI_1 k) (by decide) rfl ?_
        refine tq_goto (tgt := 3) (dget dX6_minded 24 rfl) (by decide) ?_
        refine tq_sub [0, 1, 2, 3, 4] (ls' := [(4, .int (nI (k + 1))), (0, .ref 1), (1, .int (nI m)), (2, .ref 33), (3, .int (nI L))]) rfl ?_
        exact ih (k + 1) (by omega) (by omega) (fun j hj => if e : j = k then e ▸ c_21 else hI j (by omega))
      · refine tq_aload_n 1 (dget dX6_minded 14 rfl) rfl rfl ?_
        refine tq_getR (dget dX6_minded 15 rfl) fX6_17 rfl rfl ?_
        refine tq_iload_n 2 (dget dX6_minded 16 rfl) rfl rfl ?_
        refine tq_hers m (dget dX6_minded 17 rfl) rfl (by omega) ?_
        refine tq_aload_n 3 (dget dX6_minded 18 rfl) rfl rfl ?_
        refine tq_iload 0 (dget dX6_minded 19 rfl) rfl ?_
        refine tq_ialdN k (dget dX6_minded 20 rfl) rfl (by decide) rfl (by omega) ?_
        refine tq_ialdN (w k) (dget dX6_minded 21 rfl) (SH_hers (by omega)) (by decide) (hw k g_6).1 (hw k g_6).2 ?_
        exact tq_iret rfl (dget dX6_minded 22 rfl) ⟨_, rfl, Or.inl ⟨k, g_6, c_21, fun j hj q => q (hI j hj), rfl⟩, rfl⟩
set_option maxHeartbeats 4000000 in
set_option maxRecDepth 20000 in
theorem c_minded (σ : Mem) (m L : Nat) (w : Nat → Nat) (hm : m < 4) (hL : L ≤ 100) (hw : ∀ j, j < L → σ 33 j = nI (w j) ∧ w j < 6) (d : Nat) (hd : 2 ≤ d) : PMet d mX6_minded [.ref 1, .int (nI m), .ref 33, .int (nI L)] σ (Pi (fun v σ2 => mndP (fun j => ¬ ansF (σ 1 2) (σ 2 m) (σ (4 + m) (w j)) (nI j) = 3) (fun j => σ (4 + m) (w j)) L v ∧ σ2 = σ)) := by
  obtain ⟨d, rfl⟩ : ∃ e, d = e + 1 := ⟨d - 1, by omega⟩
  refine PMet.start (ls0 := [(0, .ref 1), (1, .int (nI m)), (2, .ref 33), (3, .int (nI L))]) miX6_minded.1 (Nat.le_of_ble_eq_true rfl) rfl ?_
  refine tq_iconst (v := 0) (dget dX6_minded 0 rfl) rfl ?_
  refine tq_istore (ls2 := [(4, .int 0), (0, .ref 1), (1, .int (nI m)), (2, .ref 33), (3, .int (nI L))]) (dget dX6_minded 1 rfl) (by decide) rfl ?_
  refine tq_sub [0, 1, 2, 3, 4] (ls' := [(4, .int 0), (0, .ref 1), (1, .int (nI m)), (2, .ref 33), (3, .int (nI L))]) rfl ?_
  exact c_minded_loop σ m L w hm hL hw (d + 1) (by omega) (L + 1) 0 (by omega) (by omega) (fun j hj => absurd hj (by omega))
/-- bit k of a set of six -/
def bitN (set k : Nat) : Bool := set.testBit k
theorem bit_and {set k : Nat} (h : set < 64) (hk : k < 6) : ((nI set >>> (nI k &&& 31)) &&& 1) = if bitN set k then 1 else 0 := by
  have h2 : ∀ a, a < 64 → ∀ b, b < 6 → ((nI a >>> (nI b &&& 31)) &&& 1) = if bitN a b then 1 else 0 := by decide +kernel
  exact h2 set h k hk
def bcF (x : Int32) : Int32 :=
  let a := x - (((x).toUInt32 >>> ((1 : Int32).toUInt32 &&& Int32.toUInt32 31)).toInt32 &&& 1431655765)
  let b := (a &&& 858993459) + (((a).toUInt32 >>> ((2 : Int32).toUInt32 &&& Int32.toUInt32 31)).toInt32 &&& 858993459)
  let c := (b + ((b).toUInt32 >>> ((4 : Int32).toUInt32 &&& Int32.toUInt32 31)).toInt32) &&& 252645135
  let e := c + ((c).toUInt32 >>> ((8 : Int32).toUInt32 &&& Int32.toUInt32 31)).toInt32
  let f := e + ((e).toUInt32 >>> ((16 : Int32).toUInt32 &&& Int32.toUInt32 31)).toInt32
  f &&& 63
/-- how many of the first k are in a set -/
def cntN (set : Nat) : Nat → Nat
  | 0 => 0
  | k + 1 => cntN set k + if bitN set k then 1 else 0
theorem cntN_le (set : Nat) : ∀ k, cntN set k ≤ k
  | 0 => Nat.le_refl _
  | k + 1 => by
    have := cntN_le set k
    unfold cntN
    split <;> omega
theorem bcF_eq {set : Nat} (h : set < 64) : bcF (nI set) = nI (cntN set 6) := by
  have h2 : ∀ a, a < 64 → bcF (nI a) = nI (cntN a 6) := by decide +kernel
  exact h2 set h
/-- whether those of a set are all refused ahead of the told one, and he is not -/
def brP (law kind : Int32) (f : Nat → Int32) (S told set : Nat) : Prop := (∀ s, s < S → bitN set s = true → ansF law kind (f s) (nI (cntN set s)) = 3) ∧ ¬ ansF law kind (f told) (nI (cntN set S)) = 3

set_option maxHeartbeats 4000000 in
set_option maxRecDepth 20000 in
theorem c_bitCount (σ : Mem) (x : Int32) (d : Nat) (hd : 0 ≤ d) : PMet d mJ6_bitCount_0f7a4 [.int x] σ (Pi (fun v σ2 => v = bcF x ∧ σ2 = σ)) := by
  refine PMet.start (ls0 := [(0, .int x)]) miJ6_bitCount_0f7a4.1 (Nat.le_of_ble_eq_true rfl) rfl ?_
  refine tq_iload_n 0 (dget dJ6_bitCount_0f7a4 0 rfl) rfl rfl ?_
  refine tq_iload_n 0 (dget dJ6_bitCount_0f7a4 1 rfl) rfl rfl ?_
  refine tq_iconst (v := 1) (dget dJ6_bitCount_0f7a4 2 rfl) rfl ?_
  refine tq_iushr (dget dJ6_bitCount_0f7a4 3 rfl) ?_
  refine tq_ldcw (v := 1431655765) (dget dJ6_bitCount_0f7a4 4 rfl) (tblG_2 147 rfl rfl) ?_
  refine tq_iand (dget dJ6_bitCount_0f7a4 5 rfl) ?_
  refine tq_isub (dget dJ6_bitCount_0f7a4 6 rfl) ?_
  refine tq_istore_n (ls2 := [(0, .int (x - (((x).toUInt32 >>> ((1 : Int32).toUInt32 &&& Int32.toUInt32 31)).toInt32 &&& 1431655765)))]) (dget dJ6_bitCount_0f7a4 7 rfl) rfl (by decide) rfl ?_
  refine tq_iload_n 0 (dget dJ6_bitCount_0f7a4 8 rfl) rfl rfl ?_
  refine tq_ldcw (v := 858993459) (dget dJ6_bitCount_0f7a4 9 rfl) (tblG_2 148 rfl rfl) ?_
  refine tq_iand (dget dJ6_bitCount_0f7a4 10 rfl) ?_
  refine tq_iload_n 0 (dget dJ6_bitCount_0f7a4 11 rfl) rfl rfl ?_
  refine tq_iconst (v := 2) (dget dJ6_bitCount_0f7a4 12 rfl) rfl ?_
  refine tq_iushr (dget dJ6_bitCount_0f7a4 13 rfl) ?_
  refine tq_ldcw (v := 858993459) (dget dJ6_bitCount_0f7a4 14 rfl) (tblG_2 148 rfl rfl) ?_
  refine tq_iand (dget dJ6_bitCount_0f7a4 15 rfl) ?_
  refine tq_iadd (dget dJ6_bitCount_0f7a4 16 rfl) ?_
  refine tq_istore_n (ls2 := [(0, .int (((x - (((x).toUInt32 >>> ((1 : Int32).toUInt32 &&& Int32.toUInt32 31)).toInt32 &&& 1431655765)) &&& 858993459) + ((((x - (((x).toUInt32 >>> ((1 : Int32).toUInt32 &&& Int32.toUInt32 31)).toInt32 &&& 1431655765))).toUInt32 >>> ((2 : Int32).toUInt32 &&& Int32.toUInt32 31)).toInt32 &&& 858993459)))]) (dget dJ6_bitCount_0f7a4 17 rfl) rfl (by decide) rfl ?_
  refine tq_iload_n 0 (dget dJ6_bitCount_0f7a4 18 rfl) rfl rfl ?_
  refine tq_iload_n 0 (dget dJ6_bitCount_0f7a4 19 rfl) rfl rfl ?_
  refine tq_iconst (v := 4) (dget dJ6_bitCount_0f7a4 20 rfl) rfl ?_
  refine tq_iushr (dget dJ6_bitCount_0f7a4 21 rfl) ?_
  refine tq_iadd (dget dJ6_bitCount_0f7a4 22 rfl) ?_
  refine tq_ldcw (v := 252645135) (dget dJ6_bitCount_0f7a4 23 rfl) (tblG_2 149 rfl rfl) ?_
  refine tq_iand (dget dJ6_bitCount_0f7a4 24 rfl) ?_
  refine tq_istore_n (ls2 := [(0, .int (((((x - (((x).toUInt32 >>> ((1 : Int32).toUInt32 &&& Int32.toUInt32 31)).toInt32 &&& 1431655765)) &&& 858993459) + ((((x - (((x).toUInt32 >>> ((1 : Int32).toUInt32 &&& Int32.toUInt32 31)).toInt32 &&& 1431655765))).toUInt32 >>> ((2 : Int32).toUInt32 &&& Int32.toUInt32 31)).toInt32 &&& 858993459)) + (((((x - (((x).toUInt32 >>> ((1 : Int32).toUInt32 &&& Int32.toUInt32 31)).toInt32 &&& 1431655765)) &&& 858993459) + ((((x - (((x).toUInt32 >>> ((1 : Int32).toUInt32 &&& Int32.toUInt32 31)).toInt32 &&& 1431655765))).toUInt32 >>> ((2 : Int32).toUInt32 &&& Int32.toUInt32 31)).toInt32 &&& 858993459))).toUInt32 >>> ((4 : Int32).toUInt32 &&& Int32.toUInt32 31)).toInt32) &&& 252645135))]) (dget dJ6_bitCount_0f7a4 25 rfl) rfl (by decide) rfl ?_
  refine tq_iload_n 0 (dget dJ6_bitCount_0f7a4 26 rfl) rfl rfl ?_
  refine tq_iload_n 0 (dget dJ6_bitCount_0f7a4 27 rfl) rfl rfl ?_
  refine tq_bipush (v := 8) (dget dJ6_bitCount_0f7a4 28 rfl) rfl ?_
  refine tq_iushr (dget dJ6_bitCount_0f7a4 29 rfl) ?_
  refine tq_iadd (dget dJ6_bitCount_0f7a4 30 rfl) ?_
  refine tq_istore_n (ls2 := [(0, .int ((((((x - (((x).toUInt32 >>> ((1 : Int32).toUInt32 &&& Int32.toUInt32 31)).toInt32 &&& 1431655765)) &&& 858993459) + ((((x - (((x).toUInt32 >>> ((1 : Int32).toUInt32 &&& Int32.toUInt32 31)).toInt32 &&& 1431655765))).toUInt32 >>> ((2 : Int32).toUInt32 &&& Int32.toUInt32 31)).toInt32 &&& 858993459)) + (((((x - (((x).toUInt32 >>> ((1 : Int32).toUInt32 &&& Int32.toUInt32 31)).toInt32 &&& 1431655765)) &&& 858993459) + ((((x - (((x).toUInt32 >>> ((1 : Int32).toUInt32 &&& Int32.toUInt32 31)).toInt32 &&& 1431655765))).toUInt32 >>> ((2 : Int32).toUInt32 &&& Int32.toUInt32 31)).toInt32 &&& 858993459))).toUInt32 >>> ((4 : Int32).toUInt32 &&& Int32.toUInt32 31)).toInt32) &&& 252645135) + (((((((x - (((x).toUInt32 >>> ((1 : Int32).toUInt32 &&& Int32.toUInt32 31)).toInt32 &&& 1431655765)) &&& 858993459) + ((((x - (((x).toUInt32 >>> ((1 : Int32).toUInt32 &&& Int32.toUInt32 31)).toInt32 &&& 1431655765))).toUInt32 >>> ((2 : Int32).toUInt32 &&& Int32.toUInt32 31)).toInt32 &&& 858993459)) + (((((x - (((x).toUInt32 >>> ((1 : Int32).toUInt32 &&& Int32.toUInt32 31)).toInt32 &&& 1431655765)) &&& 858993459) + ((((x - (((x).toUInt32 >>> ((1 : Int32).toUInt32 &&& Int32.toUInt32 31)).toInt32 &&& 1431655765))).toUInt32 >>> ((2 : Int32).toUInt32 &&& Int32.toUInt32 31)).toInt32 &&& 858993459))).toUInt32 >>> ((4 : Int32).toUInt32 &&& Int32.toUInt32 31)).toInt32) &&& 252645135)).toUInt32 >>> ((8 : Int32).toUInt32 &&& Int32.toUInt32 31)).toInt32))]) (dget dJ6_bitCount_0f7a4 31 rfl) rfl (by decide) rfl ?_
  refine tq_iload_n 0 (dget dJ6_bitCount_0f7a4 32 rfl) rfl rfl ?_
  refine tq_iload_n 0 (dget dJ6_bitCount_0f7a4 33 rfl) rfl rfl ?_
  refine tq_bipush (v := 16) (dget dJ6_bitCount_0f7a4 34 rfl) rfl ?_
  refine tq_iushr (dget dJ6_bitCount_0f7a4 35 rfl) ?_
  refine tq_iadd (dget dJ6_bitCount_0f7a4 36 rfl) ?_
  refine tq_istore_n (ls2 := [(0, .int (((((((x - (((x).toUInt32 >>> ((1 : Int32).toUInt32 &&& Int32.toUInt32 31)).toInt32 &&& 1431655765)) &&& 858993459) + ((((x - (((x).toUInt32 >>> ((1 : Int32).toUInt32 &&& Int32.toUInt32 31)).toInt32 &&& 1431655765))).toUInt32 >>> ((2 : Int32).toUInt32 &&& Int32.toUInt32 31)).toInt32 &&& 858993459)) + (((((x - (((x).toUInt32 >>> ((1 : Int32).toUInt32 &&& Int32.toUInt32 31)).toInt32 &&& 1431655765)) &&& 858993459) + ((((x - (((x).toUInt32 >>> ((1 : Int32).toUInt32 &&& Int32.toUInt32 31)).toInt32 &&& 1431655765))).toUInt32 >>> ((2 : Int32).toUInt32 &&& Int32.toUInt32 31)).toInt32 &&& 858993459))).toUInt32 >>> ((4 : Int32).toUInt32 &&& Int32.toUInt32 31)).toInt32) &&& 252645135) + (((((((x - (((x).toUInt32 >>> ((1 : Int32).toUInt32 &&& Int32.toUInt32 31)).toInt32 &&& 1431655765)) &&& 858993459) + ((((x - (((x).toUInt32 >>> ((1 : Int32).toUInt32 &&& Int32.toUInt32 31)).toInt32 &&& 1431655765))).toUInt32 >>> ((2 : Int32).toUInt32 &&& Int32.toUInt32 31)).toInt32 &&& 858993459)) + (((((x - (((x).toUInt32 >>> ((1 : Int32).toUInt32 &&& Int32.toUInt32 31)).toInt32 &&& 1431655765)) &&& 858993459) + ((((x - (((x).toUInt32 >>> ((1 : Int32).toUInt32 &&& Int32.toUInt32 31)).toInt32 &&& 1431655765))).toUInt32 >>> ((2 : Int32).toUInt32 &&& Int32.toUInt32 31)).toInt32 &&& 858993459))).toUInt32 >>> ((4 : Int32).toUInt32 &&& Int32.toUInt32 31)).toInt32) &&& 252645135)).toUInt32 >>> ((8 : Int32).toUInt32 &&& Int32.toUInt32 31)).toInt32) + ((((((((x - (((x).toUInt32 >>> ((1 : Int32).toUInt32 &&& Int32.toUInt32 31)).toInt32 &&& 1431655765)) &&& 858993459) + ((((x - (((x).toUInt32 >>> ((1 : Int32).toUInt32 &&& Int32.toUInt32 31)).toInt32 &&& 1431655765))).toUInt32 >>> ((2 : Int32).toUInt32 &&& Int32.toUInt32 31)).toInt32 &&& 858993459)) + (((((x - (((x).toUInt32 >>> ((1 : Int32).toUInt32 &&& Int32.toUInt32 31)).toInt32 &&& 1431655765)) &&& 858993459) + ((((x - (((x).toUInt32 >>> ((1 : Int32).toUInt32 &&& Int32.toUInt32 31)).toInt32 &&& 1431655765))).toUInt32 >>> ((2 : Int32).toUInt32 &&& Int32.toUInt32 31)).toInt32 &&& 858993459))).toUInt32 >>> ((4 : Int32).toUInt32 &&& Int32.toUInt32 31)).toInt32) &&& 252645135) + (((((((x - (((x).toUInt32 >>> ((1 : Int32).toUInt32 &&& Int32.toUInt32 31)).toInt32 &&& 1431655765)) &&& 858993459) + ((((x - (((x).toUInt32 >>> ((1 : Int32).toUInt32 &&& Int32.toUInt32 31)).toInt32 &&& 1431655765))).toUInt32 >>> ((2 : Int32).toUInt32 &&& Int32.toUInt32 31)).toInt32 &&& 858993459)) + (((((x - (((x).toUInt32 >>> ((1 : Int32).toUInt32 &&& Int32.toUInt32 31)).toInt32 &&& 1431655765)) &&& 858993459) + ((((x - (((x).toUInt32 >>> ((1 : Int32).toUInt32 &&& Int32.toUInt32 31)).toInt32 &&& 1431655765))).toUInt32 >>> ((2 : Int32).toUInt32 &&& Int32.toUInt32 31)).toInt32 &&& 858993459))).toUInt32 >>> ((4 : Int32).toUInt32 &&& Int32.toUInt32 31)).toInt32) &&& 252645135)).toUInt32 >>> ((8 : Int32).toUInt32 &&& Int32.toUInt32 31)).toInt32)).toUInt32 >>> ((16 : Int32).toUInt32 &&& Int32.toUInt32 31)).toInt32))]) (dget dJ6_bitCount_0f7a4 37 rfl) rfl (by decide) rfl ?_
  refine tq_iload_n 0 (dget dJ6_bitCount_0f7a4 38 rfl) rfl rfl ?_
  refine tq_bipush (v := 63) (dget dJ6_bitCount_0f7a4 39 rfl) rfl ?_
  refine tq_iand (dget dJ6_bitCount_0f7a4 40 rfl) ?_
  exact tq_iret rfl (dget dJ6_bitCount_0f7a4 41 rfl) ⟨_, rfl, rfl, rfl⟩
set_option maxHeartbeats 4000000 in
set_option maxRecDepth 20000 in
theorem c_bringsTo_loop (σ : Mem) (S M m told set : Nat) (hV : VA σ S M) (hm4 : m < 4) (ht : told < 6) (hset : set < 64) (d : Nat) (hd : 2 ≤ d) : ∀ (n : Nat) (k : Nat) (hm : S < k + n) (hk : k ≤ S) (hI : ∀ j, j < k → bitN set j = true → ansF (σ 1 2) (σ 2 m) (σ (4 + m) j) (nI (cntN set j)) = 3), PAt (EM d (Pi (fun v σ2 => BP (brP (σ 1 2) (σ 2 m) (fun s => σ (4 + m) s) S told set) v ∧ σ2 = σ))) mX6_bringsTo 6 [(5, .int (nI k)), (4, .int (nI (cntN set k))), (0, .ref 1), (1, .int (nI m)), (2, .int (nI told)), (3, .int (nI set))] [] σ := by
  obtain ⟨d, rfl⟩ : ∃ e, d = e + 1 := ⟨d - 1, by omega⟩
  intro n
  induction n with
  | zero => intro k hm hk hI; exact absurd hm (by omega)
  | succ n ih =>
    intro k hm hk hI
    obtain ⟨v1, v2, v3, v4⟩ := hV
    have hc6 := cntN_le set k
    refine tq_iload 0 (dget dX6_bringsTo 4 rfl) rfl ?_
    refine tq_aload_n 2 (dget dX6_bringsTo 5 rfl) rfl rfl ?_
    refine tq_getI (dget dX6_bringsTo 6 rfl) fX6_27 rfl rfl ?_
    refine tq_icmp_ge (tgt := 49) (dget dX6_bringsTo 7 rfl) (by decide) (fun c_12 => ?_) (fun c_12 => ?_)
    · rw [v1] at c_12
      have g_12 := kle (by omega) (by omega) c_12
      have g_13 : k = S := by omega
      subst g_13
      refine tq_aload_n 2 (dget dX6_bringsTo 27 rfl) rfl rfl ?_
      refine tq_iload_n 3 (dget dX6_bringsTo 28 rfl) rfl rfl ?_
      refine tq_iload_n 4 (dget dX6_bringsTo 29 rfl) rfl rfl ?_
      refine tq_iload 1 (dget dX6_bringsTo 30 rfl) rfl ?_
      refine mq_Vi (As := [.int (nI m), .int (nI told), .int (nI (cntN set k))]) (rest := []) (dget dX6_bringsTo 31 rfl) lX6_59 miX6_answer (c_answer σ m told (nI (cntN set k)) d (by omega) (by omega) (by omega)) rfl rfl rfl rfl (Nat.le_of_ble_eq_true rfl) (Nat.le_of_ble_eq_true rfl) (fun r_54 σ_54 h_54 => ?_)
      obtain ⟨a_54, e_54⟩ := h_54
      obtain rfl := a_54.symm
      obtain rfl := e_54.symm
      refine tq_iconst (v := 3) (dget dX6_bringsTo 32 rfl) rfl ?_
      refine tq_icmp_eq (tgt := 65) (dget dX6_bringsTo 33 rfl) (by decide) (fun c_58 => ?_) (fun c_58 => ?_)
      · refine tq_iconst (v := 0) (dget dX6_bringsTo 36 rfl) rfl ?_
        exact tq_zret rfl rfl (dget dX6_bringsTo 37 rfl) ⟨_, rfl, BP.n (fun q => q.2 c_58), rfl⟩
      · refine tq_iconst (v := 1) (dget dX6_bringsTo 34 rfl) rfl ?_
        refine tq_goto (tgt := 66) (dget dX6_bringsTo 35 rfl) (by decide) ?_
        exact tq_zret rfl rfl (dget dX6_bringsTo 37 rfl) ⟨_, rfl, BP.y ⟨fun j hj hb => hI j hj hb, c_58⟩, rfl⟩
    · rw [v1] at c_12
      have g_12 := knle (by omega) (by omega) c_12
      refine tq_iload_n 5 (dget dX6_bringsTo 8 rfl) rfl rfl ?_
      refine tq_iload 0 (dget dX6_bringsTo 9 rfl) rfl ?_
      refine tq_ishr (dget dX6_bringsTo 10 rfl) ?_
      refine tq_iconst (v := 1) (dget dX6_bringsTo 11 rfl) rfl ?_
      refine tq_iand (dget dX6_bringsTo 12 rfl) ?_
      refine tq_eqi (y := (if bitN set k then 1 else 0)) (bit_and hset (by omega)) ?_
      refine tq_iconst (v := 1) (dget dX6_bringsTo 13 rfl) rfl ?_
      refine tq_icmp_ne (tgt := 43) (dget dX6_bringsTo 14 rfl) (by decide) (fun c_22 => ?_) (fun c_22 => ?_)
      · have g_22 : ¬ bitN set k = true := fun q => c_22 (by rw [q]; rfl)
        refine tq_iinc (v := (nI (k + 1))) (ls2 := [(5, .int (nI (k + 1))), (4, .int (nI (cntN set k))), (0, .ref 1), (1, .int (nI m)), (2, .int (nI told)), (3, .int (nI set))]) 0 (dget dX6_bringsTo 25 rfl) rfl (nI_1 k) (by decide) rfl ?_
        refine tq_goto (tgt := 6) (dget dX6_bringsTo 26 rfl) (by decide) ?_
        refine tq_sub [0, 1, 2, 3, 4, 5] (ls' := [(5, .int (nI (k + 1))), (4, .int (nI (cntN set k))), (0, .ref 1), (1, .int (nI m)), (2, .int (nI told)), (3, .int (nI set))]) rfl ?_
        rw [show nI (cntN set k) = nI (cntN set (k + 1)) by simp [cntN, g_22]]
        refine ih (k + 1) (by omega) (by omega) (fun j hj hb => ?_)
        by_cases e : j = k
        · subst e; exact absurd hb g_22
        · exact hI j (by omega) hb
      · have g_22 : bitN set k = true := by simpa using c_22
        refine tq_aload_n 2 (dget dX6_bringsTo 15 rfl) rfl rfl ?_
        refine tq_iload_n 3 (dget dX6_bringsTo 16 rfl) rfl rfl ?_
        refine tq_iload 0 (dget dX6_bringsTo 17 rfl) rfl ?_
        refine tq_iload 1 (dget dX6_bringsTo 18 rfl) rfl ?_
        refine mq_Vi (As := [.int (nI m), .int (nI k), .int (nI (cntN set k))]) (rest := []) (dget dX6_bringsTo 19 rfl) lX6_59 miX6_answer (c_answer σ m k (nI (cntN set k)) d (by omega) (by omega) (by omega)) rfl rfl rfl rfl (Nat.le_of_ble_eq_true rfl) (Nat.le_of_ble_eq_true rfl) (fun r_31 σ_31 h_31 => ?_)
        obtain ⟨a_31, e_31⟩ := h_31
        obtain rfl := a_31.symm
        obtain rfl := e_31.symm
        refine tq_iconst (v := 3) (dget dX6_bringsTo 20 rfl) rfl ?_
        refine tq_icmp_eq (tgt := 40) (dget dX6_bringsTo 21 rfl) (by decide) (fun c_35 => ?_) (fun c_35 => ?_)
        · refine tq_iinc (v := (nI (cntN set k + 1))) (ls2 := [(4, .int (nI (cntN set k + 1))), (5, .int (nI k)), (0, .ref 1), (1, .int (nI m)), (2, .int (nI told)), (3, .int (nI set))]) 1 (dget dX6_bringsTo 24 rfl) rfl (nI_1 _) (by decide) rfl ?_
          refine tq_iinc (v := (nI (k + 1))) (ls2 := [(5, .int (nI (k + 1))), (4, .int (nI (cntN set k + 1))), (0, .ref 1), (1, .int (nI m)), (2, .int (nI told)), (3, .int (nI set))]) 1 (dget dX6_bringsTo 25 rfl) rfl (nI_1 k) (by decide) rfl ?_
          refine tq_goto (tgt := 6) (dget dX6_bringsTo 26 rfl) (by decide) ?_
          refine tq_sub [0, 1, 2, 3, 4, 5] (ls' := [(5, .int (nI (k + 1))), (4, .int (nI (cntN set k + 1))), (0, .ref 1), (1, .int (nI m)), (2, .int (nI told)), (3, .int (nI set))]) rfl ?_
          rw [show cntN set k + 1 = cntN set (k + 1) by simp [cntN, g_22]]
          refine ih (k + 1) (by omega) (by omega) (fun j hj hb => ?_)
          by_cases e : j = k
          · subst e; exact c_35
          · exact hI j (by omega) hb
        · refine tq_iconst (v := 0) (dget dX6_bringsTo 22 rfl) rfl ?_
          exact tq_zret rfl rfl (dget dX6_bringsTo 23 rfl) ⟨_, rfl, BP.n (fun q => c_35 (q.1 k g_12 g_22)), rfl⟩
set_option maxHeartbeats 4000000 in
set_option maxRecDepth 20000 in
theorem c_bringsTo (σ : Mem) (S M m told set : Nat) (hV : VA σ S M) (hm4 : m < 4) (ht : told < 6) (hset : set < 64) (d : Nat) (hd : 2 ≤ d) : PMet d mX6_bringsTo [.ref 1, .int (nI m), .int (nI told), .int (nI set)] σ (Pi (fun v σ2 => BP (brP (σ 1 2) (σ 2 m) (fun s => σ (4 + m) s) S told set) v ∧ σ2 = σ)) := by
  obtain ⟨d, rfl⟩ : ∃ e, d = e + 1 := ⟨d - 1, by omega⟩
  refine PMet.start (ls0 := [(0, .ref 1), (1, .int (nI m)), (2, .int (nI told)), (3, .int (nI set))]) miX6_bringsTo.1 (Nat.le_of_ble_eq_true rfl) rfl ?_
  refine tq_iconst (v := 0) (dget dX6_bringsTo 0 rfl) rfl ?_
  refine tq_istore (ls2 := [(4, .int 0), (0, .ref 1), (1, .int (nI m)), (2, .int (nI told)), (3, .int (nI set))]) (dget dX6_bringsTo 1 rfl) (by decide) rfl ?_
  refine tq_iconst (v := 0) (dget dX6_bringsTo 2 rfl) rfl ?_
  refine tq_istore (ls2 := [(5, .int 0), (4, .int 0), (0, .ref 1), (1, .int (nI m)), (2, .int (nI told)), (3, .int (nI set))]) (dget dX6_bringsTo 3 rfl) (by decide) rfl ?_
  refine tq_sub [0, 1, 2, 3, 4, 5] (ls' := [(5, .int 0), (4, .int 0), (0, .ref 1), (1, .int (nI m)), (2, .int (nI told)), (3, .int (nI set))]) rfl ?_
  exact c_bringsTo_loop σ S M m told set hV hm4 ht hset (d + 1) (by omega) (S + 1) 0 (by omega) (by omega) (fun j hj => absurd hj (by omega))

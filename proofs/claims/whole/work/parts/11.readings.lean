/-! ===== readings ===== -/
def isoP (t kind r lk : Int32) : Prop := t = if mindF kind r ≤ lk then 1 else 0
def soL (σ : Mem) (C m s : Nat) (lk : Int32) : Prop := ∀ k, k < C → σ 22 k = nI m → σ 23 k = nI s → isoP (σ 25 k) (σ 2 m) (σ 24 k) lk
def soK (σ : Mem) (C m : Nat) (w : Nat → Nat) (kind : Int32) : Prop := ∀ k, k < C → σ 22 k = nI m → isoP (σ 25 k) kind (σ 24 k) (σ (4 + m) (w k))
def llP (P : Nat → Prop) (v : Int32) : Prop := (∃ j, j < 10 ∧ v = nI j ∧ P j ∧ ∀ i, i < j → ¬ P i) ∨ (v = -9 ∧ ∀ i, i < 10 → ¬ P i)
def glP (P : Nat → Prop) (v : Int32) : Prop := (∃ j, j < 10 ∧ v = nI j ∧ P j ∧ ∀ i, j < i → i < 10 → ¬ P i) ∨ (v = -9 ∧ ∀ i, i < 10 → ¬ P i)
noncomputable def ksF (P : Nat → Prop) : Nat → Int32
  | 0 => 0
  | k + 1 => @ite _ (P k) (Classical.propDecidable _) (ksF P k ||| (1 <<< (nI k &&& 31))) (ksF P k)
theorem ksF_y {P : Nat → Prop} {k : Nat} (h : P k) : ksF P (k + 1) = ksF P k ||| (1 <<< (nI k &&& 31)) := by rw [ksF, if_pos h]
theorem ksF_n {P : Nat → Prop} {k : Nat} (h : ¬ P k) : ksF P (k + 1) = ksF P k := by rw [ksF, if_neg h]

set_option maxHeartbeats 4000000 in
set_option maxRecDepth 20000 in
theorem c_isSo (σ : Mem) (k : Nat) (kind lk : Int32) (hk : k < 8) (d : Nat) (hd : 1 ≤ d) : PMet d mX3_isSo [.ref 21, .int (nI k), .int kind, .int lk] σ (Pi (fun v σ2 => BP (isoP (σ 25 k) kind (σ 24 k) lk) v ∧ σ2 = σ)) := by
  obtain ⟨d, rfl⟩ : ∃ e, d = e + 1 := ⟨d - 1, by omega⟩
  refine PMet.start (ls0 := [(0, .ref 21), (1, .int (nI k)), (2, .int kind), (3, .int lk)]) miX3_isSo.1 (Nat.le_of_ble_eq_true rfl) rfl ?_
  refine tq_aload_n 0 (dget dX3_isSo 0 rfl) rfl rfl ?_
  refine tq_getR (dget dX3_isSo 1 rfl) fX3_21 rfl rfl ?_
  refine tq_iload_n 1 (dget dX3_isSo 2 rfl) rfl rfl ?_
  refine tq_zaldN k (dget dX3_isSo 3 rfl) rfl (by decide) rfl (by omega) ?_
  refine tq_iload_n 3 (dget dX3_isSo 4 rfl) rfl rfl ?_
  refine tq_iload_n 2 (dget dX3_isSo 5 rfl) rfl rfl ?_
  refine tq_aload_n 0 (dget dX3_isSo 6 rfl) rfl rfl ?_
  refine tq_getR (dget dX3_isSo 7 rfl) fX3_18 rfl rfl ?_
  refine tq_iload_n 1 (dget dX3_isSo 8 rfl) rfl rfl ?_
  refine tq_ialdN k (dget dX3_isSo 9 rfl) rfl (by decide) rfl (by omega) ?_
  refine mq_Si (As := [.int kind, .int (σ 24 k)]) (rest := [.int lk, .int (σ 25 k)]) (dget dX3_isSo 10 rfl) lX3_50 miX6_mind (c_mind σ kind (σ 24 k) d (by omega)) rfl rfl (Nat.le_of_ble_eq_true rfl) (Nat.le_of_ble_eq_true rfl) (fun r_14 σ_14 h_14 => ?_)
  obtain ⟨a_14, e_14⟩ := h_14
  obtain rfl := a_14.symm
  obtain rfl := e_14.symm
  refine tq_icmp_lt (tgt := 24) (dget dX3_isSo 11 rfl) (by decide) (fun c_17 => ?_) (fun c_17 => ?_)
  · refine tq_iconst (v := 0) (dget dX3_isSo 14 rfl) rfl ?_
    refine tq_icmp_ne (tgt := 32) (dget dX3_isSo 15 rfl) (by decide) (fun c_25 => ?_) (fun c_25 => ?_)
    · refine tq_iconst (v := 0) (dget dX3_isSo 18 rfl) rfl ?_
      exact tq_zret rfl rfl (dget dX3_isSo 19 rfl) ⟨_, rfl, BP.n (by unfold isoP; rw [if_neg (Int32.not_le.mpr c_17)]; exact c_25), rfl⟩
    · refine tq_iconst (v := 1) (dget dX3_isSo 16 rfl) rfl ?_
      refine tq_goto (tgt := 33) (dget dX3_isSo 17 rfl) (by decide) ?_
      exact tq_zret rfl rfl (dget dX3_isSo 19 rfl) ⟨_, rfl, BP.y (by unfold isoP; rw [if_neg (Int32.not_le.mpr c_17)]; exact c_25), rfl⟩
  · refine tq_iconst (v := 1) (dget dX3_isSo 12 rfl) rfl ?_
    refine tq_goto (tgt := 25) (dget dX3_isSo 13 rfl) (by decide) ?_
    refine tq_icmp_ne (tgt := 32) (dget dX3_isSo 15 rfl) (by decide) (fun c_25 => ?_) (fun c_25 => ?_)
    · refine tq_iconst (v := 0) (dget dX3_isSo 18 rfl) rfl ?_
      exact tq_zret rfl rfl (dget dX3_isSo 19 rfl) ⟨_, rfl, BP.n (by unfold isoP; rw [if_pos (Int32.not_lt.mp c_17)]; exact c_25), rfl⟩
    · refine tq_iconst (v := 1) (dget dX3_isSo 16 rfl) rfl ?_
      refine tq_goto (tgt := 33) (dget dX3_isSo 17 rfl) (by decide) ?_
      exact tq_zret rfl rfl (dget dX3_isSo 19 rfl) ⟨_, rfl, BP.y (by unfold isoP; rw [if_pos (Int32.not_lt.mp c_17)]; exact c_25), rfl⟩
set_option maxHeartbeats 4000000 in
set_option maxRecDepth 20000 in
theorem c_soL_loop (σ : Mem) (C m : Nat) (hC : σ 21 4 = nI C) (hC8 : C ≤ 8) (hm4 : m < 4) (s : Nat) (lk : Int32) (d : Nat) (hd : 2 ≤ d) : ∀ (n : Nat) (k : Nat) (hm : C < k + n) (hk : k ≤ C) (hI : soL σ k m s lk), PAt (EM d (Pi (fun v σ2 => BP (soL σ C m s lk) v ∧ σ2 = σ))) mX3_areSoByLiking 3 [(5, .int (nI k)), (0, .ref 21), (1, .ref 1), (2, .int (nI m)), (3, .int (nI s)), (4, .int lk)] [] σ := by
  obtain ⟨d, rfl⟩ : ∃ e, d = e + 1 := ⟨d - 1, by omega⟩
  intro n
  induction n with
  | zero => intro k hm hk hI; exact absurd hm (by omega)
  | succ n ih =>
    intro k hm hk hI
    refine tq_iload 0 (dget dX3_areSoByLiking 2 rfl) rfl ?_
    refine tq_aload_n 1 (dget dX3_areSoByLiking 3 rfl) rfl rfl ?_
    refine tq_getI (dget dX3_areSoByLiking 4 rfl) fX3_25 rfl rfl ?_
    refine tq_icmp_ge (tgt := 59) (dget dX3_areSoByLiking 5 rfl) (by decide) (fun c_9 => ?_) (fun c_9 => ?_)
    · rw [hC] at c_9
      have g_9 := kle (by omega) (by omega) c_9
      refine tq_iconst (v := 1) (dget dX3_areSoByLiking 31 rfl) rfl ?_
      exact tq_zret rfl rfl (dget dX3_areSoByLiking 32 rfl) ⟨_, rfl, BP.y (fun j hj => hI j (by omega)), rfl⟩
    · rw [hC] at c_9
      have g_9 := knle (by omega) (by omega) c_9
      refine tq_aload_n 1 (dget dX3_areSoByLiking 6 rfl) rfl rfl ?_
      refine tq_getR (dget dX3_areSoByLiking 7 rfl) fX3_9 rfl rfl ?_
      refine tq_iload 0 (dget dX3_areSoByLiking 8 rfl) rfl ?_
      refine tq_ialdN k (dget dX3_areSoByLiking 9 rfl) rfl (by decide) rfl (by omega) ?_
      refine tq_iload_n 3 (dget dX3_areSoByLiking 10 rfl) rfl rfl ?_
      refine tq_icmp_ne (tgt := 53) (dget dX3_areSoByLiking 11 rfl) (by decide) (fun c_20 => ?_) (fun c_20 => ?_)
      · refine tq_iinc (v := (nI (k + 1))) (ls2 := [(5, .int (nI (k + 1))), (0, .ref 21), (1, .ref 1), (2, .int (nI m)), (3, .int (nI s)), (4, .int lk)]) 0 (dget dX3_areSoByLiking 29 rfl) rfl (nI_1 k) (by decide) rfl ?_
        refine tq_goto (tgt := 3) (dget dX3_areSoByLiking 30 rfl) (by decide) ?_
        refine tq_sub [0, 1, 2, 3, 4, 5] (ls' := [(5, .int (nI (k + 1))), (0, .ref 21), (1, .ref 1), (2, .int (nI m)), (3, .int (nI s)), (4, .int lk)]) rfl ?_
        refine ih (k + 1) (by omega) (by omega) (fun j hj h1 h2 => ?_)
        by_cases e1 : k = j
        · subst e1; exact absurd h1 c_20
        · exact hI j (by omega) h1 h2
      · refine tq_aload_n 1 (dget dX3_areSoByLiking 12 rfl) rfl rfl ?_
        refine tq_getR (dget dX3_areSoByLiking 13 rfl) fX3_15 rfl rfl ?_
        refine tq_iload 0 (dget dX3_areSoByLiking 14 rfl) rfl ?_
        refine tq_ialdN k (dget dX3_areSoByLiking 15 rfl) rfl (by decide) rfl (by omega) ?_
        refine tq_iload_n 4 (dget dX3_areSoByLiking 16 rfl) rfl rfl ?_
        refine tq_icmp_ne (tgt := 53) (dget dX3_areSoByLiking 17 rfl) (by decide) (fun c_31 => ?_) (fun c_31 => ?_)
        · refine tq_iinc (v := (nI (k + 1))) (ls2 := [(5, .int (nI (k + 1))), (0, .ref 21), (1, .ref 1), (2, .int (nI m)), (3, .int (nI s)), (4, .int lk)]) 0 (dget dX3_areSoByLiking 29 rfl) rfl (nI_1 k) (by decide) rfl ?_
          refine tq_goto (tgt := 3) (dget dX3_areSoByLiking 30 rfl) (by decide) ?_
          refine tq_sub [0, 1, 2, 3, 4, 5] (ls' := [(5, .int (nI (k + 1))), (0, .ref 21), (1, .ref 1), (2, .int (nI m)), (3, .int (nI s)), (4, .int lk)]) rfl ?_
          refine ih (k + 1) (by omega) (by omega) (fun j hj h1 h2 => ?_)
          by_cases e1 : k = j
          · subst e1; exact absurd h2 c_31
          · exact hI j (by omega) h1 h2
        · refine tq_aload_n 1 (dget dX3_areSoByLiking 18 rfl) rfl rfl ?_
          refine tq_iload 0 (dget dX3_areSoByLiking 19 rfl) rfl ?_
          refine tq_aload_n 2 (dget dX3_areSoByLiking 20 rfl) rfl rfl ?_
          refine tq_getR (dget dX3_areSoByLiking 21 rfl) fX3_37 rfl rfl ?_
          refine tq_iload_n 3 (dget dX3_areSoByLiking 22 rfl) rfl rfl ?_
          refine tq_ialdN m (dget dX3_areSoByLiking 23 rfl) rfl (by decide) rfl (by omega) ?_
          refine tq_iload 5 (dget dX3_areSoByLiking 24 rfl) rfl ?_
          refine mq_Vi (As := [.int (nI k), .int (σ 2 m), .int lk]) (rest := []) (dget dX3_areSoByLiking 25 rfl) lX3_42 miX3_isSo (c_isSo σ k (σ 2 m) lk (by omega) d (by omega)) rfl rfl rfl rfl (Nat.le_of_ble_eq_true rfl) (Nat.le_of_ble_eq_true rfl) (fun r_45 σ_45 h_45 => ?_)
          obtain ⟨b_45, e_45⟩ := h_45
          obtain rfl := e_45.symm
          refine tq_if_ne (tgt := 53) (dget dX3_areSoByLiking 26 rfl) (by decide) (fun c_48 => ?_) (fun c_48 => ?_)
          · refine tq_iinc (v := (nI (k + 1))) (ls2 := [(5, .int (nI (k + 1))), (0, .ref 21), (1, .ref 1), (2, .int (nI m)), (3, .int (nI s)), (4, .int lk)]) 0 (dget dX3_areSoByLiking 29 rfl) rfl (nI_1 k) (by decide) rfl ?_
            refine tq_goto (tgt := 3) (dget dX3_areSoByLiking 30 rfl) (by decide) ?_
            refine tq_sub [0, 1, 2, 3, 4, 5] (ls' := [(5, .int (nI (k + 1))), (0, .ref 21), (1, .ref 1), (2, .int (nI m)), (3, .int (nI s)), (4, .int lk)]) rfl ?_
            refine ih (k + 1) (by omega) (by omega) (fun j hj h1 h2 => ?_)
            by_cases e1 : k = j
            · subst e1; exact b_45.t c_48
            · exact hI j (by omega) h1 h2
          · refine tq_iconst (v := 0) (dget dX3_areSoByLiking 27 rfl) rfl ?_
            exact tq_zret rfl rfl (dget dX3_areSoByLiking 28 rfl) ⟨_, rfl, BP.n (fun q => b_45.f c_48 (q k g_9 c_20 c_31)), rfl⟩
set_option maxHeartbeats 4000000 in
set_option maxRecDepth 20000 in
theorem c_soL (σ : Mem) (C m : Nat) (hC : σ 21 4 = nI C) (hC8 : C ≤ 8) (hm4 : m < 4) (s : Nat) (lk : Int32) (d : Nat) (hd : 2 ≤ d) : PMet d mX3_areSoByLiking [.ref 21, .ref 1, .int (nI m), .int (nI s), .int lk] σ (Pi (fun v σ2 => BP (soL σ C m s lk) v ∧ σ2 = σ)) := by
  obtain ⟨d, rfl⟩ : ∃ e, d = e + 1 := ⟨d - 1, by omega⟩
  refine PMet.start (ls0 := [(0, .ref 21), (1, .ref 1), (2, .int (nI m)), (3, .int (nI s)), (4, .int lk)]) miX3_areSoByLiking.1 (Nat.le_of_ble_eq_true rfl) rfl ?_
  refine tq_iconst (v := 0) (dget dX3_areSoByLiking 0 rfl) rfl ?_
  refine tq_istore (ls2 := [(5, .int 0), (0, .ref 21), (1, .ref 1), (2, .int (nI m)), (3, .int (nI s)), (4, .int lk)]) (dget dX3_areSoByLiking 1 rfl) (by decide) rfl ?_
  refine tq_sub [0, 1, 2, 3, 4, 5] (ls' := [(5, .int 0), (0, .ref 21), (1, .ref 1), (2, .int (nI m)), (3, .int (nI s)), (4, .int lk)]) rfl ?_
  exact c_soL_loop σ C m hC hC8 hm4 s lk (d + 1) (by omega) (C + 1) 0 (by omega) (by omega) (fun j hj => absurd hj (by omega))
set_option maxHeartbeats 4000000 in
set_option maxRecDepth 20000 in
theorem c_soK_loop (σ : Mem) (C m : Nat) (hC : σ 21 4 = nI C) (hC8 : C ≤ 8) (hm4 : m < 4) (w : Nat → Nat) (hw : ∀ k, k < C → σ 23 k = nI (w k) ∧ w k < 6) (kind : Int32) (d : Nat) (hd : 2 ≤ d) : ∀ (n : Nat) (k : Nat) (hm : C < k + n) (hk : k ≤ C) (hI : soK σ k m w kind), PAt (EM d (Pi (fun v σ2 => BP (soK σ C m w kind) v ∧ σ2 = σ))) mX3_areSoByKind 3 [(4, .int (nI k)), (0, .ref 21), (1, .ref 1), (2, .int (nI m)), (3, .int kind)] [] σ := by
  obtain ⟨d, rfl⟩ : ∃ e, d = e + 1 := ⟨d - 1, by omega⟩
  intro n
  induction n with
  | zero => intro k hm hk hI; exact absurd hm (by omega)
  | succ n ih =>
    intro k hm hk hI
    refine tq_iload 0 (dget dX3_areSoByKind 2 rfl) rfl ?_
    refine tq_aload_n 1 (dget dX3_areSoByKind 3 rfl) rfl rfl ?_
    refine tq_getI (dget dX3_areSoByKind 4 rfl) fX3_25 rfl rfl ?_
    refine tq_icmp_ge (tgt := 55) (dget dX3_areSoByKind 5 rfl) (by decide) (fun c_9 => ?_) (fun c_9 => ?_)
    · rw [hC] at c_9
      have g_9 := kle (by omega) (by omega) c_9
      refine tq_iconst (v := 1) (dget dX3_areSoByKind 30 rfl) rfl ?_
      exact tq_zret rfl rfl (dget dX3_areSoByKind 31 rfl) ⟨_, rfl, BP.y (fun j hj => hI j (by omega)), rfl⟩
    · rw [hC] at c_9
      have g_9 := knle (by omega) (by omega) c_9
      refine tq_aload_n 1 (dget dX3_areSoByKind 6 rfl) rfl rfl ?_
      refine tq_getR (dget dX3_areSoByKind 7 rfl) fX3_9 rfl rfl ?_
      refine tq_iload 0 (dget dX3_areSoByKind 8 rfl) rfl ?_
      refine tq_ialdN k (dget dX3_areSoByKind 9 rfl) rfl (by decide) rfl (by omega) ?_
      refine tq_iload_n 3 (dget dX3_areSoByKind 10 rfl) rfl rfl ?_
      refine tq_icmp_ne (tgt := 49) (dget dX3_areSoByKind 11 rfl) (by decide) (fun c_20 => ?_) (fun c_20 => ?_)
      · refine tq_iinc (v := (nI (k + 1))) (ls2 := [(4, .int (nI (k + 1))), (0, .ref 21), (1, .ref 1), (2, .int (nI m)), (3, .int kind)]) 0 (dget dX3_areSoByKind 28 rfl) rfl (nI_1 k) (by decide) rfl ?_
        refine tq_goto (tgt := 3) (dget dX3_areSoByKind 29 rfl) (by decide) ?_
        refine tq_sub [0, 1, 2, 3, 4] (ls' := [(4, .int (nI (k + 1))), (0, .ref 21), (1, .ref 1), (2, .int (nI m)), (3, .int kind)]) rfl ?_
        refine ih (k + 1) (by omega) (by omega) (fun j hj h1 => ?_)
        by_cases e1 : k = j
        · subst e1; exact absurd h1 c_20
        · exact hI j (by omega) h1
      · refine tq_aload_n 1 (dget dX3_areSoByKind 12 rfl) rfl rfl ?_
        refine tq_iload 0 (dget dX3_areSoByKind 13 rfl) rfl ?_
        refine tq_iload_n 4 (dget dX3_areSoByKind 14 rfl) rfl rfl ?_
        refine tq_aload_n 2 (dget dX3_areSoByKind 15 rfl) rfl rfl ?_
        refine tq_getR (dget dX3_areSoByKind 16 rfl) fX3_46 rfl rfl ?_
        refine tq_iload_n 3 (dget dX3_areSoByKind 17 rfl) rfl rfl ?_
        refine tq_hers m (dget dX3_areSoByKind 18 rfl) rfl (by omega) ?_
        refine tq_aload_n 1 (dget dX3_areSoByKind 19 rfl) rfl rfl ?_
        refine tq_getR (dget dX3_areSoByKind 20 rfl) fX3_15 rfl rfl ?_
        refine tq_iload 0 (dget dX3_areSoByKind 21 rfl) rfl ?_
        refine tq_ialdN k (dget dX3_areSoByKind 22 rfl) rfl (by decide) rfl (by omega) ?_
        refine tq_ialdN (w k) (dget dX3_areSoByKind 23 rfl) (SH_hers (by omega)) (by decide) (hw k g_9).1 (hw k g_9).2 ?_
        refine mq_Vi (As := [.int (nI k), .int kind, .int (σ (4 + m) (w k))]) (rest := []) (dget dX3_areSoByKind 24 rfl) lX3_42 miX3_isSo (c_isSo σ k kind (σ (4 + m) (w k)) (by omega) d (by omega)) rfl rfl rfl rfl (Nat.le_of_ble_eq_true rfl) (Nat.le_of_ble_eq_true rfl) (fun r_41 σ_41 h_41 => ?_)
        obtain ⟨b_41, e_41⟩ := h_41
        obtain rfl := e_41.symm
        refine tq_if_ne (tgt := 49) (dget dX3_areSoByKind 25 rfl) (by decide) (fun c_44 => ?_) (fun c_44 => ?_)
        · refine tq_iinc (v := (nI (k + 1))) (ls2 := [(4, .int (nI (k + 1))), (0, .ref 21), (1, .ref 1), (2, .int (nI m)), (3, .int kind)]) 0 (dget dX3_areSoByKind 28 rfl) rfl (nI_1 k) (by decide) rfl ?_
          refine tq_goto (tgt := 3) (dget dX3_areSoByKind 29 rfl) (by decide) ?_
          refine tq_sub [0, 1, 2, 3, 4] (ls' := [(4, .int (nI (k + 1))), (0, .ref 21), (1, .ref 1), (2, .int (nI m)), (3, .int kind)]) rfl ?_
          refine ih (k + 1) (by omega) (by omega) (fun j hj h1 => ?_)
          by_cases e1 : k = j
          · subst e1; exact b_41.t c_44
          · exact hI j (by omega) h1
        · refine tq_iconst (v := 0) (dget dX3_areSoByKind 26 rfl) rfl ?_
          exact tq_zret rfl rfl (dget dX3_areSoByKind 27 rfl) ⟨_, rfl, BP.n (fun q => b_41.f c_44 (q k g_9 c_20)), rfl⟩
set_option maxHeartbeats 4000000 in
set_option maxRecDepth 20000 in
theorem c_soK (σ : Mem) (C m : Nat) (hC : σ 21 4 = nI C) (hC8 : C ≤ 8) (hm4 : m < 4) (w : Nat → Nat) (hw : ∀ k, k < C → σ 23 k = nI (w k) ∧ w k < 6) (kind : Int32) (d : Nat) (hd : 2 ≤ d) : PMet d mX3_areSoByKind [.ref 21, .ref 1, .int (nI m), .int kind] σ (Pi (fun v σ2 => BP (soK σ C m w kind) v ∧ σ2 = σ)) := by
  obtain ⟨d, rfl⟩ : ∃ e, d = e + 1 := ⟨d - 1, by omega⟩
  refine PMet.start (ls0 := [(0, .ref 21), (1, .ref 1), (2, .int (nI m)), (3, .int kind)]) miX3_areSoByKind.1 (Nat.le_of_ble_eq_true rfl) rfl ?_
  refine tq_iconst (v := 0) (dget dX3_areSoByKind 0 rfl) rfl ?_
  refine tq_istore (ls2 := [(4, .int 0), (0, .ref 21), (1, .ref 1), (2, .int (nI m)), (3, .int kind)]) (dget dX3_areSoByKind 1 rfl) (by decide) rfl ?_
  refine tq_sub [0, 1, 2, 3, 4] (ls' := [(4, .int 0), (0, .ref 21), (1, .ref 1), (2, .int (nI m)), (3, .int kind)]) rfl ?_
  exact c_soK_loop σ C m hC hC8 hm4 w hw kind (d + 1) (by omega) (C + 1) 0 (by omega) (by omega) (fun j hj => absurd hj (by omega))
set_option maxHeartbeats 4000000 in
set_option maxRecDepth 20000 in
theorem c_least_loop (σ : Mem) (C m : Nat) (hC : σ 21 4 = nI C) (hC8 : C ≤ 8) (hm4 : m < 4) (s : Nat) (d : Nat) (hd : 3 ≤ d) : ∀ (n : Nat) (k : Nat) (hm : 10 < k + n) (hk : k ≤ 10) (hI : ∀ i, i < k → ¬ (fun j => soL σ C m s (nI j)) i), PAt (EM d (Pi (fun v σ2 => llP (fun j => soL σ C m s (nI j)) v ∧ σ2 = σ))) mX3_leastLiking 3 [(4, .int (nI k)), (0, .ref 21), (1, .ref 1), (2, .int (nI m)), (3, .int (nI s))] [] σ := by
  obtain ⟨d, rfl⟩ : ∃ e, d = e + 1 := ⟨d - 1, by omega⟩
  intro n
  induction n with
  | zero => intro k hm hk hI; exact absurd hm (by omega)
  | succ n ih =>
    intro k hm hk hI
    refine tq_iload 0 (dget dX3_leastLiking 2 rfl) rfl ?_
    refine tq_bipush (v := 9) (dget dX3_leastLiking 3 rfl) rfl ?_
    refine tq_icmp_gt (tgt := 31) (dget dX3_leastLiking 4 rfl) (by decide) (fun c_7 => ?_) (fun c_7 => ?_)
    · have g_7 := klt (a := 9) (by omega) (by omega) c_7
      refine tq_bipush (v := (-9)) (dget dX3_leastLiking 16 rfl) rfl ?_
      exact tq_iret rfl (dget dX3_leastLiking 17 rfl) ⟨_, rfl, Or.inr ⟨rfl, fun i hi => hI i (by omega)⟩, rfl⟩
    · have g_7 := knlt (a := 9) (by omega) (by omega) c_7
      refine tq_aload_n 1 (dget dX3_leastLiking 5 rfl) rfl rfl ?_
      refine tq_aload_n 2 (dget dX3_leastLiking 6 rfl) rfl rfl ?_
      refine tq_iload_n 3 (dget dX3_leastLiking 7 rfl) rfl rfl ?_
      refine tq_iload_n 4 (dget dX3_leastLiking 8 rfl) rfl rfl ?_
      refine tq_iload 0 (dget dX3_leastLiking 9 rfl) rfl ?_
      refine mq_Vi (As := [.ref 1, .int (nI m), .int (nI s), .int (nI k)]) (rest := []) (dget dX3_leastLiking 10 rfl) lX3_29 miX3_areSoByLiking (c_soL σ C m hC hC8 hm4 s (nI k) d (by omega)) rfl rfl rfl rfl (Nat.le_of_ble_eq_true rfl) (Nat.le_of_ble_eq_true rfl) (fun r_16 σ_16 h_16 => ?_)
      obtain ⟨b_16, e_16⟩ := h_16
      obtain rfl := e_16.symm
      refine tq_if_eq (tgt := 25) (dget dX3_leastLiking 11 rfl) (by decide) (fun c_19 => ?_) (fun c_19 => ?_)
      · refine tq_iinc (v := (nI (k + 1))) (ls2 := [(4, .int (nI (k + 1))), (0, .ref 21), (1, .ref 1), (2, .int (nI m)), (3, .int (nI s))]) 0 (dget dX3_leastLiking 14 rfl) rfl (nI_1 k) (by decide) rfl ?_
        refine tq_goto (tgt := 3) (dget dX3_leastLiking 15 rfl) (by decide) ?_
        refine tq_sub [0, 1, 2, 3, 4] (ls' := [(4, .int (nI (k + 1))), (0, .ref 21), (1, .ref 1), (2, .int (nI m)), (3, .int (nI s))]) rfl ?_
        refine ih (k + 1) (by omega) (by omega) (fun i hi => ?_)
        by_cases e1 : k = i
        · subst e1; exact b_16.f c_19
        · exact hI i (by omega)
      · refine tq_iload 0 (dget dX3_leastLiking 12 rfl) rfl ?_
        exact tq_iret rfl (dget dX3_leastLiking 13 rfl) ⟨_, rfl, Or.inl ⟨k, by omega, rfl, b_16.t c_19, hI⟩, rfl⟩
set_option maxHeartbeats 4000000 in
set_option maxRecDepth 20000 in
theorem c_least (σ : Mem) (C m : Nat) (hC : σ 21 4 = nI C) (hC8 : C ≤ 8) (hm4 : m < 4) (s : Nat) (d : Nat) (hd : 3 ≤ d) : PMet d mX3_leastLiking [.ref 21, .ref 1, .int (nI m), .int (nI s)] σ (Pi (fun v σ2 => llP (fun j => soL σ C m s (nI j)) v ∧ σ2 = σ)) := by
  obtain ⟨d, rfl⟩ : ∃ e, d = e + 1 := ⟨d - 1, by omega⟩
  refine PMet.start (ls0 := [(0, .ref 21), (1, .ref 1), (2, .int (nI m)), (3, .int (nI s))]) miX3_leastLiking.1 (Nat.le_of_ble_eq_true rfl) rfl ?_
  refine tq_iconst (v := 0) (dget dX3_leastLiking 0 rfl) rfl ?_
  refine tq_istore (ls2 := [(4, .int 0), (0, .ref 21), (1, .ref 1), (2, .int (nI m)), (3, .int (nI s))]) (dget dX3_leastLiking 1 rfl) (by decide) rfl ?_
  refine tq_sub [0, 1, 2, 3, 4] (ls' := [(4, .int 0), (0, .ref 21), (1, .ref 1), (2, .int (nI m)), (3, .int (nI s))]) rfl ?_
  exact c_least_loop σ C m hC hC8 hm4 s (d + 1) (by omega) 11 0 (by omega) (by omega) (fun j hj => absurd hj (by omega))
set_option maxHeartbeats 4000000 in
set_option maxRecDepth 20000 in
theorem c_greatest_loop (σ : Mem) (C m : Nat) (hC : σ 21 4 = nI C) (hC8 : C ≤ 8) (hm4 : m < 4) (s : Nat) (d : Nat) (hd : 3 ≤ d) : ∀ (n : Nat) (k : Nat) (hm : k < n) (hk : k ≤ 10) (hI : ∀ i, k ≤ i → i < 10 → ¬ (fun j => soL σ C m s (nI j)) i), PAt (EM d (Pi (fun v σ2 => glP (fun j => soL σ C m s (nI j)) v ∧ σ2 = σ))) mX3_greatestLiking 4 [(4, .int (nI k - 1)), (0, .ref 21), (1, .ref 1), (2, .int (nI m)), (3, .int (nI s))] [] σ := by
  obtain ⟨d, rfl⟩ : ∃ e, d = e + 1 := ⟨d - 1, by omega⟩
  intro n
  induction n with
  | zero => intro k hm hk hI; exact absurd hm (by omega)
  | succ n ih =>
    intro k hm hk hI
    refine tq_iload 0 (dget dX3_greatestLiking 2 rfl) rfl ?_
    refine tq_if_lt (tgt := 30) (dget dX3_greatestLiking 3 rfl) (by decide) (fun c_6 => ?_) (fun c_6 => ?_)
    · have g_6 : k = 0 := by by_cases z : k = 0; exact z; exact absurd c_6 (by obtain ⟨j, rfl⟩ : ∃ j, k = j + 1 := ⟨k - 1, by omega⟩; rw [nI_pred]; exact nI_pos (by omega))
      refine tq_bipush (v := (-9)) (dget dX3_greatestLiking 15 rfl) rfl ?_
      exact tq_iret rfl (dget dX3_greatestLiking 16 rfl) ⟨_, rfl, Or.inr ⟨rfl, fun i hi => hI i (by omega) hi⟩, rfl⟩
    · have g_6 : ¬ k = 0 := fun z => c_6 (by rw [z]; decide)
      obtain ⟨j0, rfl⟩ : ∃ j, k = j + 1 := ⟨k - 1, by omega⟩
      refine tq_sub [0, 1, 2, 3, 4] (ls' := [(4, .int (nI j0)), (0, .ref 21), (1, .ref 1), (2, .int (nI m)), (3, .int (nI s))]) (by rw [nI_pred]; rfl) ?_
      refine tq_aload_n 1 (dget dX3_greatestLiking 4 rfl) rfl rfl ?_
      refine tq_aload_n 2 (dget dX3_greatestLiking 5 rfl) rfl rfl ?_
      refine tq_iload_n 3 (dget dX3_greatestLiking 6 rfl) rfl rfl ?_
      refine tq_iload_n 4 (dget dX3_greatestLiking 7 rfl) rfl rfl ?_
      refine tq_iload 0 (dget dX3_greatestLiking 8 rfl) rfl ?_
      refine mq_Vi (As := [.ref 1, .int (nI m), .int (nI s), .int (nI j0)]) (rest := []) (dget dX3_greatestLiking 9 rfl) lX3_29 miX3_areSoByLiking (c_soL σ C m hC hC8 hm4 s (nI j0) d (by omega)) rfl rfl rfl rfl (Nat.le_of_ble_eq_true rfl) (Nat.le_of_ble_eq_true rfl) (fun r_15 σ_15 h_15 => ?_)
      obtain ⟨b_15, e_15⟩ := h_15
      obtain rfl := e_15.symm
      refine tq_if_eq (tgt := 24) (dget dX3_greatestLiking 10 rfl) (by decide) (fun c_18 => ?_) (fun c_18 => ?_)
      · refine tq_iinc (v := ((nI j0) + (-1))) (ls2 := [(4, .int ((nI j0) + (-1))), (0, .ref 21), (1, .ref 1), (2, .int (nI m)), (3, .int (nI s))]) 0 (dget dX3_greatestLiking 13 rfl) rfl rfl (by decide) rfl ?_
        refine tq_goto (tgt := 4) (dget dX3_greatestLiking 14 rfl) (by decide) ?_
        refine tq_sub [0, 1, 2, 3, 4] (ls' := [(4, .int ((nI j0) + (-1))), (0, .ref 21), (1, .ref 1), (2, .int (nI m)), (3, .int (nI s))]) rfl ?_
        rw [show nI j0 + -1 = nI j0 - 1 from (Int32.sub_eq_add_neg _ _).symm]
        refine ih j0 (by omega) (by omega) (fun i hi h10 => ?_)
        by_cases e1 : j0 = i
        · subst e1; exact b_15.f c_18
        · exact hI i (by omega) h10
      · refine tq_iload 0 (dget dX3_greatestLiking 11 rfl) rfl ?_
        exact tq_iret rfl (dget dX3_greatestLiking 12 rfl) ⟨_, rfl, Or.inl ⟨j0, by omega, rfl, b_15.t c_18, fun i hi h10 => hI i (by omega) h10⟩, rfl⟩
set_option maxHeartbeats 4000000 in
set_option maxRecDepth 20000 in
theorem c_greatest (σ : Mem) (C m : Nat) (hC : σ 21 4 = nI C) (hC8 : C ≤ 8) (hm4 : m < 4) (s : Nat) (d : Nat) (hd : 3 ≤ d) : PMet d mX3_greatestLiking [.ref 21, .ref 1, .int (nI m), .int (nI s)] σ (Pi (fun v σ2 => glP (fun j => soL σ C m s (nI j)) v ∧ σ2 = σ)) := by
  obtain ⟨d, rfl⟩ : ∃ e, d = e + 1 := ⟨d - 1, by omega⟩
  refine PMet.start (ls0 := [(0, .ref 21), (1, .ref 1), (2, .int (nI m)), (3, .int (nI s))]) miX3_greatestLiking.1 (Nat.le_of_ble_eq_true rfl) rfl ?_
  refine tq_bipush (v := 9) (dget dX3_greatestLiking 0 rfl) rfl ?_
  refine tq_istore (ls2 := [(4, .int 9), (0, .ref 21), (1, .ref 1), (2, .int (nI m)), (3, .int (nI s))]) (dget dX3_greatestLiking 1 rfl) (by decide) rfl ?_
  refine tq_sub [0, 1, 2, 3, 4] (ls' := [(4, .int 9), (0, .ref 21), (1, .ref 1), (2, .int (nI m)), (3, .int (nI s))]) rfl ?_
  rw [show (9 : Int32) = nI 10 - 1 from rfl]
  exact c_greatest_loop σ C m hC hC8 hm4 s (d + 1) (by omega) 11 10 (by omega) (by omega) (fun j hj h => absurd h (by omega))
set_option maxHeartbeats 4000000 in
set_option maxRecDepth 20000 in
theorem c_kindsOf_loop (σ : Mem) (C m : Nat) (hC : σ 21 4 = nI C) (hC8 : C ≤ 8) (hm4 : m < 4) (w : Nat → Nat) (hw : ∀ k, k < C → σ 23 k = nI (w k) ∧ w k < 6) (d : Nat) (hd : 3 ≤ d) : ∀ (n : Nat) (k : Nat) (hm : 3 < k + n) (hk : k ≤ 3), PAt (EM d (Pi (fun v σ2 => v = ksF (fun j => soK σ C m w (nI j)) 3 ∧ σ2 = σ))) mX3_kindsOf 5 [(4, .int (nI k)), (3, .int (ksF (fun j => soK σ C m w (nI j)) k)), (0, .ref 21), (1, .ref 1), (2, .int (nI m))] [] σ := by
  obtain ⟨d, rfl⟩ : ∃ e, d = e + 1 := ⟨d - 1, by omega⟩
  intro n
  induction n with
  | zero => intro k hm hk; exact absurd hm (by omega)
  | succ n ih =>
    intro k hm hk
    refine tq_iload 0 (dget dX3_kindsOf 4 rfl) rfl ?_
    refine tq_iconst (v := 3) (dget dX3_kindsOf 5 rfl) rfl ?_
    refine tq_icmp_ge (tgt := 35) (dget dX3_kindsOf 6 rfl) (by decide) (fun c_8 => ?_) (fun c_8 => ?_)
    · have g_8 := kle (a := 3) (by omega) (by omega) c_8
      have g_9 : k = 3 := by omega
      refine tq_iload_n 1 (dget dX3_kindsOf 21 rfl) rfl rfl ?_
      exact tq_iret rfl (dget dX3_kindsOf 22 rfl) ⟨_, rfl, by rw [g_9], rfl⟩
    · have g_8 := knle (a := 3) (by omega) (by omega) c_8
      refine tq_aload_n 2 (dget dX3_kindsOf 7 rfl) rfl rfl ?_
      refine tq_aload_n 3 (dget dX3_kindsOf 8 rfl) rfl rfl ?_
      refine tq_iload_n 4 (dget dX3_kindsOf 9 rfl) rfl rfl ?_
      refine tq_iload 0 (dget dX3_kindsOf 10 rfl) rfl ?_
      refine mq_Vi (As := [.ref 1, .int (nI m), .int (nI k)]) (rest := []) (dget dX3_kindsOf 11 rfl) lX3_33 miX3_areSoByKind (c_soK σ C m hC hC8 hm4 w hw (nI k) d (by omega)) rfl rfl rfl rfl (Nat.le_of_ble_eq_true rfl) (Nat.le_of_ble_eq_true rfl) (fun r_16 σ_16 h_16 => ?_)
      obtain ⟨b_16, e_16⟩ := h_16
      obtain rfl := e_16.symm
      refine tq_if_eq (tgt := 29) (dget dX3_kindsOf 12 rfl) (by decide) (fun c_19 => ?_) (fun c_19 => ?_)
      · refine tq_iinc (v := (nI (k + 1))) (ls2 := [(4, .int (nI (k + 1))), (3, .int (ksF (fun j => soK σ C m w (nI j)) k)), (0, .ref 21), (1, .ref 1), (2, .int (nI m))]) 0 (dget dX3_kindsOf 19 rfl) rfl (nI_1 k) (by decide) rfl ?_
        refine tq_goto (tgt := 5) (dget dX3_kindsOf 20 rfl) (by decide) ?_
        refine tq_sub [0, 1, 2, 3, 4] (ls' := [(4, .int (nI (k + 1))), (3, .int (ksF (fun j => soK σ C m w (nI j)) k)), (0, .ref 21), (1, .ref 1), (2, .int (nI m))]) rfl ?_
        rw [show ksF (fun j => soK σ C m w (nI j)) k = ksF (fun j => soK σ C m w (nI j)) (k + 1) from (ksF_n (b_16.f c_19)).symm]
        exact ih (k + 1) (by omega) (by omega)
      · refine tq_iload_n 1 (dget dX3_kindsOf 13 rfl) rfl rfl ?_
        refine tq_iconst (v := 1) (dget dX3_kindsOf 14 rfl) rfl ?_
        refine tq_iload 0 (dget dX3_kindsOf 15 rfl) rfl ?_
        refine tq_ishl (dget dX3_kindsOf 16 rfl) ?_
        refine tq_ior (dget dX3_kindsOf 17 rfl) ?_
        refine tq_istore_n (ls2 := [(3, .int ((ksF (fun j => soK σ C m w (nI j)) k) ||| (1 <<< ((nI k) &&& 31)))), (4, .int (nI k)), (0, .ref 21), (1, .ref 1), (2, .int (nI m))]) (dget dX3_kindsOf 18 rfl) rfl (by decide) rfl ?_
        refine tq_iinc (v := (nI (k + 1))) (ls2 := [(4, .int (nI (k + 1))), (3, .int ((ksF (fun j => soK σ C m w (nI j)) k) ||| (1 <<< ((nI k) &&& 31)))), (0, .ref 21), (1, .ref 1), (2, .int (nI m))]) 1 (dget dX3_kindsOf 19 rfl) rfl (nI_1 k) (by decide) rfl ?_
        refine tq_goto (tgt := 5) (dget dX3_kindsOf 20 rfl) (by decide) ?_
        refine tq_sub [0, 1, 2, 3, 4] (ls' := [(4, .int (nI (k + 1))), (3, .int ((ksF (fun j => soK σ C m w (nI j)) k) ||| (1 <<< ((nI k) &&& 31)))), (0, .ref 21), (1, .ref 1), (2, .int (nI m))]) rfl ?_
        rw [show (ksF (fun j => soK σ C m w (nI j)) k ||| (1 <<< (nI k &&& 31))) = ksF (fun j => soK σ C m w (nI j)) (k + 1) from (ksF_y (b_16.t c_19)).symm]
        exact ih (k + 1) (by omega) (by omega)
set_option maxHeartbeats 4000000 in
set_option maxRecDepth 20000 in
theorem c_kindsOf (σ : Mem) (C m : Nat) (hC : σ 21 4 = nI C) (hC8 : C ≤ 8) (hm4 : m < 4) (w : Nat → Nat) (hw : ∀ k, k < C → σ 23 k = nI (w k) ∧ w k < 6) (d : Nat) (hd : 3 ≤ d) : PMet d mX3_kindsOf [.ref 21, .ref 1, .int (nI m)] σ (Pi (fun v σ2 => v = ksF (fun j => soK σ C m w (nI j)) 3 ∧ σ2 = σ)) := by
  obtain ⟨d, rfl⟩ : ∃ e, d = e + 1 := ⟨d - 1, by omega⟩
  refine PMet.start (ls0 := [(0, .ref 21), (1, .ref 1), (2, .int (nI m))]) miX3_kindsOf.1 (Nat.le_of_ble_eq_true rfl) rfl ?_
  refine tq_iconst (v := 0) (dget dX3_kindsOf 0 rfl) rfl ?_
  refine tq_istore_n (ls2 := [(3, .int 0), (0, .ref 21), (1, .ref 1), (2, .int (nI m))]) (dget dX3_kindsOf 1 rfl) rfl (by decide) rfl ?_
  refine tq_iconst (v := 0) (dget dX3_kindsOf 2 rfl) rfl ?_
  refine tq_istore (ls2 := [(4, .int 0), (3, .int 0), (0, .ref 21), (1, .ref 1), (2, .int (nI m))]) (dget dX3_kindsOf 3 rfl) (by decide) rfl ?_
  refine tq_sub [0, 1, 2, 3, 4] (ls' := [(4, .int 0), (3, .int 0), (0, .ref 21), (1, .ref 1), (2, .int (nI m))]) rfl ?_
  exact c_kindsOf_loop σ C m hC hC8 hm4 w hw (d + 1) (by omega) 4 0 (by omega) (by omega)
set_option maxHeartbeats 4000000 in
set_option maxRecDepth 20000 in
theorem c_Radd (σ : Mem) (C : Nat) (m s r t : Int32) (hC : σ 21 4 = nI C) (hC8 : C < 8) (d : Nat) (hd : 0 ≤ d) : PMet d mX3_add [.ref 21, .int m, .int s, .int r, .int t] σ (Pi (fun v σ2 => v = nI C ∧ σ2 = up (up (up (up (up σ 22 C m) 23 C s) 24 C r) 25 C (vp_nar .boolean t)) 21 4 (nI (C + 1)))) := by
  refine PMet.start (ls0 := [(0, .ref 21), (1, .int m), (2, .int s), (3, .int r), (4, .int t)]) miX3_add.1 (Nat.le_of_ble_eq_true rfl) rfl ?_
  refine tq_aload_n 0 (dget dX3_add 0 rfl) rfl rfl ?_
  refine tq_getI (dget dX3_add 1 rfl) fX3_25 rfl rfl ?_
  refine tq_eqi (y := (nI C)) hC ?_
  refine tq_istore (ls2 := [(5, .int (nI C)), (0, .ref 21), (1, .int m), (2, .int s), (3, .int r), (4, .int t)]) (dget dX3_add 2 rfl) (by decide) rfl ?_
  refine tq_aload_n 1 (dget dX3_add 3 rfl) rfl rfl ?_
  refine tq_getR (dget dX3_add 4 rfl) fX3_9 rfl rfl ?_
  refine tq_iload 0 (dget dX3_add 5 rfl) rfl ?_
  refine tq_iload_n 2 (dget dX3_add 6 rfl) rfl rfl ?_
  refine tq_iastN C (dget dX3_add 7 rfl) rfl (by decide) rfl (by omega) ?_
  refine tq_aload_n 1 (dget dX3_add 8 rfl) rfl rfl ?_
  refine tq_getR (dget dX3_add 9 rfl) fX3_15 rfl rfl ?_
  refine tq_iload 0 (dget dX3_add 10 rfl) rfl ?_
  refine tq_iload_n 3 (dget dX3_add 11 rfl) rfl rfl ?_
  refine tq_iastN C (dget dX3_add 12 rfl) rfl (by decide) rfl (by omega) ?_
  refine tq_aload_n 1 (dget dX3_add 13 rfl) rfl rfl ?_
  refine tq_getR (dget dX3_add 14 rfl) fX3_18 rfl rfl ?_
  refine tq_iload 0 (dget dX3_add 15 rfl) rfl ?_
  refine tq_iload_n 4 (dget dX3_add 16 rfl) rfl rfl ?_
  refine tq_iastN C (dget dX3_add 17 rfl) rfl (by decide) rfl (by omega) ?_
  refine tq_aload_n 1 (dget dX3_add 18 rfl) rfl rfl ?_
  refine tq_getR (dget dX3_add 19 rfl) fX3_21 rfl rfl ?_
  refine tq_iload 0 (dget dX3_add 20 rfl) rfl ?_
  refine tq_iload 5 (dget dX3_add 21 rfl) rfl ?_
  refine tq_zastN C (dget dX3_add 22 rfl) rfl (by decide) rfl (by omega) ?_
  refine tq_aload_n 1 (dget dX3_add 23 rfl) rfl rfl ?_
  refine tq_dup (dget dX3_add 24 rfl) rfl ?_
  refine tq_getI (dget dX3_add 25 rfl) fX3_25 rfl rfl ?_
  refine tq_eqi (y := (nI C)) hC ?_
  refine tq_iconst (v := 1) (dget dX3_add 26 rfl) rfl ?_
  refine tq_iadd (dget dX3_add 27 rfl) ?_
  refine tq_eqi (y := (nI (C + 1))) (nI_1 C) ?_
  refine tq_putI (dget dX3_add 28 rfl) fX3_25 rfl rfl rfl rfl ?_
  refine tq_iload 0 (dget dX3_add 29 rfl) rfl ?_
  exact tq_iret rfl (dget dX3_add 30 rfl) ⟨_, rfl, rfl, rfl⟩

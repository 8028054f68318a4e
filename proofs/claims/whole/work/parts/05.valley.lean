/-! ===== pure words: truth as an int, a maid's mind, her answer ===== -/
def BP (P : Prop) (v : Int32) : Prop := (v = 1 ∧ P) ∨ (v = 0 ∧ ¬ P)
theorem BP.t {P : Prop} {v : Int32} (h : BP P v) (c : ¬ v = 0) : P := by
  rcases h with ⟨_, h⟩ | ⟨h, _⟩
  · exact h
  · exact absurd h c
theorem BP.f {P : Prop} {v : Int32} (h : BP P v) (c : v = 0) : ¬ P := by
  rcases h with ⟨h, _⟩ | ⟨_, h⟩
  · rw [h] at c; exact absurd c (by decide)
  · exact h
theorem BP.y {P : Prop} (h : P) : BP P 1 := Or.inl ⟨rfl, h⟩
theorem BP.n {P : Prop} (h : ¬ P) : BP P 0 := Or.inr ⟨rfl, h⟩
theorem BP.iff {P Q : Prop} {v : Int32} (h : BP P v) (e : P ↔ Q) : BP Q v := by
  rcases h with ⟨a, b⟩ | ⟨a, b⟩
  · exact Or.inl ⟨a, e.mp b⟩
  · exact Or.inr ⟨a, fun q => b (e.mpr q)⟩
def mindF (k r : Int32) : Int32 := if k = 1 then 7 else if k = 2 then 3 + r else 5
def ansF (law k lk r : Int32) : Int32 := if law ≤ r then 2 else if mindF k r ≤ lk then 1 else 3

set_option maxHeartbeats 4000000 in
set_option maxRecDepth 20000 in
theorem c_stands (σ : Mem) (d : Nat) (hd : 0 ≤ d) : PMet d mX6_stands [.ref 1] σ (Pi (fun v σ2 => BP (0 < σ 1 1) v ∧ σ2 = σ)) := by
  refine PMet.start (ls0 := [(0, .ref 1)]) miX6_stands.1 (Nat.le_of_ble_eq_true rfl) rfl ?_
  refine tq_aload_n 0 (dget dX6_stands 0 rfl) rfl rfl ?_
  refine tq_getI (dget dX6_stands 1 rfl) fX6_23 rfl rfl ?_
  refine tq_if_le (tgt := 11) (dget dX6_stands 2 rfl) (by decide) (fun c_4 => ?_) (fun c_4 => ?_)
  · refine tq_iconst (v := 0) (dget dX6_stands 5 rfl) rfl ?_
    exact tq_zret rfl rfl (dget dX6_stands 6 rfl) ⟨_, rfl, BP.n (Int32.not_lt.mpr c_4), rfl⟩
  · refine tq_iconst (v := 1) (dget dX6_stands 3 rfl) rfl ?_
    refine tq_goto (tgt := 12) (dget dX6_stands 4 rfl) (by decide) ?_
    exact tq_zret rfl rfl (dget dX6_stands 6 rfl) ⟨_, rfl, BP.y (Int32.not_le.mp c_4), rfl⟩
set_option maxHeartbeats 4000000 in
set_option maxRecDepth 20000 in
theorem c_hasMaid (σ : Mem) (x : Int32) (d : Nat) (hd : 0 ≤ d) : PMet d mX6_hasMaid [.ref 1, .int x] σ (Pi (fun v σ2 => BP (0 ≤ x ∧ x < σ 1 1) v ∧ σ2 = σ)) := by
  refine PMet.start (ls0 := [(0, .ref 1), (1, .int x)]) miX6_hasMaid.1 (Nat.le_of_ble_eq_true rfl) rfl ?_
  refine tq_iload_n 1 (dget dX6_hasMaid 0 rfl) rfl rfl ?_
  refine tq_if_lt (tgt := 16) (dget dX6_hasMaid 1 rfl) (by decide) (fun c_1 => ?_) (fun c_1 => ?_)
  · refine tq_iconst (v := 0) (dget dX6_hasMaid 8 rfl) rfl ?_
    exact tq_zret rfl rfl (dget dX6_hasMaid 9 rfl) ⟨_, rfl, BP.n (fun q => by first | exact absurd q.1 (Int32.not_le.mpr c_1) | exact absurd q.2 (Int32.not_lt.mpr c_9)), rfl⟩
  · refine tq_iload_n 1 (dget dX6_hasMaid 2 rfl) rfl rfl ?_
    refine tq_aload_n 0 (dget dX6_hasMaid 3 rfl) rfl rfl ?_
    refine tq_getI (dget dX6_hasMaid 4 rfl) fX6_23 rfl rfl ?_
    refine tq_icmp_ge (tgt := 16) (dget dX6_hasMaid 5 rfl) (by decide) (fun c_9 => ?_) (fun c_9 => ?_)
    · refine tq_iconst (v := 0) (dget dX6_hasMaid 8 rfl) rfl ?_
      exact tq_zret rfl rfl (dget dX6_hasMaid 9 rfl) ⟨_, rfl, BP.n (fun q => by first | exact absurd q.1 (Int32.not_le.mpr c_1) | exact absurd q.2 (Int32.not_lt.mpr c_9)), rfl⟩
    · refine tq_iconst (v := 1) (dget dX6_hasMaid 6 rfl) rfl ?_
      refine tq_goto (tgt := 17) (dget dX6_hasMaid 7 rfl) (by decide) ?_
      exact tq_zret rfl rfl (dget dX6_hasMaid 9 rfl) ⟨_, rfl, BP.y ⟨Int32.not_lt.mp c_1, Int32.not_le.mp c_9⟩, rfl⟩
set_option maxHeartbeats 4000000 in
set_option maxRecDepth 20000 in
theorem c_hasSuitor (σ : Mem) (x : Int32) (d : Nat) (hd : 0 ≤ d) : PMet d mX6_hasSuitor [.ref 1, .int x] σ (Pi (fun v σ2 => BP (0 ≤ x ∧ x < σ 1 0) v ∧ σ2 = σ)) := by
  refine PMet.start (ls0 := [(0, .ref 1), (1, .int x)]) miX6_hasSuitor.1 (Nat.le_of_ble_eq_true rfl) rfl ?_
  refine tq_iload_n 1 (dget dX6_hasSuitor 0 rfl) rfl rfl ?_
  refine tq_if_lt (tgt := 16) (dget dX6_hasSuitor 1 rfl) (by decide) (fun c_1 => ?_) (fun c_1 => ?_)
  · refine tq_iconst (v := 0) (dget dX6_hasSuitor 8 rfl) rfl ?_
    exact tq_zret rfl rfl (dget dX6_hasSuitor 9 rfl) ⟨_, rfl, BP.n (fun q => by first | exact absurd q.1 (Int32.not_le.mpr c_1) | exact absurd q.2 (Int32.not_lt.mpr c_9)), rfl⟩
  · refine tq_iload_n 1 (dget dX6_hasSuitor 2 rfl) rfl rfl ?_
    refine tq_aload_n 0 (dget dX6_hasSuitor 3 rfl) rfl rfl ?_
    refine tq_getI (dget dX6_hasSuitor 4 rfl) fX6_27 rfl rfl ?_
    refine tq_icmp_ge (tgt := 16) (dget dX6_hasSuitor 5 rfl) (by decide) (fun c_9 => ?_) (fun c_9 => ?_)
    · refine tq_iconst (v := 0) (dget dX6_hasSuitor 8 rfl) rfl ?_
      exact tq_zret rfl rfl (dget dX6_hasSuitor 9 rfl) ⟨_, rfl, BP.n (fun q => by first | exact absurd q.1 (Int32.not_le.mpr c_1) | exact absurd q.2 (Int32.not_lt.mpr c_9)), rfl⟩
    · refine tq_iconst (v := 1) (dget dX6_hasSuitor 6 rfl) rfl ?_
      refine tq_goto (tgt := 17) (dget dX6_hasSuitor 7 rfl) (by decide) ?_
      exact tq_zret rfl rfl (dget dX6_hasSuitor 9 rfl) ⟨_, rfl, BP.y ⟨Int32.not_lt.mp c_1, Int32.not_le.mp c_9⟩, rfl⟩
set_option maxHeartbeats 4000000 in
set_option maxRecDepth 20000 in
theorem c_mind (σ : Mem) (k r : Int32) (d : Nat) (hd : 0 ≤ d) : PMet d mX6_mind [.int k, .int r] σ (Pi (fun v σ2 => v = mindF k r ∧ σ2 = σ)) := by
  refine PMet.start (ls0 := [(0, .int k), (1, .int r)]) miX6_mind.1 (Nat.le_of_ble_eq_true rfl) rfl ?_
  refine tq_iload_n 0 (dget dX6_mind 0 rfl) rfl rfl ?_
  by_cases s_1_1 : k = 1
  · refine tq_lookup (tgt := 28) (off := 27) (dget dX6_mind 1 rfl) (by decide) (by rw [s_1_1]; decide) (by decide) ?_
    refine tq_bipush (v := 7) (dget dX6_mind 2 rfl) rfl ?_
    exact tq_iret rfl (dget dX6_mind 3 rfl) ⟨_, rfl, by simp [mindF, s_1_1], rfl⟩
  by_cases s_1_2 : k = 2
  · refine tq_lookup (tgt := 31) (off := 30) (dget dX6_mind 1 rfl) (by decide) (by rw [s_1_2]; decide) (by decide) ?_
    refine tq_iconst (v := 3) (dget dX6_mind 4 rfl) rfl ?_
    refine tq_iload_n 1 (dget dX6_mind 5 rfl) rfl rfl ?_
    refine tq_iadd (dget dX6_mind 6 rfl) ?_
    exact tq_iret rfl (dget dX6_mind 7 rfl) ⟨_, rfl, by simp [mindF, s_1_2, s_1_1], rfl⟩
  refine tq_lookup (tgt := 35) (off := 34) (dget dX6_mind 1 rfl) (by decide) ((lv_osw s_1_1 (by decide)).trans ((lv_osw s_1_2 (by decide)).trans (rfl))) (by decide) ?_
  refine tq_iconst (v := 5) (dget dX6_mind 8 rfl) rfl ?_
  exact tq_iret rfl (dget dX6_mind 9 rfl) ⟨_, rfl, by simp [mindF, s_1_1, s_1_2], rfl⟩
set_option maxHeartbeats 4000000 in
set_option maxRecDepth 20000 in
theorem c_answer (σ : Mem) (m s : Nat) (r : Int32) (d : Nat) (hd : 1 ≤ d) (hm : m < 4) (hs : s < 6) : PMet d mX6_answer [.ref 1, .int (nI m), .int (nI s), .int r] σ (Pi (fun v σ2 => v = ansF (σ 1 2) (σ 2 m) (σ (4 + m) s) r ∧ σ2 = σ)) := by
  obtain ⟨d, rfl⟩ : ∃ e, d = e + 1 := ⟨d - 1, by omega⟩
  refine PMet.start (ls0 := [(0, .ref 1), (1, .int (nI m)), (2, .int (nI s)), (3, .int r)]) miX6_answer.1 (Nat.le_of_ble_eq_true rfl) rfl ?_
  refine tq_iload_n 3 (dget dX6_answer 0 rfl) rfl rfl ?_
  refine tq_aload_n 0 (dget dX6_answer 1 rfl) rfl rfl ?_
  refine tq_getI (dget dX6_answer 2 rfl) fX6_34 rfl rfl ?_
  refine tq_icmp_lt (tgt := 10) (dget dX6_answer 3 rfl) (by decide) (fun c_5 => ?_) (fun c_5 => ?_)
  · refine tq_aload_n 0 (dget dX6_answer 6 rfl) rfl rfl ?_
    refine tq_getR (dget dX6_answer 7 rfl) fX6_17 rfl rfl ?_
    refine tq_iload_n 1 (dget dX6_answer 8 rfl) rfl rfl ?_
    refine tq_hers m (dget dX6_answer 9 rfl) rfl (by omega) ?_
    refine tq_iload_n 2 (dget dX6_answer 10 rfl) rfl rfl ?_
    refine tq_ialdN s (dget dX6_answer 11 rfl) (SH_hers (by omega)) (by decide) rfl (by omega) ?_
    refine tq_aload_n 0 (dget dX6_answer 12 rfl) rfl rfl ?_
    refine tq_getR (dget dX6_answer 13 rfl) fX6_9 rfl rfl ?_
    refine tq_iload_n 1 (dget dX6_answer 14 rfl) rfl rfl ?_
    refine tq_ialdN m (dget dX6_answer 15 rfl) rfl (by decide) rfl (by omega) ?_
    refine tq_iload_n 3 (dget dX6_answer 16 rfl) rfl rfl ?_
    refine mq_Si (As := [.int (σ 2 m), .int r]) (rest := [.int (σ (4 + m) s)]) (dget dX6_answer 17 rfl) lX6_51 miX6_mind (c_mind σ (σ 2 m) r d (by omega)) rfl rfl (Nat.le_of_ble_eq_true rfl) (Nat.le_of_ble_eq_true rfl) (fun r_25 σ_25 h_25 => ?_)
    obtain ⟨a_25, e_25⟩ := h_25
    obtain rfl := a_25.symm
    obtain rfl := e_25.symm
    refine tq_icmp_lt (tgt := 35) (dget dX6_answer 18 rfl) (by decide) (fun c_28 => ?_) (fun c_28 => ?_)
    · refine tq_iconst (v := 3) (dget dX6_answer 21 rfl) rfl ?_
      exact tq_iret rfl (dget dX6_answer 22 rfl) ⟨_, rfl, by simp [ansF, c_5, Int32.not_le.mpr c_5, c_28, Int32.not_le.mpr c_28], rfl⟩
    · refine tq_iconst (v := 1) (dget dX6_answer 19 rfl) rfl ?_
      refine tq_goto (tgt := 36) (dget dX6_answer 20 rfl) (by decide) ?_
      exact tq_iret rfl (dget dX6_answer 22 rfl) ⟨_, rfl, by simp [ansF, c_5, Int32.not_le.mpr c_5, c_28, Int32.not_lt.mp c_28], rfl⟩
  · refine tq_iconst (v := 2) (dget dX6_answer 4 rfl) rfl ?_
    exact tq_iret rfl (dget dX6_answer 5 rfl) ⟨_, rfl, by simp [ansF, c_5, Int32.not_lt.mp c_5], rfl⟩

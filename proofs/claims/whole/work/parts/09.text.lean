/-! ===== texts: what fits at a place; the first place that doesn't ===== -/
def kdF (c : Int32) : Int32 := if c = 104 then 2 else if c = 109 then 0 else if c = 112 then 1 else -9
def hdP (p : Nat) (c : Int32) : Prop := if p = 0 then c = 121 else if p = 1 then 49 ≤ c ∧ c < 55 else 49 ≤ c ∧ c < 53
def partP (b : Prop) (i : Nat) (c : Int32) : Prop := (i = 0 ∧ c = 59) ∨ (¬ i = 0 ∧ b ∧ i = 1 ∧ ¬ kdF c = -9) ∨ (¬ i = 0 ∧ ¬ (b ∧ i = 1) ∧ 48 ≤ c ∧ c ≤ 57)
def fitB (S M q : Nat) (c : Int32) : Prop := (q < 3 + M * (S + 2) ∧ partP True ((q - 3) % (S + 2)) c) ∨ (¬ q < 3 + M * (S + 2) ∧ partP False ((q - 3 - M * (S + 2)) % (M + 1)) c)
def endT (S M : Nat) : Nat := 3 + M * (S + 2) + S * (M + 1)
def tpos (S M part i pl : Nat) : Prop := (part < M ∧ pl = 3 + part * (S + 2) + i ∧ i < S + 2) ∨ (M ≤ part ∧ pl = 3 + M * (S + 2) + (part - M) * (M + 1) + i ∧ i < M + 1)
theorem tpos_fit1 {S M part i pl : Nat} {c : Int32} (h : tpos S M part i pl) (hp : part < M) : fitB S M pl c ↔ partP True i c := by
  rcases h with ⟨_, h1, h2⟩ | ⟨h0, _⟩
  · have h3 : (part + 1) * (S + 2) ≤ M * (S + 2) := Nat.mul_le_mul_right _ hp
    rw [Nat.succ_mul] at h3
    have h4 : pl < 3 + M * (S + 2) := by omega
    have h5 : (pl - 3) % (S + 2) = i := by
      rw [show pl - 3 = part * (S + 2) + i by omega, Nat.mul_comm, Nat.mul_add_mod]
      exact Nat.mod_eq_of_lt h2
    unfold fitB
    rw [h5]
    constructor
    · rintro (⟨_, q⟩ | ⟨q, _⟩)
      · exact q
      · exact absurd h4 q
    · intro q
      exact Or.inl ⟨h4, q⟩
  · omega
theorem tpos_fit2 {S M part i pl : Nat} {c : Int32} (h : tpos S M part i pl) (hp : M ≤ part) : fitB S M pl c ↔ partP False i c := by
  rcases h with ⟨h0, _⟩ | ⟨_, h1, h2⟩
  · omega
  · have h4 : ¬ pl < 3 + M * (S + 2) := by omega
    have h5 : (pl - 3 - M * (S + 2)) % (M + 1) = i := by
      rw [show pl - 3 - M * (S + 2) = (part - M) * (M + 1) + i by omega, Nat.mul_comm, Nat.mul_add_mod]
      exact Nat.mod_eq_of_lt h2
    unfold fitB
    rw [h5]
    constructor
    · rintro (⟨q, _⟩ | ⟨_, q⟩)
      · exact absurd q h4
      · exact q
    · intro q
      exact Or.inr ⟨h4, q⟩
theorem tpos_n1 {S M part i pl : Nat} (h : tpos S M part i pl) (hp : part < M) (hi : ¬ i + 1 = S + 2) : tpos S M part (i + 1) (pl + 1) := by
  rcases h with ⟨_, h1, h2⟩ | ⟨h0, _⟩
  · exact Or.inl ⟨hp, by omega, by omega⟩
  · omega
theorem tpos_w1 {S M part i pl : Nat} (h : tpos S M part i pl) (hp : part < M) (hi : i + 1 = S + 2) : tpos S M (part + 1) 0 (pl + 1) := by
  rcases h with ⟨_, h1, h2⟩ | ⟨h0, _⟩
  · by_cases q : part + 1 < M
    · exact Or.inl ⟨q, by rw [Nat.succ_mul]; omega, by omega⟩
    · have e : part + 1 = M := by omega
      refine Or.inr ⟨by omega, ?_, by omega⟩
      rw [← e, Nat.succ_mul, Nat.sub_self, Nat.zero_mul]
      omega
  · omega
theorem tpos_n2 {S M part i pl : Nat} (h : tpos S M part i pl) (hp : M ≤ part) (hi : ¬ i + 1 = M + 1) : tpos S M part (i + 1) (pl + 1) := by
  rcases h with ⟨h0, _⟩ | ⟨_, h1, h2⟩
  · omega
  · exact Or.inr ⟨hp, by omega, by omega⟩
theorem tpos_w2 {S M part i pl : Nat} (h : tpos S M part i pl) (hp : M ≤ part) (hi : i + 1 = M + 1) : tpos S M (part + 1) 0 (pl + 1) := by
  rcases h with ⟨h0, _⟩ | ⟨_, h1, h2⟩
  · omega
  · refine Or.inr ⟨by omega, ?_, by omega⟩
    rw [show part + 1 - M = (part - M) + 1 by omega, Nat.succ_mul]
    omega
theorem endT_le {S M : Nat} (hS : S ≤ 6) (hM : M ≤ 4) : endT S M ≤ 65 := by
  have h : ∀ a, a < 7 → ∀ b, b < 5 → endT a b ≤ 65 := by decide +kernel
  exact h S (by omega) M (by omega)
/-- what behind the head is answered -/
def tbP (S M : Nat) (c : Nat → Int32) (N : Nat) (v : Int32) : Prop := (v = -9 ∧ N = endT S M ∧ ∀ q, 3 ≤ q → q < endT S M → fitB S M q (c q)) ∨ (∃ p, v = nI p ∧ 3 ≤ p ∧ p ≤ endT S M ∧ (∀ q, 3 ≤ q → q < p → q < N ∧ fitB S M q (c q)) ∧ ((p < endT S M ∧ ¬ (p < N ∧ fitB S M p (c p))) ∨ (p = endT S M ∧ ¬ N = endT S M)))

set_option maxHeartbeats 4000000 in
set_option maxRecDepth 20000 in
theorem c_kindOf (σ : Mem) (c : Int32) (d : Nat) (hd : 0 ≤ d) : PMet d mX5_kindOf [.int c] σ (Pi (fun v σ2 => v = kdF c ∧ σ2 = σ)) := by
  refine PMet.start (ls0 := [(0, .int c)]) miX5_kindOf.1 (Nat.le_of_ble_eq_true rfl) rfl ?_
  refine tq_iload_n 0 (dget dX5_kindOf 0 rfl) rfl rfl ?_
  by_cases s_1_104 : c = 104
  · refine tq_lookup (tgt := 40) (off := 39) (dget dX5_kindOf 1 rfl) (by decide) (by rw [s_1_104]; decide) (by decide) ?_
    refine tq_iconst (v := 2) (dget dX5_kindOf 6 rfl) rfl ?_
    exact tq_iret rfl (dget dX5_kindOf 7 rfl) ⟨_, rfl, by simp [kdF, s_1_104], rfl⟩
  by_cases s_1_109 : c = 109
  · refine tq_lookup (tgt := 36) (off := 35) (dget dX5_kindOf 1 rfl) (by decide) (by rw [s_1_109]; decide) (by decide) ?_
    refine tq_iconst (v := 0) (dget dX5_kindOf 2 rfl) rfl ?_
    exact tq_iret rfl (dget dX5_kindOf 3 rfl) ⟨_, rfl, by simp [kdF, s_1_109, s_1_104], rfl⟩
  by_cases s_1_112 : c = 112
  · refine tq_lookup (tgt := 38) (off := 37) (dget dX5_kindOf 1 rfl) (by decide) (by rw [s_1_112]; decide) (by decide) ?_
    refine tq_iconst (v := 1) (dget dX5_kindOf 4 rfl) rfl ?_
    exact tq_iret rfl (dget dX5_kindOf 5 rfl) ⟨_, rfl, by simp [kdF, s_1_112, s_1_104, s_1_109], rfl⟩
  refine tq_lookup (tgt := 42) (off := 41) (dget dX5_kindOf 1 rfl) (by decide) ((lv_osw s_1_104 (by decide)).trans ((lv_osw s_1_109 (by decide)).trans ((lv_osw s_1_112 (by decide)).trans (rfl)))) (by decide) ?_
  refine tq_bipush (v := (-9)) (dget dX5_kindOf 8 rfl) rfl ?_
  exact tq_iret rfl (dget dX5_kindOf 9 rfl) ⟨_, rfl, by simp [kdF, s_1_104, s_1_109, s_1_112], rfl⟩
set_option maxHeartbeats 4000000 in
set_option maxRecDepth 20000 in
theorem c_maidPlace (σ : Mem) (S m : Nat) (d : Nat) (hd : 0 ≤ d) : PMet d mX5_maidPlace [.int (nI S), .int (nI m)] σ (Pi (fun v σ2 => v = nI (3 + m * (S + 2)) ∧ σ2 = σ)) := by
  refine PMet.start (ls0 := [(0, .int (nI S)), (1, .int (nI m))]) miX5_maidPlace.1 (Nat.le_of_ble_eq_true rfl) rfl ?_
  refine tq_iconst (v := 3) (dget dX5_maidPlace 0 rfl) rfl ?_
  refine tq_iload_n 1 (dget dX5_maidPlace 1 rfl) rfl rfl ?_
  refine tq_iload_n 0 (dget dX5_maidPlace 2 rfl) rfl rfl ?_
  refine tq_iconst (v := 2) (dget dX5_maidPlace 3 rfl) rfl ?_
  refine tq_iadd (dget dX5_maidPlace 4 rfl) ?_
  refine tq_imul (dget dX5_maidPlace 5 rfl) ?_
  refine tq_iadd (dget dX5_maidPlace 6 rfl) ?_
  exact tq_iret rfl (dget dX5_maidPlace 7 rfl) ⟨_, rfl, by rw [show (2 : Int32) = nI 2 from rfl, nI_add, nI_mulN, show (3 : Int32) = nI 3 from rfl, nI_add], rfl⟩
set_option maxHeartbeats 4000000 in
set_option maxRecDepth 20000 in
theorem c_suitorPlace (σ : Mem) (S M s : Nat) (d : Nat) (hd : 1 ≤ d) : PMet d mX5_suitorPlace [.int (nI S), .int (nI M), .int (nI s)] σ (Pi (fun v σ2 => v = nI (3 + M * (S + 2) + s * (M + 1)) ∧ σ2 = σ)) := by
  obtain ⟨d, rfl⟩ : ∃ e, d = e + 1 := ⟨d - 1, by omega⟩
  refine PMet.start (ls0 := [(0, .int (nI S)), (1, .int (nI M)), (2, .int (nI s))]) miX5_suitorPlace.1 (Nat.le_of_ble_eq_true rfl) rfl ?_
  refine tq_iload_n 0 (dget dX5_suitorPlace 0 rfl) rfl rfl ?_
  refine tq_iload_n 1 (dget dX5_suitorPlace 1 rfl) rfl rfl ?_
  refine mq_Si (As := [.int (nI S), .int (nI M)]) (rest := []) (dget dX5_suitorPlace 2 rfl) lX5_31 miX5_maidPlace (c_maidPlace σ S M d (by omega)) rfl rfl (Nat.le_of_ble_eq_true rfl) (Nat.le_of_ble_eq_true rfl) (fun r_2 σ_2 h_2 => ?_)
  obtain ⟨a_2, e_2⟩ := h_2
  obtain rfl := a_2.symm
  obtain rfl := e_2.symm
  refine tq_iload_n 2 (dget dX5_suitorPlace 3 rfl) rfl rfl ?_
  refine tq_iload_n 1 (dget dX5_suitorPlace 4 rfl) rfl rfl ?_
  refine tq_iconst (v := 1) (dget dX5_suitorPlace 5 rfl) rfl ?_
  refine tq_iadd (dget dX5_suitorPlace 6 rfl) ?_
  refine tq_imul (dget dX5_suitorPlace 7 rfl) ?_
  refine tq_iadd (dget dX5_suitorPlace 8 rfl) ?_
  exact tq_iret rfl (dget dX5_suitorPlace 9 rfl) ⟨_, rfl, by rw [show (1 : Int32) = nI 1 from rfl, nI_add, nI_mulN, nI_add], rfl⟩
set_option maxHeartbeats 4000000 in
set_option maxRecDepth 20000 in
theorem c_fitsHead (σ : Mem) (p : Nat) (c : Int32) (d : Nat) (hd : 0 ≤ d) (hp : p < 3) : PMet d mX5_fitsHead [.int (nI p), .int c] σ (Pi (fun v σ2 => BP (hdP p c) v ∧ σ2 = σ)) := by
  refine PMet.start (ls0 := [(0, .int (nI p)), (1, .int c)]) miX5_fitsHead.1 (Nat.le_of_ble_eq_true rfl) rfl ?_
  have g0 : nI p = 0 → p = 0 := fun q => (nI_eq (b := 0) (by omega) (by omega)).mp q
  have g0n : ¬ nI p = 0 → ¬ p = 0 := fun q e => q (by rw [e]; rfl)
  have g1 : nI p = 1 → p = 1 := fun q => (nI_eq (b := 1) (by omega) (by omega)).mp q
  have g1n : ¬ nI p = 1 → ¬ p = 1 := fun q e => q (by rw [e]; rfl)
  refine tq_iload_n 0 (dget dX5_fitsHead 0 rfl) rfl rfl ?_
  by_cases s_1_0 : (nI p) = 0
  · refine tq_lookup (tgt := 28) (off := 27) (dget dX5_fitsHead 1 rfl) (by decide) (by rw [s_1_0]; decide) (by decide) ?_
    refine tq_iload_n 1 (dget dX5_fitsHead 2 rfl) rfl rfl ?_
    refine tq_bipush (v := 121) (dget dX5_fitsHead 3 rfl) rfl ?_
    refine tq_icmp_ne (tgt := 38) (dget dX5_fitsHead 4 rfl) (by decide) (fun c_31 => ?_) (fun c_31 => ?_)
    · refine tq_iconst (v := 0) (dget dX5_fitsHead 7 rfl) rfl ?_
      exact tq_zret rfl rfl (dget dX5_fitsHead 8 rfl) ⟨_, rfl, BP.n (by unfold hdP; rw [if_pos (g0 s_1_0)]; exact c_31), rfl⟩
    · refine tq_iconst (v := 1) (dget dX5_fitsHead 5 rfl) rfl ?_
      refine tq_goto (tgt := 39) (dget dX5_fitsHead 6 rfl) (by decide) ?_
      exact tq_zret rfl rfl (dget dX5_fitsHead 8 rfl) ⟨_, rfl, BP.y (by unfold hdP; rw [if_pos (g0 s_1_0)]; exact c_31), rfl⟩
  by_cases s_1_1 : (nI p) = 1
  · refine tq_lookup (tgt := 40) (off := 39) (dget dX5_fitsHead 1 rfl) (by decide) (by rw [s_1_1]; decide) (by decide) ?_
    refine tq_iload_n 1 (dget dX5_fitsHead 9 rfl) rfl rfl ?_
    refine tq_bipush (v := 49) (dget dX5_fitsHead 10 rfl) rfl ?_
    refine tq_icmp_lt (tgt := 56) (dget dX5_fitsHead 11 rfl) (by decide) (fun c_43 => ?_) (fun c_43 => ?_)
    · refine tq_iconst (v := 0) (dget dX5_fitsHead 17 rfl) rfl ?_
      exact tq_zret rfl rfl (dget dX5_fitsHead 18 rfl) ⟨_, rfl, BP.n (by unfold hdP; rw [if_neg (g0n s_1_0), if_pos (g1 s_1_1)]; exact fun q => by first | exact absurd q.1 (Int32.not_le.mpr c_43) | exact absurd q.2 (Int32.not_lt.mpr c_49)), rfl⟩
    · refine tq_iload_n 1 (dget dX5_fitsHead 12 rfl) rfl rfl ?_
      refine tq_bipush (v := 55) (dget dX5_fitsHead 13 rfl) rfl ?_
      refine tq_icmp_ge (tgt := 56) (dget dX5_fitsHead 14 rfl) (by decide) (fun c_49 => ?_) (fun c_49 => ?_)
      · refine tq_iconst (v := 0) (dget dX5_fitsHead 17 rfl) rfl ?_
        exact tq_zret rfl rfl (dget dX5_fitsHead 18 rfl) ⟨_, rfl, BP.n (by unfold hdP; rw [if_neg (g0n s_1_0), if_pos (g1 s_1_1)]; exact fun q => by first | exact absurd q.1 (Int32.not_le.mpr c_43) | exact absurd q.2 (Int32.not_lt.mpr c_49)), rfl⟩
      · refine tq_iconst (v := 1) (dget dX5_fitsHead 15 rfl) rfl ?_
        refine tq_goto (tgt := 57) (dget dX5_fitsHead 16 rfl) (by decide) ?_
        exact tq_zret rfl rfl (dget dX5_fitsHead 18 rfl) ⟨_, rfl, BP.y (by unfold hdP; rw [if_neg (g0n s_1_0), if_pos (g1 s_1_1)]; exact ⟨Int32.not_lt.mp c_43, Int32.not_le.mp c_49⟩), rfl⟩
  refine tq_lookup (tgt := 58) (off := 57) (dget dX5_fitsHead 1 rfl) (by decide) ((lv_osw s_1_0 (by decide)).trans ((lv_osw s_1_1 (by decide)).trans (rfl))) (by decide) ?_
  refine tq_iload_n 1 (dget dX5_fitsHead 19 rfl) rfl rfl ?_
  refine tq_bipush (v := 49) (dget dX5_fitsHead 20 rfl) rfl ?_
  refine tq_icmp_lt (tgt := 74) (dget dX5_fitsHead 21 rfl) (by decide) (fun c_61 => ?_) (fun c_61 => ?_)
  · refine tq_iconst (v := 0) (dget dX5_fitsHead 27 rfl) rfl ?_
    exact tq_zret rfl rfl (dget dX5_fitsHead 28 rfl) ⟨_, rfl, BP.n (by unfold hdP; rw [if_neg (g0n s_1_0), if_neg (g1n s_1_1)]; exact fun q => by first | exact absurd q.1 (Int32.not_le.mpr c_61) | exact absurd q.2 (Int32.not_lt.mpr c_67)), rfl⟩
  · refine tq_iload_n 1 (dget dX5_fitsHead 22 rfl) rfl rfl ?_
    refine tq_bipush (v := 53) (dget dX5_fitsHead 23 rfl) rfl ?_
    refine tq_icmp_ge (tgt := 74) (dget dX5_fitsHead 24 rfl) (by decide) (fun c_67 => ?_) (fun c_67 => ?_)
    · refine tq_iconst (v := 0) (dget dX5_fitsHead 27 rfl) rfl ?_
      exact tq_zret rfl rfl (dget dX5_fitsHead 28 rfl) ⟨_, rfl, BP.n (by unfold hdP; rw [if_neg (g0n s_1_0), if_neg (g1n s_1_1)]; exact fun q => by first | exact absurd q.1 (Int32.not_le.mpr c_61) | exact absurd q.2 (Int32.not_lt.mpr c_67)), rfl⟩
    · refine tq_iconst (v := 1) (dget dX5_fitsHead 25 rfl) rfl ?_
      refine tq_goto (tgt := 75) (dget dX5_fitsHead 26 rfl) (by decide) ?_
      exact tq_zret rfl rfl (dget dX5_fitsHead 28 rfl) ⟨_, rfl, BP.y (by unfold hdP; rw [if_neg (g0n s_1_0), if_neg (g1n s_1_1)]; exact ⟨Int32.not_lt.mp c_61, Int32.not_le.mp c_67⟩), rfl⟩
set_option maxHeartbeats 4000000 in
set_option maxRecDepth 20000 in
theorem c_fitsPart (σ : Mem) (B : Prop) (u : Int32) (i : Nat) (c : Int32) (b : BP B u) (hi : i < 100) (d : Nat) (hd : 1 ≤ d) : PMet d mX5_fitsPart [.int u, .int (nI i), .int c] σ (Pi (fun v σ2 => BP (partP B i c) v ∧ σ2 = σ)) := by
  obtain ⟨d, rfl⟩ : ∃ e, d = e + 1 := ⟨d - 1, by omega⟩
  refine PMet.start (ls0 := [(0, .int u), (1, .int (nI i)), (2, .int c)]) miX5_fitsPart.1 (Nat.le_of_ble_eq_true rfl) rfl ?_
  refine tq_iload_n 1 (dget dX5_fitsPart 0 rfl) rfl rfl ?_
  refine tq_if_ne (tgt := 16) (dget dX5_fitsPart 1 rfl) (by decide) (fun c_1 => ?_) (fun c_1 => ?_)
  · have g_1 : ¬ i = 0 := fun e => c_1 (by rw [e]; rfl)
    refine tq_iload_n 0 (dget dX5_fitsPart 9 rfl) rfl rfl ?_
    refine tq_if_eq (tgt := 40) (dget dX5_fitsPart 10 rfl) (by decide) (fun c_17 => ?_) (fun c_17 => ?_)
    · refine tq_iload_n 2 (dget dX5_fitsPart 22 rfl) rfl rfl ?_
      refine tq_bipush (v := 48) (dget dX5_fitsPart 23 rfl) rfl ?_
      refine tq_icmp_lt (tgt := 56) (dget dX5_fitsPart 24 rfl) (by decide) (fun c_43 => ?_) (fun c_43 => ?_)
      · refine tq_iconst (v := 0) (dget dX5_fitsPart 30 rfl) rfl ?_
        exact tq_zret rfl rfl (dget dX5_fitsPart 31 rfl) ⟨_, rfl, BP.n (fun q => by rcases q with q | q | q; exact g_1 q.1; exact b.f c_17 q.2.1; first | exact absurd q.2.2.1 (Int32.not_le.mpr c_43) | exact absurd q.2.2.2 (Int32.not_le.mpr c_49)), rfl⟩
      · refine tq_iload_n 2 (dget dX5_fitsPart 25 rfl) rfl rfl ?_
        refine tq_bipush (v := 57) (dget dX5_fitsPart 26 rfl) rfl ?_
        refine tq_icmp_gt (tgt := 56) (dget dX5_fitsPart 27 rfl) (by decide) (fun c_49 => ?_) (fun c_49 => ?_)
        · refine tq_iconst (v := 0) (dget dX5_fitsPart 30 rfl) rfl ?_
          exact tq_zret rfl rfl (dget dX5_fitsPart 31 rfl) ⟨_, rfl, BP.n (fun q => by rcases q with q | q | q; exact g_1 q.1; exact b.f c_17 q.2.1; first | exact absurd q.2.2.1 (Int32.not_le.mpr c_43) | exact absurd q.2.2.2 (Int32.not_le.mpr c_49)), rfl⟩
        · refine tq_iconst (v := 1) (dget dX5_fitsPart 28 rfl) rfl ?_
          refine tq_goto (tgt := 57) (dget dX5_fitsPart 29 rfl) (by decide) ?_
          exact tq_zret rfl rfl (dget dX5_fitsPart 31 rfl) ⟨_, rfl, BP.y (Or.inr (Or.inr ⟨g_1, fun z => b.f c_17 z.1, Int32.not_lt.mp c_43, Int32.not_lt.mp c_49⟩)), rfl⟩
    · refine tq_iload_n 1 (dget dX5_fitsPart 11 rfl) rfl rfl ?_
      refine tq_iconst (v := 1) (dget dX5_fitsPart 12 rfl) rfl ?_
      refine tq_icmp_ne (tgt := 40) (dget dX5_fitsPart 13 rfl) (by decide) (fun c_22 => ?_) (fun c_22 => ?_)
      · have g_22 : ¬ i = 1 := fun e => c_22 (by rw [e]; rfl)
        refine tq_iload_n 2 (dget dX5_fitsPart 22 rfl) rfl rfl ?_
        refine tq_bipush (v := 48) (dget dX5_fitsPart 23 rfl) rfl ?_
        refine tq_icmp_lt (tgt := 56) (dget dX5_fitsPart 24 rfl) (by decide) (fun c_43 => ?_) (fun c_43 => ?_)
        · refine tq_iconst (v := 0) (dget dX5_fitsPart 30 rfl) rfl ?_
          exact tq_zret rfl rfl (dget dX5_fitsPart 31 rfl) ⟨_, rfl, BP.n (fun q => by rcases q with q | q | q; exact g_1 q.1; exact g_22 q.2.2.1; first | exact absurd q.2.2.1 (Int32.not_le.mpr c_43) | exact absurd q.2.2.2 (Int32.not_le.mpr c_49)), rfl⟩
        · refine tq_iload_n 2 (dget dX5_fitsPart 25 rfl) rfl rfl ?_
          refine tq_bipush (v := 57) (dget dX5_fitsPart 26 rfl) rfl ?_
          refine tq_icmp_gt (tgt := 56) (dget dX5_fitsPart 27 rfl) (by decide) (fun c_49 => ?_) (fun c_49 => ?_)
          · refine tq_iconst (v := 0) (dget dX5_fitsPart 30 rfl) rfl ?_
            exact tq_zret rfl rfl (dget dX5_fitsPart 31 rfl) ⟨_, rfl, BP.n (fun q => by rcases q with q | q | q; exact g_1 q.1; exact g_22 q.2.2.1; first | exact absurd q.2.2.1 (Int32.not_le.mpr c_43) | exact absurd q.2.2.2 (Int32.not_le.mpr c_49)), rfl⟩
          · refine tq_iconst (v := 1) (dget dX5_fitsPart 28 rfl) rfl ?_
            refine tq_goto (tgt := 57) (dget dX5_fitsPart 29 rfl) (by decide) ?_
            exact tq_zret rfl rfl (dget dX5_fitsPart 31 rfl) ⟨_, rfl, BP.y (Or.inr (Or.inr ⟨g_1, fun z => g_22 z.2, Int32.not_lt.mp c_43, Int32.not_lt.mp c_49⟩)), rfl⟩
      · have g_22 : i = 1 := (nI_eq (b := 1) (by omega) (by omega)).mp c_22
        refine tq_iload_n 2 (dget dX5_fitsPart 14 rfl) rfl rfl ?_
        refine mq_Si (As := [.int c]) (rest := []) (dget dX5_fitsPart 15 rfl) lX5_27 miX5_kindOf (c_kindOf σ c d (by omega)) rfl rfl (Nat.le_of_ble_eq_true rfl) (Nat.le_of_ble_eq_true rfl) (fun r_26 σ_26 h_26 => ?_)
        obtain ⟨a_26, e_26⟩ := h_26
        obtain rfl := a_26.symm
        obtain rfl := e_26.symm
        refine tq_bipush (v := (-9)) (dget dX5_fitsPart 16 rfl) rfl ?_
        refine tq_icmp_eq (tgt := 38) (dget dX5_fitsPart 17 rfl) (by decide) (fun c_31 => ?_) (fun c_31 => ?_)
        · refine tq_iconst (v := 0) (dget dX5_fitsPart 20 rfl) rfl ?_
          exact tq_zret rfl rfl (dget dX5_fitsPart 21 rfl) ⟨_, rfl, BP.n (fun q => by rcases q with q | q | q; exact g_1 q.1; exact q.2.2.2 c_31; exact q.2.1 ⟨b.t c_17, g_22⟩), rfl⟩
        · refine tq_iconst (v := 1) (dget dX5_fitsPart 18 rfl) rfl ?_
          refine tq_goto (tgt := 39) (dget dX5_fitsPart 19 rfl) (by decide) ?_
          exact tq_zret rfl rfl (dget dX5_fitsPart 21 rfl) ⟨_, rfl, BP.y (Or.inr (Or.inl ⟨g_1, b.t c_17, g_22, c_31⟩)), rfl⟩
  · have g_1 : i = 0 := (nI_eq (b := 0) (by omega) (by omega)).mp c_1
    refine tq_iload_n 2 (dget dX5_fitsPart 2 rfl) rfl rfl ?_
    refine tq_bipush (v := 59) (dget dX5_fitsPart 3 rfl) rfl ?_
    refine tq_icmp_ne (tgt := 14) (dget dX5_fitsPart 4 rfl) (by decide) (fun c_7 => ?_) (fun c_7 => ?_)
    · refine tq_iconst (v := 0) (dget dX5_fitsPart 7 rfl) rfl ?_
      exact tq_zret rfl rfl (dget dX5_fitsPart 8 rfl) ⟨_, rfl, BP.n (fun q => by rcases q with q | q | q; exact c_7 q.2; exact q.1 g_1; exact q.1 g_1), rfl⟩
    · refine tq_iconst (v := 1) (dget dX5_fitsPart 5 rfl) rfl ?_
      refine tq_goto (tgt := 15) (dget dX5_fitsPart 6 rfl) (by decide) ?_
      exact tq_zret rfl rfl (dget dX5_fitsPart 8 rfl) ⟨_, rfl, BP.y (Or.inl ⟨g_1, c_7⟩), rfl⟩
set_option maxHeartbeats 4000000 in
set_option maxRecDepth 20000 in
theorem c_behind_loop (σ : Mem) (S M N : Nat) (hS : S ≤ 6) (hM : M ≤ 4) (hN : N ≤ 100) (d : Nat) (hd : 2 ≤ d) : ∀ (n : Nat) (part : Nat) (i : Nat) (pl : Nat) (hm : endT S M < pl + n) (hk : 3 ≤ pl) (hle : pl ≤ endT S M) (hb : part ≤ pl ∧ i ≤ pl) (hT : tpos S M part i pl) (hI : ∀ q, 3 ≤ q → q < pl → q < N ∧ fitB S M q (σ 33 q)), PAt (EM d (Pi (fun v σ2 => tbP S M (σ 33) N v ∧ σ2 = σ))) mX5_firstFaultBehindHead 17 [(7, .int (nI pl)), (6, .int (nI i)), (5, .int (nI part)), (4, .int (nI (endT S M))), (0, .ref 33), (1, .int (nI N)), (2, .int (nI S)), (3, .int (nI M))] [] σ := by
  obtain ⟨d, rfl⟩ : ∃ e, d = e + 1 := ⟨d - 1, by omega⟩
  intro n
  induction n with
  | zero => intro part i pl hm hk hle hb hT hI; exact absurd hm (by omega)
  | succ n ih =>
    intro part i pl hm hk hle hb hT hI
    have he := endT_le hS hM
    have hi7 : i < 8 := by rcases hT with q | q <;> omega
    refine tq_iload 0 (dget dX5_firstFaultBehindHead 11 rfl) rfl ?_
    refine tq_iload 3 (dget dX5_firstFaultBehindHead 12 rfl) rfl ?_
    refine tq_icmp_ge (tgt := 94) (dget dX5_firstFaultBehindHead 13 rfl) (by decide) (fun c_21 => ?_) (fun c_21 => ?_)
    · have g_21 := kle (by omega) (by omega) c_21
      have g_22 : pl = endT S M := by omega
      refine tq_iload_n 5 (dget dX5_firstFaultBehindHead 50 rfl) rfl rfl ?_
      refine tq_iload 3 (dget dX5_firstFaultBehindHead 51 rfl) rfl ?_
      refine tq_icmp_ne (tgt := 105) (dget dX5_firstFaultBehindHead 52 rfl) (by decide) (fun c_97 => ?_) (fun c_97 => ?_)
      · have g_97 := n_ne c_97
        refine tq_iload 3 (dget dX5_firstFaultBehindHead 55 rfl) rfl ?_
        exact tq_iret rfl (dget dX5_firstFaultBehindHead 56 rfl) ⟨_, rfl, Or.inr ⟨endT S M, rfl, by omega, Nat.le_refl _, fun q h3 hq => hI q h3 (by omega), Or.inr ⟨rfl, g_97⟩⟩, rfl⟩
      · have g_97 := n_eq (by omega) (by omega) c_97
        refine tq_bipush (v := (-9)) (dget dX5_firstFaultBehindHead 53 rfl) rfl ?_
        refine tq_goto (tgt := 107) (dget dX5_firstFaultBehindHead 54 rfl) (by decide) ?_
        exact tq_iret rfl (dget dX5_firstFaultBehindHead 56 rfl) ⟨_, rfl, Or.inl ⟨rfl, g_97, fun q h3 hq => (hI q h3 (by omega)).2⟩, rfl⟩
    · have g_21 := knle (by omega) (by omega) c_21
      refine tq_iload 2 (dget dX5_firstFaultBehindHead 14 rfl) rfl ?_
      refine tq_iload_n 7 (dget dX5_firstFaultBehindHead 15 rfl) rfl rfl ?_
      refine tq_icmp_ge (tgt := 34) (dget dX5_firstFaultBehindHead 16 rfl) (by decide) (fun c_27 => ?_) (fun c_27 => ?_)
      · have g_27 := kle (by omega) (by omega) c_27
        refine tq_iconst (v := 0) (dget dX5_firstFaultBehindHead 19 rfl) rfl ?_
        refine tq_istore (ls2 := [(8, .int 0), (7, .int (nI pl)), (6, .int (nI i)), (5, .int (nI part)), (4, .int (nI (endT S M))), (0, .ref 33), (1, .int (nI N)), (2, .int (nI S)), (3, .int (nI M))]) (dget dX5_firstFaultBehindHead 20 rfl) (by decide) rfl ?_
        refine tq_iload 1 (dget dX5_firstFaultBehindHead 21 rfl) rfl ?_
        refine tq_iload_n 6 (dget dX5_firstFaultBehindHead 22 rfl) rfl rfl ?_
        refine tq_icmp_ge (tgt := 57) (dget dX5_firstFaultBehindHead 23 rfl) (by decide) (fun c_40 => ?_) (fun c_40 => ?_)
        · have g_40 := kle (by omega) (by omega) c_40
          refine tq_iload 1 (dget dX5_firstFaultBehindHead 31 rfl) rfl ?_
          exact tq_iret rfl (dget dX5_firstFaultBehindHead 32 rfl) ⟨_, rfl, Or.inr ⟨pl, rfl, by omega, by omega, hI, Or.inl ⟨g_21, fun q => by omega⟩⟩, rfl⟩
        · have g_40 := knle (by omega) (by omega) c_40
          refine tq_iload 0 (dget dX5_firstFaultBehindHead 24 rfl) rfl ?_
          refine tq_iload 2 (dget dX5_firstFaultBehindHead 25 rfl) rfl ?_
          refine tq_aload_n 5 (dget dX5_firstFaultBehindHead 26 rfl) rfl rfl ?_
          refine tq_iload 1 (dget dX5_firstFaultBehindHead 27 rfl) rfl ?_
          refine tq_ialdN pl (dget dX5_firstFaultBehindHead 28 rfl) rfl (by decide) rfl (by omega) ?_
          refine mq_Si (As := [.int 0, .int (nI i), .int (σ 33 pl)]) (rest := []) (dget dX5_firstFaultBehindHead 29 rfl) lX5_23 miX5_fitsPart (c_fitsPart σ False 0 i (σ 33 pl) (BP.n id) (by omega) d (by omega)) rfl rfl (Nat.le_of_ble_eq_true rfl) (Nat.le_of_ble_eq_true rfl) (fun r_51 σ_51 h_51 => ?_)
          obtain ⟨b_51, e_51⟩ := h_51
          obtain rfl := e_51.symm
          refine tq_if_ne (tgt := 60) (dget dX5_firstFaultBehindHead 30 rfl) (by decide) (fun c_54 => ?_) (fun c_54 => ?_)
          · refine tq_iinc (v := (nI (i + 1))) (ls2 := [(6, .int (nI (i + 1))), (8, .int 0), (7, .int (nI pl)), (5, .int (nI part)), (4, .int (nI (endT S M))), (0, .ref 33), (1, .int (nI N)), (2, .int (nI S)), (3, .int (nI M))]) 2 (dget dX5_firstFaultBehindHead 33 rfl) rfl (nI_1 i) (by decide) rfl ?_
            refine tq_iload 0 (dget dX5_firstFaultBehindHead 34 rfl) rfl ?_
            refine tq_iload 1 (dget dX5_firstFaultBehindHead 35 rfl) rfl ?_
            refine tq_if_eq (tgt := 76) (dget dX5_firstFaultBehindHead 36 rfl) (by decide) (fun c_67 => ?_) (fun c_67 => ?_)
            · refine tq_iload_n 8 (dget dX5_firstFaultBehindHead 41 rfl) rfl rfl ?_
              refine tq_iconst (v := 1) (dget dX5_firstFaultBehindHead 42 rfl) rfl ?_
              refine tq_iadd (dget dX5_firstFaultBehindHead 43 rfl) ?_
              refine tq_eqi (y := (nI (M + 1))) (nI_add M 1) ?_
              refine tq_icmp_ne (tgt := 88) (dget dX5_firstFaultBehindHead 44 rfl) (by decide) (fun c_79 => ?_) (fun c_79 => ?_)
              · have g_79 := n_ne c_79
                refine tq_iinc (v := (nI (pl + 1))) (ls2 := [(7, .int (nI (pl + 1))), (6, .int (nI (i + 1))), (8, .int 0), (5, .int (nI part)), (4, .int (nI (endT S M))), (0, .ref 33), (1, .int (nI N)), (2, .int (nI S)), (3, .int (nI M))]) 2 (dget dX5_firstFaultBehindHead 48 rfl) rfl (nI_1 pl) (by decide) rfl ?_
                refine tq_goto (tgt := 17) (dget dX5_firstFaultBehindHead 49 rfl) (by decide) ?_
                refine tq_sub [0, 1, 3, 4, 5, 6, 7, 8] (ls' := [(7, .int (nI (pl + 1))), (6, .int (nI (i + 1))), (5, .int (nI part)), (4, .int (nI (endT S M))), (0, .ref 33), (1, .int (nI N)), (2, .int (nI S)), (3, .int (nI M))]) rfl ?_
                refine ih part (i + 1) (pl + 1) (by omega) (by omega) (by omega) (by omega) (tpos_n2 hT g_27 g_79) (fun q h3 hq => ?_)
                by_cases e : q = pl
                · rw [e]; exact ⟨g_40, (tpos_fit2 hT g_27).mpr (b_51.t c_54)⟩
                · exact hI q h3 (by omega)
              · have g_79 := n_eq (by omega) (by omega) c_79
                refine tq_iinc (v := (nI (part + 1))) (ls2 := [(5, .int (nI (part + 1))), (6, .int (nI (i + 1))), (8, .int 0), (7, .int (nI pl)), (4, .int (nI (endT S M))), (0, .ref 33), (1, .int (nI N)), (2, .int (nI S)), (3, .int (nI M))]) 3 (dget dX5_firstFaultBehindHead 45 rfl) rfl (nI_1 part) (by decide) rfl ?_
                refine tq_iconst (v := 0) (dget dX5_firstFaultBehindHead 46 rfl) rfl ?_
                refine tq_istore (ls2 := [(6, .int 0), (5, .int (nI (part + 1))), (8, .int 0), (7, .int (nI pl)), (4, .int (nI (endT S M))), (0, .ref 33), (1, .int (nI N)), (2, .int (nI S)), (3, .int (nI M))]) (dget dX5_firstFaultBehindHead 47 rfl) (by decide) rfl ?_
                refine tq_iinc (v := (nI (pl + 1))) (ls2 := [(7, .int (nI (pl + 1))), (6, .int 0), (5, .int (nI (part + 1))), (8, .int 0), (4, .int (nI (endT S M))), (0, .ref 33), (1, .int (nI N)), (2, .int (nI S)), (3, .int (nI M))]) 3 (dget dX5_firstFaultBehindHead 48 rfl) rfl (nI_1 pl) (by decide) rfl ?_
                refine tq_goto (tgt := 17) (dget dX5_firstFaultBehindHead 49 rfl) (by decide) ?_
                refine tq_sub [0, 1, 2, 4, 5, 6, 7, 8] (ls' := [(7, .int (nI (pl + 1))), (6, .int 0), (5, .int (nI (part + 1))), (4, .int (nI (endT S M))), (0, .ref 33), (1, .int (nI N)), (2, .int (nI S)), (3, .int (nI M))]) rfl ?_
                rw [show (0 : Int32) = nI 0 from rfl]
                refine ih (part + 1) 0 (pl + 1) (by omega) (by omega) (by omega) (by omega) (tpos_w2 hT g_27 g_79) (fun q h3 hq => ?_)
                by_cases e : q = pl
                · rw [e]; exact ⟨g_40, (tpos_fit2 hT g_27).mpr (b_51.t c_54)⟩
                · exact hI q h3 (by omega)
            · exact absurd c_67 (by decide)
          · refine tq_iload 1 (dget dX5_firstFaultBehindHead 31 rfl) rfl ?_
            exact tq_iret rfl (dget dX5_firstFaultBehindHead 32 rfl) ⟨_, rfl, Or.inr ⟨pl, rfl, by omega, by omega, hI, Or.inl ⟨g_21, fun q => b_51.f c_54 ((tpos_fit2 hT g_27).mp q.2)⟩⟩, rfl⟩
      · have g_27 := knle (by omega) (by omega) c_27
        refine tq_iconst (v := 1) (dget dX5_firstFaultBehindHead 17 rfl) rfl ?_
        refine tq_goto (tgt := 35) (dget dX5_firstFaultBehindHead 18 rfl) (by decide) ?_
        refine tq_istore (ls2 := [(8, .int 1), (7, .int (nI pl)), (6, .int (nI i)), (5, .int (nI part)), (4, .int (nI (endT S M))), (0, .ref 33), (1, .int (nI N)), (2, .int (nI S)), (3, .int (nI M))]) (dget dX5_firstFaultBehindHead 20 rfl) (by decide) rfl ?_
        refine tq_iload 1 (dget dX5_firstFaultBehindHead 21 rfl) rfl ?_
        refine tq_iload_n 6 (dget dX5_firstFaultBehindHead 22 rfl) rfl rfl ?_
        refine tq_icmp_ge (tgt := 57) (dget dX5_firstFaultBehindHead 23 rfl) (by decide) (fun c_40 => ?_) (fun c_40 => ?_)
        · have g_40 := kle (by omega) (by omega) c_40
          refine tq_iload 1 (dget dX5_firstFaultBehindHead 31 rfl) rfl ?_
          exact tq_iret rfl (dget dX5_firstFaultBehindHead 32 rfl) ⟨_, rfl, Or.inr ⟨pl, rfl, by omega, by omega, hI, Or.inl ⟨g_21, fun q => by omega⟩⟩, rfl⟩
        · have g_40 := knle (by omega) (by omega) c_40
          refine tq_iload 0 (dget dX5_firstFaultBehindHead 24 rfl) rfl ?_
          refine tq_iload 2 (dget dX5_firstFaultBehindHead 25 rfl) rfl ?_
          refine tq_aload_n 5 (dget dX5_firstFaultBehindHead 26 rfl) rfl rfl ?_
          refine tq_iload 1 (dget dX5_firstFaultBehindHead 27 rfl) rfl ?_
          refine tq_ialdN pl (dget dX5_firstFaultBehindHead 28 rfl) rfl (by decide) rfl (by omega) ?_
          refine mq_Si (As := [.int 1, .int (nI i), .int (σ 33 pl)]) (rest := []) (dget dX5_firstFaultBehindHead 29 rfl) lX5_23 miX5_fitsPart (c_fitsPart σ True 1 i (σ 33 pl) (BP.y trivial) (by omega) d (by omega)) rfl rfl (Nat.le_of_ble_eq_true rfl) (Nat.le_of_ble_eq_true rfl) (fun r_51 σ_51 h_51 => ?_)
          obtain ⟨b_51, e_51⟩ := h_51
          obtain rfl := e_51.symm
          refine tq_if_ne (tgt := 60) (dget dX5_firstFaultBehindHead 30 rfl) (by decide) (fun c_54 => ?_) (fun c_54 => ?_)
          · refine tq_iinc (v := (nI (i + 1))) (ls2 := [(6, .int (nI (i + 1))), (8, .int 1), (7, .int (nI pl)), (5, .int (nI part)), (4, .int (nI (endT S M))), (0, .ref 33), (1, .int (nI N)), (2, .int (nI S)), (3, .int (nI M))]) 2 (dget dX5_firstFaultBehindHead 33 rfl) rfl (nI_1 i) (by decide) rfl ?_
            refine tq_iload 0 (dget dX5_firstFaultBehindHead 34 rfl) rfl ?_
            refine tq_iload 1 (dget dX5_firstFaultBehindHead 35 rfl) rfl ?_
            refine tq_if_eq (tgt := 76) (dget dX5_firstFaultBehindHead 36 rfl) (by decide) (fun c_67 => ?_) (fun c_67 => ?_)
            · exact absurd c_67 (by decide)
            · refine tq_iload_n 7 (dget dX5_firstFaultBehindHead 37 rfl) rfl rfl ?_
              refine tq_iconst (v := 2) (dget dX5_firstFaultBehindHead 38 rfl) rfl ?_
              refine tq_iadd (dget dX5_firstFaultBehindHead 39 rfl) ?_
              refine tq_eqi (y := (nI (S + 2))) (nI_add S 2) ?_
              refine tq_goto (tgt := 79) (dget dX5_firstFaultBehindHead 40 rfl) (by decide) ?_
              refine tq_icmp_ne (tgt := 88) (dget dX5_firstFaultBehindHead 44 rfl) (by decide) (fun c_79 => ?_) (fun c_79 => ?_)
              · have g_79 := n_ne c_79
                refine tq_iinc (v := (nI (pl + 1))) (ls2 := [(7, .int (nI (pl + 1))), (6, .int (nI (i + 1))), (8, .int 1), (5, .int (nI part)), (4, .int (nI (endT S M))), (0, .ref 33), (1, .int (nI N)), (2, .int (nI S)), (3, .int (nI M))]) 2 (dget dX5_firstFaultBehindHead 48 rfl) rfl (nI_1 pl) (by decide) rfl ?_
                refine tq_goto (tgt := 17) (dget dX5_firstFaultBehindHead 49 rfl) (by decide) ?_
                refine tq_sub [0, 1, 3, 4, 5, 6, 7, 8] (ls' := [(7, .int (nI (pl + 1))), (6, .int (nI (i + 1))), (5, .int (nI part)), (4, .int (nI (endT S M))), (0, .ref 33), (1, .int (nI N)), (2, .int (nI S)), (3, .int (nI M))]) rfl ?_
                refine ih part (i + 1) (pl + 1) (by omega) (by omega) (by omega) (by omega) (tpos_n1 hT g_27 g_79) (fun q h3 hq => ?_)
                by_cases e : q = pl
                · rw [e]; exact ⟨g_40, (tpos_fit1 hT g_27).mpr (b_51.t c_54)⟩
                · exact hI q h3 (by omega)
              · have g_79 := n_eq (by omega) (by omega) c_79
                refine tq_iinc (v := (nI (part + 1))) (ls2 := [(5, .int (nI (part + 1))), (6, .int (nI (i + 1))), (8, .int 1), (7, .int (nI pl)), (4, .int (nI (endT S M))), (0, .ref 33), (1, .int (nI N)), (2, .int (nI S)), (3, .int (nI M))]) 3 (dget dX5_firstFaultBehindHead 45 rfl) rfl (nI_1 part) (by decide) rfl ?_
                refine tq_iconst (v := 0) (dget dX5_firstFaultBehindHead 46 rfl) rfl ?_
                refine tq_istore (ls2 := [(6, .int 0), (5, .int (nI (part + 1))), (8, .int 1), (7, .int (nI pl)), (4, .int (nI (endT S M))), (0, .ref 33), (1, .int (nI N)), (2, .int (nI S)), (3, .int (nI M))]) (dget dX5_firstFaultBehindHead 47 rfl) (by decide) rfl ?_
                refine tq_iinc (v := (nI (pl + 1))) (ls2 := [(7, .int (nI (pl + 1))), (6, .int 0), (5, .int (nI (part + 1))), (8, .int 1), (4, .int (nI (endT S M))), (0, .ref 33), (1, .int (nI N)), (2, .int (nI S)), (3, .int (nI M))]) 3 (dget dX5_firstFaultBehindHead 48 rfl) rfl (nI_1 pl) (by decide) rfl ?_
                refine tq_goto (tgt := 17) (dget dX5_firstFaultBehindHead 49 rfl) (by decide) ?_
                refine tq_sub [0, 1, 2, 4, 5, 6, 7, 8] (ls' := [(7, .int (nI (pl + 1))), (6, .int 0), (5, .int (nI (part + 1))), (4, .int (nI (endT S M))), (0, .ref 33), (1, .int (nI N)), (2, .int (nI S)), (3, .int (nI M))]) rfl ?_
                rw [show (0 : Int32) = nI 0 from rfl]
                refine ih (part + 1) 0 (pl + 1) (by omega) (by omega) (by omega) (by omega) (tpos_w1 hT g_27 g_79) (fun q h3 hq => ?_)
                by_cases e : q = pl
                · rw [e]; exact ⟨g_40, (tpos_fit1 hT g_27).mpr (b_51.t c_54)⟩
                · exact hI q h3 (by omega)
          · refine tq_iload 1 (dget dX5_firstFaultBehindHead 31 rfl) rfl ?_
            exact tq_iret rfl (dget dX5_firstFaultBehindHead 32 rfl) ⟨_, rfl, Or.inr ⟨pl, rfl, by omega, by omega, hI, Or.inl ⟨g_21, fun q => b_51.f c_54 ((tpos_fit1 hT g_27).mp q.2)⟩⟩, rfl⟩
set_option maxHeartbeats 4000000 in
set_option maxRecDepth 20000 in
theorem c_behind (σ : Mem) (S M N : Nat) (hS : S ≤ 6) (hM : M ≤ 4) (hN : N ≤ 100) (d : Nat) (hd : 2 ≤ d) : PMet d mX5_firstFaultBehindHead [.ref 33, .int (nI N), .int (nI S), .int (nI M)] σ (Pi (fun v σ2 => tbP S M (σ 33) N v ∧ σ2 = σ)) := by
  obtain ⟨d, rfl⟩ : ∃ e, d = e + 1 := ⟨d - 1, by omega⟩
  refine PMet.start (ls0 := [(0, .ref 33), (1, .int (nI N)), (2, .int (nI S)), (3, .int (nI M))]) miX5_firstFaultBehindHead.1 (Nat.le_of_ble_eq_true rfl) rfl ?_
  have he := endT_le hS hM
  refine tq_iload_n 2 (dget dX5_firstFaultBehindHead 0 rfl) rfl rfl ?_
  refine tq_iload_n 3 (dget dX5_firstFaultBehindHead 1 rfl) rfl rfl ?_
  refine tq_iload_n 2 (dget dX5_firstFaultBehindHead 2 rfl) rfl rfl ?_
  refine mq_Si (As := [.int (nI S), .int (nI M), .int (nI S)]) (rest := []) (dget dX5_firstFaultBehindHead 3 rfl) lX5_19 miX5_suitorPlace (c_suitorPlace σ S M S d (by omega)) rfl rfl (Nat.le_of_ble_eq_true rfl) (Nat.le_of_ble_eq_true rfl) (fun r_3 σ_3 h_3 => ?_)
  obtain ⟨a_3, e_3⟩ := h_3
  obtain rfl := a_3.symm
  obtain rfl := e_3.symm
  refine tq_istore (ls2 := [(4, .int (nI (3 + M * (S + 2) + S * (M + 1)))), (0, .ref 33), (1, .int (nI N)), (2, .int (nI S)), (3, .int (nI M))]) (dget dX5_firstFaultBehindHead 4 rfl) (by decide) rfl ?_
  refine tq_iconst (v := 0) (dget dX5_firstFaultBehindHead 5 rfl) rfl ?_
  refine tq_istore (ls2 := [(5, .int 0), (4, .int (nI (3 + M * (S + 2) + S * (M + 1)))), (0, .ref 33), (1, .int (nI N)), (2, .int (nI S)), (3, .int (nI M))]) (dget dX5_firstFaultBehindHead 6 rfl) (by decide) rfl ?_
  refine tq_iconst (v := 0) (dget dX5_firstFaultBehindHead 7 rfl) rfl ?_
  refine tq_istore (ls2 := [(6, .int 0), (5, .int 0), (4, .int (nI (3 + M * (S + 2) + S * (M + 1)))), (0, .ref 33), (1, .int (nI N)), (2, .int (nI S)), (3, .int (nI M))]) (dget dX5_firstFaultBehindHead 8 rfl) (by decide) rfl ?_
  refine tq_iconst (v := 3) (dget dX5_firstFaultBehindHead 9 rfl) rfl ?_
  refine tq_istore (ls2 := [(7, .int 3), (6, .int 0), (5, .int 0), (4, .int (nI (3 + M * (S + 2) + S * (M + 1)))), (0, .ref 33), (1, .int (nI N)), (2, .int (nI S)), (3, .int (nI M))]) (dget dX5_firstFaultBehindHead 10 rfl) (by decide) rfl ?_
  refine tq_sub [0, 1, 2, 3, 4, 5, 6, 7] (ls' := [(7, .int 3), (6, .int 0), (5, .int 0), (4, .int (nI (3 + M * (S + 2) + S * (M + 1)))), (0, .ref 33), (1, .int (nI N)), (2, .int (nI S)), (3, .int (nI M))]) rfl ?_
  exact c_behind_loop σ S M N hS hM hN (d + 1) (by omega) (endT S M + 1) 0 0 3 (by omega) (by omega) (by unfold endT; omega) (by omega) (by by_cases q : 0 < M; exact Or.inl ⟨q, by omega, by omega⟩; exact Or.inr ⟨by omega, by rw [show M = 0 by omega]; simp, by omega⟩) (fun q h3 hq => absurd hq (by omega))

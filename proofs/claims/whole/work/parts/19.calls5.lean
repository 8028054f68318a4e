/-! ===== the class's public calls (5): a row asked, a text ===== -/
def fcS (σ : Mem) (k l i n : Int32) : Int32 := fcF (shH σ k) (shV σ k) (shN σ k) l i n
def ceS (σ : Mem) (k i : Int32) (j : Nat) : Int32 := σ (35 + 2 * cl k) (cl i + j)
def aqP (σ : Mem) (x k i : Int32) : Nat → Prop := fun j => ¬ ansF (σ 1 2) (σ 2 (cl x)) (σ (4 + cl x) (cl (ceS σ k i j))) (nI j) = 3
def aqF (σ : Mem) (x k i : Int32) : Nat → Int32 := fun j => σ (4 + cl x) (cl (ceS σ k i j))
theorem fc_0 {σ : Mem} {k l i n : Int32} (h : fcS σ k l i n = 0) : 0 ≤ i ∧ i ≤ shN σ k ∧ 0 ≤ n ∧ n ≤ shN σ k - i := by
  unfold fcS fcF at h
  by_cases h1 : frF (shH σ k) (shV σ k) l = 0
  · rw [if_neg (fun q => q h1)] at h
    by_cases h2 : n < 0
    · rw [if_pos h2] at h; exact absurd h (by decide)
    · rw [if_neg h2] at h
      by_cases h3 : 0 ≤ i ∧ i ≤ shN σ k ∧ 0 ≤ n ∧ n ≤ shN σ k - i
      · exact h3
      · rw [if_neg h3] at h; exact absurd h (by decide)
  · rw [if_pos h1] at h; exact absurd h h1
theorem mem_33 {σ τ : Mem} {f : Nat → Int32} (h : upR σ 33 f = τ) : τ = upR σ 33 (τ 33) := by rw [← h, upR_s]

set_option maxHeartbeats 4000000 in
set_option maxRecDepth 20000 in
theorem c_asked (σ : Mem) (S M : Nat) (hV : VA σ S M) (hSh : SHT σ) (x k l i n z : Int32) (d : Nat) (hd : 3 ≤ d) : PMet d mX7_asked [.ref 0, .int x, .int k, .int l, .int i, .int n, .int z] σ (Pi (fun v σ2 => v = cnd (hM σ x) (cnd (isSh k) (cnd (isLn l) (cnd (z = 0 ∨ z = 1) (cnd (fcS σ k l i n = 0) (cnd (1 ≤ n ∧ n ≤ 8) (cnd (∀ j, j < cl n → hS σ (ceS σ k i j)) (cnd (z = 0) (bestF (σ 1 2) (aqF σ x k i) (cl n)) (mndR (aqP σ x k i) (aqF σ x k i) (cl n) 0)) (-1)) (-2)) (-10 - fcS σ k l i n)) (-2)) (-2)) (-1)) (-1) ∧ ∃ ρ, σ2 = up (upR σ 33 ρ) 0 7 (cnd (hM σ x) (cnd (isSh k) (cnd (isLn l) (cnd (z = 0 ∨ z = 1) (fcS σ k l i n) 0) 0) 0) 0))) := by
  obtain ⟨d, rfl⟩ : ∃ e, d = e + 1 := ⟨d - 1, by omega⟩
  refine PMet.start (ls0 := [(0, .ref 0), (1, .int x), (2, .int k), (3, .int l), (4, .int i), (5, .int n), (6, .int z)]) miX7_asked.1 (Nat.le_of_ble_eq_true rfl) rfl ?_
  refine tq_aload_n 0 (dget dX7_asked 0 rfl) rfl rfl ?_
  refine tq_getR (dget dX7_asked 1 rfl) fX7_12 rfl rfl ?_
  refine tq_iload_n 1 (dget dX7_asked 2 rfl) rfl rfl ?_
  refine mq_Vi (As := [.int x]) (rest := []) (dget dX7_asked 3 rfl) lX7_92 miX6_hasMaid (c_hasMaid σ x d (by omega)) rfl rfl rfl rfl (Nat.le_of_ble_eq_true rfl) (Nat.le_of_ble_eq_true rfl) (fun r_5 σ_5 h_5 => ?_)
  obtain ⟨b_5, e_5⟩ := h_5
  obtain rfl := e_5.symm
  refine tq_if_eq (tgt := 18) (dget dX7_asked 4 rfl) (by decide) (fun c_8 => ?_) (fun c_8 => ?_)
  · refine tq_aload_n 0 (dget dX7_asked 8 rfl) rfl rfl ?_
    refine tq_iconst (v := (-1)) (dget dX7_asked 9 rfl) rfl ?_
    refine mq_Vi (As := [.int (-1)]) (rest := []) (dget dX7_asked 10 rfl) lX7_54 miX7_faultless (c_faultless σ (-1) d (by omega)) rfl rfl rfl rfl (Nat.le_of_ble_eq_true rfl) (Nat.le_of_ble_eq_true rfl) (fun r_20 σ_20 h_20 => ?_)
    obtain ⟨a_20, e_20⟩ := h_20
    rw [a_20]
    obtain rfl := e_20.symm
    exact tq_iret rfl (dget dX7_asked 11 rfl) ⟨_, rfl, by simp only [cnd_f (P := hM σ x) (b_5.f c_8)], σ 33, by simp only [cnd_f (P := hM σ x) (b_5.f c_8)]; rw [upR_self]⟩
  · refine tq_iload_n 2 (dget dX7_asked 5 rfl) rfl rfl ?_
    refine mq_Si (As := [.int k]) (rest := []) (dget dX7_asked 6 rfl) lX7_50 miX7_isSheet (c_isSheet σ k d (by omega)) rfl rfl (Nat.le_of_ble_eq_true rfl) (Nat.le_of_ble_eq_true rfl) (fun r_12 σ_12 h_12 => ?_)
    obtain ⟨b_12, e_12⟩ := h_12
    obtain rfl := e_12.symm
    refine tq_if_ne (tgt := 24) (dget dX7_asked 7 rfl) (by decide) (fun c_15 => ?_) (fun c_15 => ?_)
    · obtain ⟨m, e_m, hm, hm4⟩ := hM_n hV (b_5.t c_8)
      subst e_m
      obtain ⟨kk, e_kk, hkk⟩ := isSh_n (b_12.t c_15)
      subst e_kk
      refine tq_iload_n 3 (dget dX7_asked 12 rfl) rfl rfl ?_
      refine mq_Si (As := [.int l]) (rest := []) (dget dX7_asked 13 rfl) lX7_58 miX7_isLane (c_isLane σ l d (by omega)) rfl rfl (Nat.le_of_ble_eq_true rfl) (Nat.le_of_ble_eq_true rfl) (fun r_25 σ_25 h_25 => ?_)
      obtain ⟨b_25, e_25⟩ := h_25
      obtain rfl := e_25.symm
      refine tq_if_eq (tgt := 42) (dget dX7_asked 14 rfl) (by decide) (fun c_28 => ?_) (fun c_28 => ?_)
      · refine tq_aload_n 0 (dget dX7_asked 20 rfl) rfl rfl ?_
        refine tq_bipush (v := (-2)) (dget dX7_asked 21 rfl) rfl ?_
        refine mq_Vi (As := [.int (-2)]) (rest := []) (dget dX7_asked 22 rfl) lX7_54 miX7_faultless (c_faultless σ (-2) d (by omega)) rfl rfl rfl rfl (Nat.le_of_ble_eq_true rfl) (Nat.le_of_ble_eq_true rfl) (fun r_45 σ_45 h_45 => ?_)
        obtain ⟨a_45, e_45⟩ := h_45
        rw [a_45]
        obtain rfl := e_45.symm
        exact tq_iret rfl (dget dX7_asked 23 rfl) ⟨_, rfl, by simp only [cnd_t (P := hM σ (nI m)) (b_5.t c_8), cnd_t (P := isSh (nI kk)) (b_12.t c_15), cnd_f (P := isLn l) (b_25.f c_28)], σ 33, by simp only [cnd_t (P := hM σ (nI m)) (b_5.t c_8), cnd_t (P := isSh (nI kk)) (b_12.t c_15), cnd_f (P := isLn l) (b_25.f c_28)]; rw [upR_self]⟩
      · refine tq_iload 6 (dget dX7_asked 15 rfl) rfl ?_
        refine tq_if_eq (tgt := 49) (dget dX7_asked 16 rfl) (by decide) (fun c_33 => ?_) (fun c_33 => ?_)
        · refine tq_aload_n 0 (dget dX7_asked 24 rfl) rfl rfl ?_
          refine tq_getR (dget dX7_asked 25 rfl) fX7_41 rfl rfl ?_
          refine tq_iload_n 2 (dget dX7_asked 26 rfl) rfl rfl ?_
          refine tq_sheets kk (dget dX7_asked 27 rfl) rfl (by omega) ?_
          refine tq_iload_n 3 (dget dX7_asked 28 rfl) rfl rfl ?_
          refine tq_iload 4 (dget dX7_asked 29 rfl) rfl ?_
          refine tq_iload 5 (dget dX7_asked 30 rfl) rfl ?_
          refine mq_Vi (As := [.int l, .int i, .int n]) (rest := []) (dget dX7_asked 31 rfl) lX7_61 miX4_faultOfCells (c_faultOfCells σ kk (by omega) l i n d (by omega)) (SH_sheet (by omega)) rfl rfl rfl (Nat.le_of_ble_eq_true rfl) (Nat.le_of_ble_eq_true rfl) (fun r_60 σ_60 h_60 => ?_)
          obtain ⟨a_60, e_60⟩ := h_60
          obtain rfl := a_60.symm
          obtain rfl := e_60.symm
          refine tq_istore (ls2 := [(7, .int (fcF (σ (34 + 2 * kk) 1) (σ (34 + 2 * kk) 2) (σ (34 + 2 * kk) 3) l i n)), (0, .ref 0), (1, .int (nI m)), (2, .int (nI kk)), (3, .int l), (4, .int i), (5, .int n), (6, .int z)]) (dget dX7_asked 32 rfl) (by decide) rfl ?_
          refine tq_iload 0 (dget dX7_asked 33 rfl) rfl ?_
          refine tq_if_eq (tgt := 77) (dget dX7_asked 34 rfl) (by decide) (fun c_67 => ?_) (fun c_67 => ?_)
          · have gF : fcS σ (nI kk) l i n = 0 := by unfold fcS shH shV shN; rw [show cl (nI kk) = kk from nI_clamp (by omega)]; exact c_67
            obtain ⟨l0, hl, el⟩ := hSh kk hkk
            obtain ⟨a, N, e_a, e_N, haN⟩ := cells_n (fc_0 gF) (by unfold shN; rw [show cl (nI kk) = kk from nI_clamp (by omega)]; exact el) hl
            subst e_a
            subst e_N
            refine tq_iload 6 (dget dX7_asked 39 rfl) rfl ?_
            refine tq_iconst (v := 1) (dget dX7_asked 40 rfl) rfl ?_
            refine tq_icmp_lt (tgt := 90) (dget dX7_asked 41 rfl) (by decide) (fun c_80 => ?_) (fun c_80 => ?_)
            · refine tq_aload_n 1 (dget dX7_asked 45 rfl) rfl rfl ?_
              refine tq_bipush (v := (-2)) (dget dX7_asked 46 rfl) rfl ?_
              refine mq_Vi (As := [.int (-2)]) (rest := []) (dget dX7_asked 47 rfl) lX7_54 miX7_faultless (c_faultless σ (-2) d (by omega)) rfl rfl rfl rfl (Nat.le_of_ble_eq_true rfl) (Nat.le_of_ble_eq_true rfl) (fun r_93 σ_93 h_93 => ?_)
              obtain ⟨a_93, e_93⟩ := h_93
              rw [a_93]
              obtain rfl := e_93.symm
              exact tq_iret rfl (dget dX7_asked 48 rfl) ⟨_, rfl, by simp only [cnd_t (P := hM σ (nI m)) (b_5.t c_8), cnd_t (P := isSh (nI kk)) (b_12.t c_15), cnd_t (P := isLn l) (b_25.t c_28), cnd_t (P := z = 0 ∨ z = 1) (Or.inl c_33), cnd_t (P := fcS σ (nI kk) l (nI a) (nI N) = 0) gF, cnd_f (P := 1 ≤ nI N ∧ nI N ≤ 8) (fun q => by first | exact absurd q.1 (Int32.not_le.mpr c_80) | exact c_87 q.2)], σ 33, by simp only [cnd_t (P := hM σ (nI m)) (b_5.t c_8), cnd_t (P := isSh (nI kk)) (b_12.t c_15), cnd_t (P := isLn l) (b_25.t c_28), cnd_t (P := z = 0 ∨ z = 1) (Or.inl c_33), cnd_t (P := fcS σ (nI kk) l (nI a) (nI N) = 0) gF, cnd_f (P := 1 ≤ nI N ∧ nI N ≤ 8) (fun q => by first | exact absurd q.1 (Int32.not_le.mpr c_80) | exact c_87 q.2), gF]; rw [upR_self]⟩
            · refine tq_iload 6 (dget dX7_asked 42 rfl) rfl ?_
              refine tq_bipush (v := 8) (dget dX7_asked 43 rfl) rfl ?_
              refine tq_icmp_le (tgt := 97) (dget dX7_asked 44 rfl) (by decide) (fun c_87 => ?_) (fun c_87 => ?_)
              · refine tq_aload_n 1 (dget dX7_asked 49 rfl) rfl rfl ?_
                refine tq_getR (dget dX7_asked 50 rfl) fX7_41 rfl rfl ?_
                refine tq_iload_n 3 (dget dX7_asked 51 rfl) rfl rfl ?_
                refine tq_sheets kk (dget dX7_asked 52 rfl) rfl (by omega) ?_
                refine tq_aload_n 1 (dget dX7_asked 53 rfl) rfl rfl ?_
                refine tq_getR (dget dX7_asked 54 rfl) fX7_45 rfl rfl ?_
                refine tq_iload 5 (dget dX7_asked 55 rfl) rfl ?_
                refine tq_iload 6 (dget dX7_asked 56 rfl) rfl ?_
                refine mq_Vv (As := [.ref 33, .int (nI a), .int (nI N)]) (rest := []) (dget dX7_asked 57 rfl) lX7_68 miX4_readInto (c_readInto σ kk hkk a N (by omega) d (by omega)) (SH_sheet (by omega)) rfl rfl rfl (Nat.le_of_ble_eq_true rfl) (Nat.le_of_ble_eq_true rfl) (fun σ_111 h_111 => ?_)
                obtain rfl := Eq.symm h_111
                generalize hτ : upR σ 33 (va_cpy (σ (35 + 2 * kk)) (σ 33) a 0 N) = τ
                have t0 := mem_33 hτ
                have t1 : τ 1 = σ 1 := by rw [← hτ]; exact upR_n (by decide)
                have t2 : τ 2 = σ 2 := by rw [← hτ]; exact upR_n (by decide)
                have t4 : τ (4 + m) = σ (4 + m) := by rw [← hτ]; exact upR_n (by omega)
                have t33 : ∀ j, j < N → τ 33 j = σ (35 + 2 * kk) (a + j) := fun j hj => by rw [← hτ, upR_s]; unfold va_cpy; rw [if_pos ⟨Nat.zero_le _, by omega⟩, Nat.sub_zero]
                refine tq_aload_n 1 (dget dX7_asked 58 rfl) rfl rfl ?_
                refine tq_getR (dget dX7_asked 59 rfl) fX7_12 rfl rfl ?_
                refine tq_aload_n 1 (dget dX7_asked 60 rfl) rfl rfl ?_
                refine tq_getR (dget dX7_asked 61 rfl) fX7_45 rfl rfl ?_
                refine tq_iload 6 (dget dX7_asked 62 rfl) rfl ?_
                refine mq_Vi (As := [.ref 33, .int (nI N)]) (rest := []) (dget dX7_asked 63 rfl) lX7_156 miX6_areSuitors (c_areSuitors τ N (by omega) d (by omega)) rfl rfl rfl rfl (Nat.le_of_ble_eq_true rfl) (Nat.le_of_ble_eq_true rfl) (fun r_124 σ_124 h_124 => ?_)
                obtain ⟨b0_124, e_124⟩ := h_124
                obtain rfl := e_124.symm
                have gE : (∀ j, j < N → 0 ≤ τ 33 j ∧ τ 33 j < τ 1 0) ↔ ∀ j, j < N → hS σ (ceS σ (nI kk) (nI a) j) := by
                  constructor
                  all_goals intro q j hj
                  all_goals have q1 := q j hj
                  all_goals unfold hS ceS at *
                  all_goals simp only [show cl (nI kk) = kk from nI_clamp (by omega), show cl (nI a) = a from nI_clamp (by omega), t33 j hj, t1] at q1 ⊢
                  all_goals exact q1
                have b_124 := b0_124.iff gE
                refine tq_if_ne (tgt := 136) (dget dX7_asked 64 rfl) (by decide) (fun c_127 => ?_) (fun c_127 => ?_)
                · have gA := b_124.t c_127
                  have hw : ∀ j, j < N → τ 33 j = nI (cl (ceS σ (nI kk) (nI a) j)) ∧ cl (ceS σ (nI kk) (nI a) j) < 6 := fun j hj => by
                    obtain ⟨s, e1, e2, e3⟩ := hS_n hV (gA j hj)
                    rw [t33 j hj]
                    have e4 : ceS σ (nI kk) (nI a) j = σ (35 + 2 * kk) (a + j) := by unfold ceS; rw [show cl (nI kk) = kk from nI_clamp (by omega), show cl (nI a) = a from nI_clamp (by omega)]
                    rw [e4] at e1 ⊢
                    rw [e1, show cl (nI s) = s from nI_clamp (by omega)]
                    exact ⟨rfl, e3⟩
                  refine tq_aload_n 1 (dget dX7_asked 69 rfl) rfl rfl ?_
                  refine tq_iload 7 (dget dX7_asked 70 rfl) rfl ?_
                  refine tq_if_ne (tgt := 159) (dget dX7_asked 71 rfl) (by decide) (fun c_139 => ?_) (fun c_139 => ?_)
                  · refine tq_aload_n 1 (dget dX7_asked 80 rfl) rfl rfl ?_
                    refine tq_getR (dget dX7_asked 81 rfl) fX7_12 rfl rfl ?_
                    refine tq_iload_n 2 (dget dX7_asked 82 rfl) rfl rfl ?_
                    refine tq_aload_n 1 (dget dX7_asked 83 rfl) rfl rfl ?_
                    refine tq_getR (dget dX7_asked 84 rfl) fX7_45 rfl rfl ?_
                    refine tq_iload 6 (dget dX7_asked 85 rfl) rfl ?_
                    refine mq_Vi (As := [.int (nI m), .ref 33, .int (nI N)]) (rest := [.ref 0]) (dget dX7_asked 86 rfl) lX7_164 miX6_minded (c_minded τ m N (fun j => cl (ceS σ (nI kk) (nI a) j)) hm4 (by omega) hw d (by omega)) rfl rfl rfl rfl (Nat.le_of_ble_eq_true rfl) (Nat.le_of_ble_eq_true rfl) (fun r_170 σ_170 h_170 => ?_)
                    obtain ⟨a_170, e_170⟩ := h_170
                    obtain rfl := e_170.symm
                    rw [t1, t2, t4] at a_170
                    have a_q : r_170 = mndR (aqP σ (nI m) (nI kk) (nI a)) (aqF σ (nI m) (nI kk) (nI a)) N 0 := mnd_eq (by unfold aqP aqF; rw [show cl (nI m) = m from nI_clamp (by omega)]; exact a_170)
                    rw [a_q]
                    refine mq_Vi (As := [.int (mndR (aqP σ (nI m) (nI kk) (nI a)) (aqF σ (nI m) (nI kk) (nI a)) N 0)]) (rest := []) (dget dX7_asked 87 rfl) lX7_54 miX7_faultless (c_faultless τ (mndR (aqP σ (nI m) (nI kk) (nI a)) (aqF σ (nI m) (nI kk) (nI a)) N 0) d (by omega)) rfl rfl rfl rfl (Nat.le_of_ble_eq_true rfl) (Nat.le_of_ble_eq_true rfl) (fun r_173 σ_173 h_173 => ?_)
                    obtain ⟨a_173, e_173⟩ := h_173
                    rw [a_173]
                    obtain rfl := e_173.symm
                    exact tq_iret rfl (dget dX7_asked 88 rfl) ⟨_, rfl, by simp only [cnd_t (P := hM σ (nI m)) (b_5.t c_8), cnd_t (P := isSh (nI kk)) (b_12.t c_15), cnd_t (P := isLn l) (b_25.t c_28), cnd_t (P := z = 0 ∨ z = 1) (Or.inl c_33), cnd_t (P := fcS σ (nI kk) l (nI a) (nI N) = 0) gF, cnd_t (P := 1 ≤ nI N ∧ nI N ≤ 8) ⟨Int32.not_lt.mp c_80, c_87⟩, nI_clamp (show N < 2 ^ 31 by omega), cnd_t (P := ∀ j, j < N → hS σ (ceS σ (nI kk) (nI a) j)) gA, cnd_f c_139], τ 33, by simp only [cnd_t (P := hM σ (nI m)) (b_5.t c_8), cnd_t (P := isSh (nI kk)) (b_12.t c_15), cnd_t (P := isLn l) (b_25.t c_28), cnd_t (P := z = 0 ∨ z = 1) (Or.inl c_33), cnd_t (P := fcS σ (nI kk) l (nI a) (nI N) = 0) gF, cnd_t (P := 1 ≤ nI N ∧ nI N ≤ 8) ⟨Int32.not_lt.mp c_80, c_87⟩, nI_clamp (show N < 2 ^ 31 by omega), cnd_t (P := ∀ j, j < N → hS σ (ceS σ (nI kk) (nI a) j)) gA, cnd_f c_139, gF]; rw [← t0]⟩
                  · refine tq_aload_n 1 (dget dX7_asked 72 rfl) rfl rfl ?_
                    refine tq_getR (dget dX7_asked 73 rfl) fX7_12 rfl rfl ?_
                    refine tq_iload_n 2 (dget dX7_asked 74 rfl) rfl rfl ?_
                    refine tq_aload_n 1 (dget dX7_asked 75 rfl) rfl rfl ?_
                    refine tq_getR (dget dX7_asked 76 rfl) fX7_45 rfl rfl ?_
                    refine tq_iload 6 (dget dX7_asked 77 rfl) rfl ?_
                    refine mq_Vi (As := [.int (nI m), .ref 33, .int (nI N)]) (rest := [.ref 0]) (dget dX7_asked 78 rfl) lX7_160 miX6_best (c_best τ m N (fun j => cl (ceS σ (nI kk) (nI a) j)) hm4 (by omega) hw d (by omega)) rfl rfl rfl rfl (Nat.le_of_ble_eq_true rfl) (Nat.le_of_ble_eq_true rfl) (fun r_153 σ_153 h_153 => ?_)
                    obtain ⟨a_153, e_153⟩ := h_153
                    obtain rfl := e_153.symm
                    rw [a_153, show bestF (τ 1 2) (fun j => τ (4 + m) (cl (ceS σ (nI kk) (nI a) j))) N = bestF (σ 1 2) (aqF σ (nI m) (nI kk) (nI a)) N by rw [t1, t4]; unfold aqF; rw [show cl (nI m) = m from nI_clamp (by omega)]]
                    refine tq_goto (tgt := 173) (dget dX7_asked 79 rfl) (by decide) ?_
                    refine mq_Vi (As := [.int (bestF (σ 1 2) (aqF σ (nI m) (nI kk) (nI a)) N)]) (rest := []) (dget dX7_asked 87 rfl) lX7_54 miX7_faultless (c_faultless τ (bestF (σ 1 2) (aqF σ (nI m) (nI kk) (nI a)) N) d (by omega)) rfl rfl rfl rfl (Nat.le_of_ble_eq_true rfl) (Nat.le_of_ble_eq_true rfl) (fun r_173 σ_173 h_173 => ?_)
                    obtain ⟨a_173, e_173⟩ := h_173
                    rw [a_173]
                    obtain rfl := e_173.symm
                    exact tq_iret rfl (dget dX7_asked 88 rfl) ⟨_, rfl, by simp only [cnd_t (P := hM σ (nI m)) (b_5.t c_8), cnd_t (P := isSh (nI kk)) (b_12.t c_15), cnd_t (P := isLn l) (b_25.t c_28), cnd_t (P := z = 0 ∨ z = 1) (Or.inl c_33), cnd_t (P := fcS σ (nI kk) l (nI a) (nI N) = 0) gF, cnd_t (P := 1 ≤ nI N ∧ nI N ≤ 8) ⟨Int32.not_lt.mp c_80, c_87⟩, nI_clamp (show N < 2 ^ 31 by omega), cnd_t (P := ∀ j, j < N → hS σ (ceS σ (nI kk) (nI a) j)) gA, cnd_t c_139], τ 33, by simp only [cnd_t (P := hM σ (nI m)) (b_5.t c_8), cnd_t (P := isSh (nI kk)) (b_12.t c_15), cnd_t (P := isLn l) (b_25.t c_28), cnd_t (P := z = 0 ∨ z = 1) (Or.inl c_33), cnd_t (P := fcS σ (nI kk) l (nI a) (nI N) = 0) gF, cnd_t (P := 1 ≤ nI N ∧ nI N ≤ 8) ⟨Int32.not_lt.mp c_80, c_87⟩, nI_clamp (show N < 2 ^ 31 by omega), cnd_t (P := ∀ j, j < N → hS σ (ceS σ (nI kk) (nI a) j)) gA, cnd_t c_139, gF]; rw [← t0]⟩
                · have gA := b_124.f c_127
                  refine tq_aload_n 1 (dget dX7_asked 65 rfl) rfl rfl ?_
                  refine tq_iconst (v := (-1)) (dget dX7_asked 66 rfl) rfl ?_
                  refine mq_Vi (As := [.int (-1)]) (rest := []) (dget dX7_asked 67 rfl) lX7_54 miX7_faultless (c_faultless τ (-1) d (by omega)) rfl rfl rfl rfl (Nat.le_of_ble_eq_true rfl) (Nat.le_of_ble_eq_true rfl) (fun r_132 σ_132 h_132 => ?_)
                  obtain ⟨a_132, e_132⟩ := h_132
                  rw [a_132]
                  obtain rfl := e_132.symm
                  exact tq_iret rfl (dget dX7_asked 68 rfl) ⟨_, rfl, by simp only [cnd_t (P := hM σ (nI m)) (b_5.t c_8), cnd_t (P := isSh (nI kk)) (b_12.t c_15), cnd_t (P := isLn l) (b_25.t c_28), cnd_t (P := z = 0 ∨ z = 1) (Or.inl c_33), cnd_t (P := fcS σ (nI kk) l (nI a) (nI N) = 0) gF, cnd_t (P := 1 ≤ nI N ∧ nI N ≤ 8) ⟨Int32.not_lt.mp c_80, c_87⟩, nI_clamp (show N < 2 ^ 31 by omega), cnd_f (P := ∀ j, j < N → hS σ (ceS σ (nI kk) (nI a) j)) gA], τ 33, by simp only [cnd_t (P := hM σ (nI m)) (b_5.t c_8), cnd_t (P := isSh (nI kk)) (b_12.t c_15), cnd_t (P := isLn l) (b_25.t c_28), cnd_t (P := z = 0 ∨ z = 1) (Or.inl c_33), cnd_t (P := fcS σ (nI kk) l (nI a) (nI N) = 0) gF, cnd_t (P := 1 ≤ nI N ∧ nI N ≤ 8) ⟨Int32.not_lt.mp c_80, c_87⟩, nI_clamp (show N < 2 ^ 31 by omega), cnd_f (P := ∀ j, j < N → hS σ (ceS σ (nI kk) (nI a) j)) gA, gF]; rw [← t0]⟩
              · refine tq_aload_n 1 (dget dX7_asked 45 rfl) rfl rfl ?_
                refine tq_bipush (v := (-2)) (dget dX7_asked 46 rfl) rfl ?_
                refine mq_Vi (As := [.int (-2)]) (rest := []) (dget dX7_asked 47 rfl) lX7_54 miX7_faultless (c_faultless σ (-2) d (by omega)) rfl rfl rfl rfl (Nat.le_of_ble_eq_true rfl) (Nat.le_of_ble_eq_true rfl) (fun r_93 σ_93 h_93 => ?_)
                obtain ⟨a_93, e_93⟩ := h_93
                rw [a_93]
                obtain rfl := e_93.symm
                exact tq_iret rfl (dget dX7_asked 48 rfl) ⟨_, rfl, by simp only [cnd_t (P := hM σ (nI m)) (b_5.t c_8), cnd_t (P := isSh (nI kk)) (b_12.t c_15), cnd_t (P := isLn l) (b_25.t c_28), cnd_t (P := z = 0 ∨ z = 1) (Or.inl c_33), cnd_t (P := fcS σ (nI kk) l (nI a) (nI N) = 0) gF, cnd_f (P := 1 ≤ nI N ∧ nI N ≤ 8) (fun q => by first | exact absurd q.1 (Int32.not_le.mpr c_80) | exact c_87 q.2)], σ 33, by simp only [cnd_t (P := hM σ (nI m)) (b_5.t c_8), cnd_t (P := isSh (nI kk)) (b_12.t c_15), cnd_t (P := isLn l) (b_25.t c_28), cnd_t (P := z = 0 ∨ z = 1) (Or.inl c_33), cnd_t (P := fcS σ (nI kk) l (nI a) (nI N) = 0) gF, cnd_f (P := 1 ≤ nI N ∧ nI N ≤ 8) (fun q => by first | exact absurd q.1 (Int32.not_le.mpr c_80) | exact c_87 q.2), gF]; rw [upR_self]⟩
          · have gFe : fcS σ (nI kk) l i n = fcF (σ (34 + 2 * kk) 1) (σ (34 + 2 * kk) 2) (σ (34 + 2 * kk) 3) l i n := by unfold fcS shH shV shN; rw [show cl (nI kk) = kk from nI_clamp (by omega)]
            have gF : ¬ fcS σ (nI kk) l i n = 0 := by rw [gFe]; exact c_67
            refine tq_aload_n 1 (dget dX7_asked 35 rfl) rfl rfl ?_
            refine tq_iload 0 (dget dX7_asked 36 rfl) rfl ?_
            refine mq_Vi (As := [.int (fcF (σ (34 + 2 * kk) 1) (σ (34 + 2 * kk) 2) (σ (34 + 2 * kk) 3) l i n)]) (rest := []) (dget dX7_asked 37 rfl) lX7_65 miX7_faulted (c_faulted σ (fcF (σ (34 + 2 * kk) 1) (σ (34 + 2 * kk) 2) (σ (34 + 2 * kk) 3) l i n) d (by omega)) rfl rfl rfl rfl (Nat.le_of_ble_eq_true rfl) (Nat.le_of_ble_eq_true rfl) (fun r_73 σ_73 h_73 => ?_)
            obtain ⟨a_73, e_73⟩ := h_73
            rw [a_73]
            obtain rfl := e_73.symm
            exact tq_iret rfl (dget dX7_asked 38 rfl) ⟨_, rfl, by simp only [cnd_t (P := hM σ (nI m)) (b_5.t c_8), cnd_t (P := isSh (nI kk)) (b_12.t c_15), cnd_t (P := isLn l) (b_25.t c_28), cnd_t (P := z = 0 ∨ z = 1) (Or.inl c_33), cnd_f (P := fcS σ (nI kk) l i n = 0) gF]; rw [gFe], σ 33, by simp only [cnd_t (P := hM σ (nI m)) (b_5.t c_8), cnd_t (P := isSh (nI kk)) (b_12.t c_15), cnd_t (P := isLn l) (b_25.t c_28), cnd_t (P := z = 0 ∨ z = 1) (Or.inl c_33), cnd_f (P := fcS σ (nI kk) l i n = 0) gF]; rw [upR_self, gFe]⟩
        · refine tq_iload 6 (dget dX7_asked 17 rfl) rfl ?_
          refine tq_iconst (v := 1) (dget dX7_asked 18 rfl) rfl ?_
          refine tq_icmp_eq (tgt := 49) (dget dX7_asked 19 rfl) (by decide) (fun c_39 => ?_) (fun c_39 => ?_)
          · refine tq_aload_n 0 (dget dX7_asked 24 rfl) rfl rfl ?_
            refine tq_getR (dget dX7_asked 25 rfl) fX7_41 rfl rfl ?_
            refine tq_iload_n 2 (dget dX7_asked 26 rfl) rfl rfl ?_
            refine tq_sheets kk (dget dX7_asked 27 rfl) rfl (by omega) ?_
            refine tq_iload_n 3 (dget dX7_asked 28 rfl) rfl rfl ?_
            refine tq_iload 4 (dget dX7_asked 29 rfl) rfl ?_
            refine tq_iload 5 (dget dX7_asked 30 rfl) rfl ?_
            refine mq_Vi (As := [.int l, .int i, .int n]) (rest := []) (dget dX7_asked 31 rfl) lX7_61 miX4_faultOfCells (c_faultOfCells σ kk (by omega) l i n d (by omega)) (SH_sheet (by omega)) rfl rfl rfl (Nat.le_of_ble_eq_true rfl) (Nat.le_of_ble_eq_true rfl) (fun r_60 σ_60 h_60 => ?_)
            obtain ⟨a_60, e_60⟩ := h_60
            obtain rfl := a_60.symm
            obtain rfl := e_60.symm
            refine tq_istore (ls2 := [(7, .int (fcF (σ (34 + 2 * kk) 1) (σ (34 + 2 * kk) 2) (σ (34 + 2 * kk) 3) l i n)), (0, .ref 0), (1, .int (nI m)), (2, .int (nI kk)), (3, .int l), (4, .int i), (5, .int n), (6, .int z)]) (dget dX7_asked 32 rfl) (by decide) rfl ?_
            refine tq_iload 0 (dget dX7_asked 33 rfl) rfl ?_
            refine tq_if_eq (tgt := 77) (dget dX7_asked 34 rfl) (by decide) (fun c_67 => ?_) (fun c_67 => ?_)
            · have gF : fcS σ (nI kk) l i n = 0 := by unfold fcS shH shV shN; rw [show cl (nI kk) = kk from nI_clamp (by omega)]; exact c_67
              obtain ⟨l0, hl, el⟩ := hSh kk hkk
              obtain ⟨a, N, e_a, e_N, haN⟩ := cells_n (fc_0 gF) (by unfold shN; rw [show cl (nI kk) = kk from nI_clamp (by omega)]; exact el) hl
              subst e_a
              subst e_N
              refine tq_iload 6 (dget dX7_asked 39 rfl) rfl ?_
              refine tq_iconst (v := 1) (dget dX7_asked 40 rfl) rfl ?_
              refine tq_icmp_lt (tgt := 90) (dget dX7_asked 41 rfl) (by decide) (fun c_80 => ?_) (fun c_80 => ?_)
              · refine tq_aload_n 1 (dget dX7_asked 45 rfl) rfl rfl ?_
                refine tq_bipush (v := (-2)) (dget dX7_asked 46 rfl) rfl ?_
                refine mq_Vi (As := [.int (-2)]) (rest := []) (dget dX7_asked 47 rfl) lX7_54 miX7_faultless (c_faultless σ (-2) d (by omega)) rfl rfl rfl rfl (Nat.le_of_ble_eq_true rfl) (Nat.le_of_ble_eq_true rfl) (fun r_93 σ_93 h_93 => ?_)
                obtain ⟨a_93, e_93⟩ := h_93
                rw [a_93]
                obtain rfl := e_93.symm
                exact tq_iret rfl (dget dX7_asked 48 rfl) ⟨_, rfl, by simp only [cnd_t (P := hM σ (nI m)) (b_5.t c_8), cnd_t (P := isSh (nI kk)) (b_12.t c_15), cnd_t (P := isLn l) (b_25.t c_28), cnd_t (P := z = 0 ∨ z = 1) (Or.inr c_39), cnd_t (P := fcS σ (nI kk) l (nI a) (nI N) = 0) gF, cnd_f (P := 1 ≤ nI N ∧ nI N ≤ 8) (fun q => by first | exact absurd q.1 (Int32.not_le.mpr c_80) | exact c_87 q.2)], σ 33, by simp only [cnd_t (P := hM σ (nI m)) (b_5.t c_8), cnd_t (P := isSh (nI kk)) (b_12.t c_15), cnd_t (P := isLn l) (b_25.t c_28), cnd_t (P := z = 0 ∨ z = 1) (Or.inr c_39), cnd_t (P := fcS σ (nI kk) l (nI a) (nI N) = 0) gF, cnd_f (P := 1 ≤ nI N ∧ nI N ≤ 8) (fun q => by first | exact absurd q.1 (Int32.not_le.mpr c_80) | exact c_87 q.2), gF]; rw [upR_self]⟩
              · refine tq_iload 6 (dget dX7_asked 42 rfl) rfl ?_
                refine tq_bipush (v := 8) (dget dX7_asked 43 rfl) rfl ?_
                refine tq_icmp_le (tgt := 97) (dget dX7_asked 44 rfl) (by decide) (fun c_87 => ?_) (fun c_87 => ?_)
                · refine tq_aload_n 1 (dget dX7_asked 49 rfl) rfl rfl ?_
                  refine tq_getR (dget dX7_asked 50 rfl) fX7_41 rfl rfl ?_
                  refine tq_iload_n 3 (dget dX7_asked 51 rfl) rfl rfl ?_
                  refine tq_sheets kk (dget dX7_asked 52 rfl) rfl (by omega) ?_
                  refine tq_aload_n 1 (dget dX7_asked 53 rfl) rfl rfl ?_
                  refine tq_getR (dget dX7_asked 54 rfl) fX7_45 rfl rfl ?_
                  refine tq_iload 5 (dget dX7_asked 55 rfl) rfl ?_
                  refine tq_iload 6 (dget dX7_asked 56 rfl) rfl ?_
                  refine mq_Vv (As := [.ref 33, .int (nI a), .int (nI N)]) (rest := []) (dget dX7_asked 57 rfl) lX7_68 miX4_readInto (c_readInto σ kk hkk a N (by omega) d (by omega)) (SH_sheet (by omega)) rfl rfl rfl (Nat.le_of_ble_eq_true rfl) (Nat.le_of_ble_eq_true rfl) (fun σ_111 h_111 => ?_)
                  obtain rfl := Eq.symm h_111
                  generalize hτ : upR σ 33 (va_cpy (σ (35 + 2 * kk)) (σ 33) a 0 N) = τ
                  have t0 := mem_33 hτ
                  have t1 : τ 1 = σ 1 := by rw [← hτ]; exact upR_n (by decide)
                  have t2 : τ 2 = σ 2 := by rw [← hτ]; exact upR_n (by decide)
                  have t4 : τ (4 + m) = σ (4 + m) := by rw [← hτ]; exact upR_n (by omega)
                  have t33 : ∀ j, j < N → τ 33 j = σ (35 + 2 * kk) (a + j) := fun j hj => by rw [← hτ, upR_s]; unfold va_cpy; rw [if_pos ⟨Nat.zero_le _, by omega⟩, Nat.sub_zero]
                  refine tq_aload_n 1 (dget dX7_asked 58 rfl) rfl rfl ?_
                  refine tq_getR (dget dX7_asked 59 rfl) fX7_12 rfl rfl ?_
                  refine tq_aload_n 1 (dget dX7_asked 60 rfl) rfl rfl ?_
                  refine tq_getR (dget dX7_asked 61 rfl) fX7_45 rfl rfl ?_
                  refine tq_iload 6 (dget dX7_asked 62 rfl) rfl ?_
                  refine mq_Vi (As := [.ref 33, .int (nI N)]) (rest := []) (dget dX7_asked 63 rfl) lX7_156 miX6_areSuitors (c_areSuitors τ N (by omega) d (by omega)) rfl rfl rfl rfl (Nat.le_of_ble_eq_true rfl) (Nat.le_of_ble_eq_true rfl) (fun r_124 σ_124 h_124 => ?_)
                  obtain ⟨b0_124, e_124⟩ := h_124
                  obtain rfl := e_124.symm
                  have gE : (∀ j, j < N → 0 ≤ τ 33 j ∧ τ 33 j < τ 1 0) ↔ ∀ j, j < N → hS σ (ceS σ (nI kk) (nI a) j) := by
                    constructor
                    all_goals intro q j hj
                    all_goals have q1 := q j hj
                    all_goals unfold hS ceS at *
                    all_goals simp only [show cl (nI kk) = kk from nI_clamp (by omega), show cl (nI a) = a from nI_clamp (by omega), t33 j hj, t1] at q1 ⊢
                    all_goals exact q1
                  have b_124 := b0_124.iff gE
                  refine tq_if_ne (tgt := 136) (dget dX7_asked 64 rfl) (by decide) (fun c_127 => ?_) (fun c_127 => ?_)
                  · have gA := b_124.t c_127
                    have hw : ∀ j, j < N → τ 33 j = nI (cl (ceS σ (nI kk) (nI a) j)) ∧ cl (ceS σ (nI kk) (nI a) j) < 6 := fun j hj => by
                      obtain ⟨s, e1, e2, e3⟩ := hS_n hV (gA j hj)
                      rw [t33 j hj]
                      have e4 : ceS σ (nI kk) (nI a) j = σ (35 + 2 * kk) (a + j) := by unfold ceS; rw [show cl (nI kk) = kk from nI_clamp (by omega), show cl (nI a) = a from nI_clamp (by omega)]
                      rw [e4] at e1 ⊢
                      rw [e1, show cl (nI s) = s from nI_clamp (by omega)]
                      exact ⟨rfl, e3⟩
                    refine tq_aload_n 1 (dget dX7_asked 69 rfl) rfl rfl ?_
                    refine tq_iload 7 (dget dX7_asked 70 rfl) rfl ?_
                    refine tq_if_ne (tgt := 159) (dget dX7_asked 71 rfl) (by decide) (fun c_139 => ?_) (fun c_139 => ?_)
                    · refine tq_aload_n 1 (dget dX7_asked 80 rfl) rfl rfl ?_
                      refine tq_getR (dget dX7_asked 81 rfl) fX7_12 rfl rfl ?_
                      refine tq_iload_n 2 (dget dX7_asked 82 rfl) rfl rfl ?_
                      refine tq_aload_n 1 (dget dX7_asked 83 rfl) rfl rfl ?_
                      refine tq_getR (dget dX7_asked 84 rfl) fX7_45 rfl rfl ?_
                      refine tq_iload 6 (dget dX7_asked 85 rfl) rfl ?_
                      refine mq_Vi (As := [.int (nI m), .ref 33, .int (nI N)]) (rest := [.ref 0]) (dget dX7_asked 86 rfl) lX7_164 miX6_minded (c_minded τ m N (fun j => cl (ceS σ (nI kk) (nI a) j)) hm4 (by omega) hw d (by omega)) rfl rfl rfl rfl (Nat.le_of_ble_eq_true rfl) (Nat.le_of_ble_eq_true rfl) (fun r_170 σ_170 h_170 => ?_)
                      obtain ⟨a_170, e_170⟩ := h_170
                      obtain rfl := e_170.symm
                      rw [t1, t2, t4] at a_170
                      have a_q : r_170 = mndR (aqP σ (nI m) (nI kk) (nI a)) (aqF σ (nI m) (nI kk) (nI a)) N 0 := mnd_eq (by unfold aqP aqF; rw [show cl (nI m) = m from nI_clamp (by omega)]; exact a_170)
                      rw [a_q]
                      refine mq_Vi (As := [.int (mndR (aqP σ (nI m) (nI kk) (nI a)) (aqF σ (nI m) (nI kk) (nI a)) N 0)]) (rest := []) (dget dX7_asked 87 rfl) lX7_54 miX7_faultless (c_faultless τ (mndR (aqP σ (nI m) (nI kk) (nI a)) (aqF σ (nI m) (nI kk) (nI a)) N 0) d (by omega)) rfl rfl rfl rfl (Nat.le_of_ble_eq_true rfl) (Nat.le_of_ble_eq_true rfl) (fun r_173 σ_173 h_173 => ?_)
                      obtain ⟨a_173, e_173⟩ := h_173
                      rw [a_173]
                      obtain rfl := e_173.symm
                      exact tq_iret rfl (dget dX7_asked 88 rfl) ⟨_, rfl, by simp only [cnd_t (P := hM σ (nI m)) (b_5.t c_8), cnd_t (P := isSh (nI kk)) (b_12.t c_15), cnd_t (P := isLn l) (b_25.t c_28), cnd_t (P := z = 0 ∨ z = 1) (Or.inr c_39), cnd_t (P := fcS σ (nI kk) l (nI a) (nI N) = 0) gF, cnd_t (P := 1 ≤ nI N ∧ nI N ≤ 8) ⟨Int32.not_lt.mp c_80, c_87⟩, nI_clamp (show N < 2 ^ 31 by omega), cnd_t (P := ∀ j, j < N → hS σ (ceS σ (nI kk) (nI a) j)) gA, cnd_f c_139], τ 33, by simp only [cnd_t (P := hM σ (nI m)) (b_5.t c_8), cnd_t (P := isSh (nI kk)) (b_12.t c_15), cnd_t (P := isLn l) (b_25.t c_28), cnd_t (P := z = 0 ∨ z = 1) (Or.inr c_39), cnd_t (P := fcS σ (nI kk) l (nI a) (nI N) = 0) gF, cnd_t (P := 1 ≤ nI N ∧ nI N ≤ 8) ⟨Int32.not_lt.mp c_80, c_87⟩, nI_clamp (show N < 2 ^ 31 by omega), cnd_t (P := ∀ j, j < N → hS σ (ceS σ (nI kk) (nI a) j)) gA, cnd_f c_139, gF]; rw [← t0]⟩
                    · refine tq_aload_n 1 (dget dX7_asked 72 rfl) rfl rfl ?_
                      refine tq_getR (dget dX7_asked 73 rfl) fX7_12 rfl rfl ?_
                      refine tq_iload_n 2 (dget dX7_asked 74 rfl) rfl rfl ?_
                      refine tq_aload_n 1 (dget dX7_asked 75 rfl) rfl rfl ?_
                      refine tq_getR (dget dX7_asked 76 rfl) fX7_45 rfl rfl ?_
                      refine tq_iload 6 (dget dX7_asked 77 rfl) rfl ?_
                      refine mq_Vi (As := [.int (nI m), .ref 33, .int (nI N)]) (rest := [.ref 0]) (dget dX7_asked 78 rfl) lX7_160 miX6_best (c_best τ m N (fun j => cl (ceS σ (nI kk) (nI a) j)) hm4 (by omega) hw d (by omega)) rfl rfl rfl rfl (Nat.le_of_ble_eq_true rfl) (Nat.le_of_ble_eq_true rfl) (fun r_153 σ_153 h_153 => ?_)
                      obtain ⟨a_153, e_153⟩ := h_153
                      obtain rfl := e_153.symm
                      rw [a_153, show bestF (τ 1 2) (fun j => τ (4 + m) (cl (ceS σ (nI kk) (nI a) j))) N = bestF (σ 1 2) (aqF σ (nI m) (nI kk) (nI a)) N by rw [t1, t4]; unfold aqF; rw [show cl (nI m) = m from nI_clamp (by omega)]]
                      refine tq_goto (tgt := 173) (dget dX7_asked 79 rfl) (by decide) ?_
                      refine mq_Vi (As := [.int (bestF (σ 1 2) (aqF σ (nI m) (nI kk) (nI a)) N)]) (rest := []) (dget dX7_asked 87 rfl) lX7_54 miX7_faultless (c_faultless τ (bestF (σ 1 2) (aqF σ (nI m) (nI kk) (nI a)) N) d (by omega)) rfl rfl rfl rfl (Nat.le_of_ble_eq_true rfl) (Nat.le_of_ble_eq_true rfl) (fun r_173 σ_173 h_173 => ?_)
                      obtain ⟨a_173, e_173⟩ := h_173
                      rw [a_173]
                      obtain rfl := e_173.symm
                      exact tq_iret rfl (dget dX7_asked 88 rfl) ⟨_, rfl, by simp only [cnd_t (P := hM σ (nI m)) (b_5.t c_8), cnd_t (P := isSh (nI kk)) (b_12.t c_15), cnd_t (P := isLn l) (b_25.t c_28), cnd_t (P := z = 0 ∨ z = 1) (Or.inr c_39), cnd_t (P := fcS σ (nI kk) l (nI a) (nI N) = 0) gF, cnd_t (P := 1 ≤ nI N ∧ nI N ≤ 8) ⟨Int32.not_lt.mp c_80, c_87⟩, nI_clamp (show N < 2 ^ 31 by omega), cnd_t (P := ∀ j, j < N → hS σ (ceS σ (nI kk) (nI a) j)) gA, cnd_t c_139], τ 33, by simp only [cnd_t (P := hM σ (nI m)) (b_5.t c_8), cnd_t (P := isSh (nI kk)) (b_12.t c_15), cnd_t (P := isLn l) (b_25.t c_28), cnd_t (P := z = 0 ∨ z = 1) (Or.inr c_39), cnd_t (P := fcS σ (nI kk) l (nI a) (nI N) = 0) gF, cnd_t (P := 1 ≤ nI N ∧ nI N ≤ 8) ⟨Int32.not_lt.mp c_80, c_87⟩, nI_clamp (show N < 2 ^ 31 by omega), cnd_t (P := ∀ j, j < N → hS σ (ceS σ (nI kk) (nI a) j)) gA, cnd_t c_139, gF]; rw [← t0]⟩
                  · have gA := b_124.f c_127
                    refine tq_aload_n 1 (dget dX7_asked 65 rfl) rfl rfl ?_
                    refine tq_iconst (v := (-1)) (dget dX7_asked 66 rfl) rfl ?_
                    refine mq_Vi (As := [.int (-1)]) (rest := []) (dget dX7_asked 67 rfl) lX7_54 miX7_faultless (c_faultless τ (-1) d (by omega)) rfl rfl rfl rfl (Nat.le_of_ble_eq_true rfl) (Nat.le_of_ble_eq_true rfl) (fun r_132 σ_132 h_132 => ?_)
                    obtain ⟨a_132, e_132⟩ := h_132
                    rw [a_132]
                    obtain rfl := e_132.symm
                    exact tq_iret rfl (dget dX7_asked 68 rfl) ⟨_, rfl, by simp only [cnd_t (P := hM σ (nI m)) (b_5.t c_8), cnd_t (P := isSh (nI kk)) (b_12.t c_15), cnd_t (P := isLn l) (b_25.t c_28), cnd_t (P := z = 0 ∨ z = 1) (Or.inr c_39), cnd_t (P := fcS σ (nI kk) l (nI a) (nI N) = 0) gF, cnd_t (P := 1 ≤ nI N ∧ nI N ≤ 8) ⟨Int32.not_lt.mp c_80, c_87⟩, nI_clamp (show N < 2 ^ 31 by omega), cnd_f (P := ∀ j, j < N → hS σ (ceS σ (nI kk) (nI a) j)) gA], τ 33, by simp only [cnd_t (P := hM σ (nI m)) (b_5.t c_8), cnd_t (P := isSh (nI kk)) (b_12.t c_15), cnd_t (P := isLn l) (b_25.t c_28), cnd_t (P := z = 0 ∨ z = 1) (Or.inr c_39), cnd_t (P := fcS σ (nI kk) l (nI a) (nI N) = 0) gF, cnd_t (P := 1 ≤ nI N ∧ nI N ≤ 8) ⟨Int32.not_lt.mp c_80, c_87⟩, nI_clamp (show N < 2 ^ 31 by omega), cnd_f (P := ∀ j, j < N → hS σ (ceS σ (nI kk) (nI a) j)) gA, gF]; rw [← t0]⟩
                · refine tq_aload_n 1 (dget dX7_asked 45 rfl) rfl rfl ?_
                  refine tq_bipush (v := (-2)) (dget dX7_asked 46 rfl) rfl ?_
                  refine mq_Vi (As := [.int (-2)]) (rest := []) (dget dX7_asked 47 rfl) lX7_54 miX7_faultless (c_faultless σ (-2) d (by omega)) rfl rfl rfl rfl (Nat.le_of_ble_eq_true rfl) (Nat.le_of_ble_eq_true rfl) (fun r_93 σ_93 h_93 => ?_)
                  obtain ⟨a_93, e_93⟩ := h_93
                  rw [a_93]
                  obtain rfl := e_93.symm
                  exact tq_iret rfl (dget dX7_asked 48 rfl) ⟨_, rfl, by simp only [cnd_t (P := hM σ (nI m)) (b_5.t c_8), cnd_t (P := isSh (nI kk)) (b_12.t c_15), cnd_t (P := isLn l) (b_25.t c_28), cnd_t (P := z = 0 ∨ z = 1) (Or.inr c_39), cnd_t (P := fcS σ (nI kk) l (nI a) (nI N) = 0) gF, cnd_f (P := 1 ≤ nI N ∧ nI N ≤ 8) (fun q => by first | exact absurd q.1 (Int32.not_le.mpr c_80) | exact c_87 q.2)], σ 33, by simp only [cnd_t (P := hM σ (nI m)) (b_5.t c_8), cnd_t (P := isSh (nI kk)) (b_12.t c_15), cnd_t (P := isLn l) (b_25.t c_28), cnd_t (P := z = 0 ∨ z = 1) (Or.inr c_39), cnd_t (P := fcS σ (nI kk) l (nI a) (nI N) = 0) gF, cnd_f (P := 1 ≤ nI N ∧ nI N ≤ 8) (fun q => by first | exact absurd q.1 (Int32.not_le.mpr c_80) | exact c_87 q.2), gF]; rw [upR_self]⟩
            · have gFe : fcS σ (nI kk) l i n = fcF (σ (34 + 2 * kk) 1) (σ (34 + 2 * kk) 2) (σ (34 + 2 * kk) 3) l i n := by unfold fcS shH shV shN; rw [show cl (nI kk) = kk from nI_clamp (by omega)]
              have gF : ¬ fcS σ (nI kk) l i n = 0 := by rw [gFe]; exact c_67
              refine tq_aload_n 1 (dget dX7_asked 35 rfl) rfl rfl ?_
              refine tq_iload 0 (dget dX7_asked 36 rfl) rfl ?_
              refine mq_Vi (As := [.int (fcF (σ (34 + 2 * kk) 1) (σ (34 + 2 * kk) 2) (σ (34 + 2 * kk) 3) l i n)]) (rest := []) (dget dX7_asked 37 rfl) lX7_65 miX7_faulted (c_faulted σ (fcF (σ (34 + 2 * kk) 1) (σ (34 + 2 * kk) 2) (σ (34 + 2 * kk) 3) l i n) d (by omega)) rfl rfl rfl rfl (Nat.le_of_ble_eq_true rfl) (Nat.le_of_ble_eq_true rfl) (fun r_73 σ_73 h_73 => ?_)
              obtain ⟨a_73, e_73⟩ := h_73
              rw [a_73]
              obtain rfl := e_73.symm
              exact tq_iret rfl (dget dX7_asked 38 rfl) ⟨_, rfl, by simp only [cnd_t (P := hM σ (nI m)) (b_5.t c_8), cnd_t (P := isSh (nI kk)) (b_12.t c_15), cnd_t (P := isLn l) (b_25.t c_28), cnd_t (P := z = 0 ∨ z = 1) (Or.inr c_39), cnd_f (P := fcS σ (nI kk) l i n = 0) gF]; rw [gFe], σ 33, by simp only [cnd_t (P := hM σ (nI m)) (b_5.t c_8), cnd_t (P := isSh (nI kk)) (b_12.t c_15), cnd_t (P := isLn l) (b_25.t c_28), cnd_t (P := z = 0 ∨ z = 1) (Or.inr c_39), cnd_f (P := fcS σ (nI kk) l i n = 0) gF]; rw [upR_self, gFe]⟩
          · refine tq_aload_n 0 (dget dX7_asked 20 rfl) rfl rfl ?_
            refine tq_bipush (v := (-2)) (dget dX7_asked 21 rfl) rfl ?_
            refine mq_Vi (As := [.int (-2)]) (rest := []) (dget dX7_asked 22 rfl) lX7_54 miX7_faultless (c_faultless σ (-2) d (by omega)) rfl rfl rfl rfl (Nat.le_of_ble_eq_true rfl) (Nat.le_of_ble_eq_true rfl) (fun r_45 σ_45 h_45 => ?_)
            obtain ⟨a_45, e_45⟩ := h_45
            rw [a_45]
            obtain rfl := e_45.symm
            exact tq_iret rfl (dget dX7_asked 23 rfl) ⟨_, rfl, by simp only [cnd_t (P := hM σ (nI m)) (b_5.t c_8), cnd_t (P := isSh (nI kk)) (b_12.t c_15), cnd_t (P := isLn l) (b_25.t c_28), cnd_f (P := z = 0 ∨ z = 1) (fun q => q.elim c_33 c_39)], σ 33, by simp only [cnd_t (P := hM σ (nI m)) (b_5.t c_8), cnd_t (P := isSh (nI kk)) (b_12.t c_15), cnd_t (P := isLn l) (b_25.t c_28), cnd_f (P := z = 0 ∨ z = 1) (fun q => q.elim c_33 c_39)]; rw [upR_self]⟩
    · refine tq_aload_n 0 (dget dX7_asked 8 rfl) rfl rfl ?_
      refine tq_iconst (v := (-1)) (dget dX7_asked 9 rfl) rfl ?_
      refine mq_Vi (As := [.int (-1)]) (rest := []) (dget dX7_asked 10 rfl) lX7_54 miX7_faultless (c_faultless σ (-1) d (by omega)) rfl rfl rfl rfl (Nat.le_of_ble_eq_true rfl) (Nat.le_of_ble_eq_true rfl) (fun r_20 σ_20 h_20 => ?_)
      obtain ⟨a_20, e_20⟩ := h_20
      rw [a_20]
      obtain rfl := e_20.symm
      exact tq_iret rfl (dget dX7_asked 11 rfl) ⟨_, rfl, by simp only [cnd_t (P := hM σ x) (b_5.t c_8), cnd_f (P := isSh k) (b_12.f c_15)], σ 33, by simp only [cnd_t (P := hM σ x) (b_5.t c_8), cnd_f (P := isSh k) (b_12.f c_15)]; rw [upR_self]⟩
/-- a text that is read, what comes of it -/
def txtP (σ τ σ2 : Mem) (N : Nat) (v : Int32) : Prop := ∃ p, fstP (τ 33) N p ∧ p ≤ 65 ∧ ((tkn (τ 33) N p ∧ (∃ ω, stI (up (up (up τ 1 0 (nI (dS (τ 33)))) 1 1 (nI (dM (τ 33)))) 1 2 3) ω (τ 33) (dS (τ 33)) (dM (τ 33)) (dM (τ 33)) ∧ v = nI (dM (τ 33)) ∧ σ2 = up (up (forgF ω) 21 4 0) 0 7 0)) ∨ (¬ tkn (τ 33) N p ∧ v = -100 - nI p ∧ σ2 = up τ 0 7 0))
def valP (σ : Mem) (k l i n v : Int32) (σ2 : Mem) : Prop := (¬ (isSh k ∧ isLn l ∧ fcS σ k l i n = 0) ∧ v = cnd (isSh k) (cnd (isLn l) (-10 - fcS σ k l i n) (-2)) (-1) ∧ σ2 = up σ 0 7 (cnd (isSh k) (cnd (isLn l) (fcS σ k l i n) 0) 0)) ∨ (isSh k ∧ isLn l ∧ fcS σ k l i n = 0 ∧ ∃ τ, τ = upR σ 33 (τ 33) ∧ (∀ j, j < cl n → τ 33 j = ceS σ k i j) ∧ txtP σ τ σ2 (cl n) v)
theorem nI_nm9 {s : Nat} (h : s < 2 ^ 31) : ¬ nI s = -9 := fun e => by
  have h2 := nI_pos h
  rw [e] at h2
  exact h2 (by decide)
theorem dM_hd {c : Nat → Int32} {N p : Nat} (h : fstP c N p) (h3 : 3 ≤ p) : hdP 1 (c 1) ∧ hdP 2 (c 2) := by
  have h1 := (h.1 1 (by omega)).2
  have h2 := (h.1 2 (by omega)).2
  constructor
  · rcases h1 with q | q
    · exact q.2
    · omega
  · rcases h2 with q | q
    · exact q.2
    · omega

set_option maxHeartbeats 4000000 in
set_option maxRecDepth 20000 in
theorem c_valley (σ : Mem) (hSh : SHT σ) (k l i n : Int32) (d : Nat) (hd : 4 ≤ d) : PMet d mX7_valley [.ref 0, .int k, .int l, .int i, .int n] σ (Pi (fun v σ2 => valP σ k l i n v σ2)) := by
  obtain ⟨d, rfl⟩ : ∃ e, d = e + 1 := ⟨d - 1, by omega⟩
  refine PMet.start (ls0 := [(0, .ref 0), (1, .int k), (2, .int l), (3, .int i), (4, .int n)]) miX7_valley.1 (Nat.le_of_ble_eq_true rfl) rfl ?_
  refine tq_iload_n 1 (dget dX7_valley 0 rfl) rfl rfl ?_
  refine mq_Si (As := [.int k]) (rest := []) (dget dX7_valley 1 rfl) lX7_50 miX7_isSheet (c_isSheet σ k d (by omega)) rfl rfl (Nat.le_of_ble_eq_true rfl) (Nat.le_of_ble_eq_true rfl) (fun r_1 σ_1 h_1 => ?_)
  obtain ⟨b_1, e_1⟩ := h_1
  obtain rfl := e_1.symm
  refine tq_if_ne (tgt := 13) (dget dX7_valley 2 rfl) (by decide) (fun c_4 => ?_) (fun c_4 => ?_)
  · refine tq_iload_n 2 (dget dX7_valley 7 rfl) rfl rfl ?_
    refine mq_Si (As := [.int l]) (rest := []) (dget dX7_valley 8 rfl) lX7_58 miX7_isLane (c_isLane σ l d (by omega)) rfl rfl (Nat.le_of_ble_eq_true rfl) (Nat.le_of_ble_eq_true rfl) (fun r_14 σ_14 h_14 => ?_)
    obtain ⟨b_14, e_14⟩ := h_14
    obtain rfl := e_14.symm
    refine tq_if_ne (tgt := 27) (dget dX7_valley 9 rfl) (by decide) (fun c_17 => ?_) (fun c_17 => ?_)
    · obtain ⟨kk, e_kk, hkk⟩ := isSh_n (b_1.t c_4)
      subst e_kk
      refine tq_aload_n 0 (dget dX7_valley 14 rfl) rfl rfl ?_
      refine tq_getR (dget dX7_valley 15 rfl) fX7_41 rfl rfl ?_
      refine tq_iload_n 1 (dget dX7_valley 16 rfl) rfl rfl ?_
      refine tq_sheets kk (dget dX7_valley 17 rfl) rfl (by omega) ?_
      refine tq_iload_n 2 (dget dX7_valley 18 rfl) rfl rfl ?_
      refine tq_iload_n 3 (dget dX7_valley 19 rfl) rfl rfl ?_
      refine tq_iload 4 (dget dX7_valley 20 rfl) rfl ?_
      refine mq_Vi (As := [.int l, .int i, .int n]) (rest := []) (dget dX7_valley 21 rfl) lX7_61 miX4_faultOfCells (c_faultOfCells σ kk (by omega) l i n d (by omega)) (SH_sheet (by omega)) rfl rfl rfl (Nat.le_of_ble_eq_true rfl) (Nat.le_of_ble_eq_true rfl) (fun r_37 σ_37 h_37 => ?_)
      obtain ⟨a_37, e_37⟩ := h_37
      obtain rfl := a_37.symm
      obtain rfl := e_37.symm
      refine tq_istore (ls2 := [(5, .int (fcF (σ (34 + 2 * kk) 1) (σ (34 + 2 * kk) 2) (σ (34 + 2 * kk) 3) l i n)), (0, .ref 0), (1, .int (nI kk)), (2, .int l), (3, .int i), (4, .int n)]) (dget dX7_valley 22 rfl) (by decide) rfl ?_
      refine tq_iload 0 (dget dX7_valley 23 rfl) rfl ?_
      refine tq_if_eq (tgt := 54) (dget dX7_valley 24 rfl) (by decide) (fun c_44 => ?_) (fun c_44 => ?_)
      · have gF : fcS σ (nI kk) l i n = 0 := by unfold fcS shH shV shN; rw [show cl (nI kk) = kk from nI_clamp (by omega)]; exact c_44
        obtain ⟨l0, hl, el⟩ := hSh kk hkk
        obtain ⟨a, N, e_a, e_N, haN⟩ := cells_n (fc_0 gF) (by unfold shN; rw [show cl (nI kk) = kk from nI_clamp (by omega)]; exact el) hl
        subst e_a
        subst e_N
        refine tq_aload_n 1 (dget dX7_valley 29 rfl) rfl rfl ?_
        refine tq_getR (dget dX7_valley 30 rfl) fX7_41 rfl rfl ?_
        refine tq_iload_n 2 (dget dX7_valley 31 rfl) rfl rfl ?_
        refine tq_sheets kk (dget dX7_valley 32 rfl) rfl (by omega) ?_
        refine tq_aload_n 1 (dget dX7_valley 33 rfl) rfl rfl ?_
        refine tq_getR (dget dX7_valley 34 rfl) fX7_45 rfl rfl ?_
        refine tq_iload_n 4 (dget dX7_valley 35 rfl) rfl rfl ?_
        refine tq_iload 5 (dget dX7_valley 36 rfl) rfl ?_
        refine mq_Vv (As := [.ref 33, .int (nI a), .int (nI N)]) (rest := []) (dget dX7_valley 37 rfl) lX7_68 miX4_readInto (c_readInto σ kk hkk a N (by omega) d (by omega)) (SH_sheet (by omega)) rfl rfl rfl (Nat.le_of_ble_eq_true rfl) (Nat.le_of_ble_eq_true rfl) (fun σ_67 h_67 => ?_)
        obtain rfl := Eq.symm h_67
        generalize hτ : upR σ 33 (va_cpy (σ (35 + 2 * kk)) (σ 33) a 0 N) = τ
        have t0 := mem_33 hτ
        have t1 : τ 1 = σ 1 := by rw [← hτ]; exact upR_n (by decide)
        have t2 : τ 2 = σ 2 := by rw [← hτ]; exact upR_n (by decide)
        have t33 : ∀ j, j < N → τ 33 j = σ (35 + 2 * kk) (a + j) := fun j hj => by rw [← hτ, upR_s]; unfold va_cpy; rw [if_pos ⟨Nat.zero_le _, by omega⟩, Nat.sub_zero]
        have cN : cl (nI N) = N := nI_clamp (by omega)
        have tq : ∀ j, j < cl (nI N) → τ 33 j = ceS σ (nI kk) (nI a) j := fun j hj => by
          rw [cN] at hj
          unfold ceS
          rw [show cl (nI kk) = kk from nI_clamp (by omega), show cl (nI a) = a from nI_clamp (by omega)]
          exact t33 j hj
        refine tq_aload_n 1 (dget dX7_valley 38 rfl) rfl rfl ?_
        refine tq_getR (dget dX7_valley 39 rfl) fX7_45 rfl rfl ?_
        refine tq_iload 5 (dget dX7_valley 40 rfl) rfl ?_
        refine mq_Si (As := [.ref 33, .int (nI N)]) (rest := []) (dget dX7_valley 41 rfl) lX7_72 miX5_firstFault (c_firstFault τ N (by omega) d (by omega)) rfl rfl (Nat.le_of_ble_eq_true rfl) (Nat.le_of_ble_eq_true rfl) (fun r_76 σ_76 h_76 => ?_)
        obtain ⟨a_76, e_76⟩ := h_76
        obtain rfl := e_76.symm
        refine tq_istore (ls2 := [(6, .int r_76), (5, .int (fcF (σ (34 + 2 * kk) 1) (σ (34 + 2 * kk) 2) (σ (34 + 2 * kk) 3) l (nI a) (nI N))), (0, .ref 0), (1, .int (nI kk)), (2, .int l), (3, .int (nI a)), (4, .int (nI N))]) (dget dX7_valley 42 rfl) (by decide) rfl ?_
        refine tq_iload 0 (dget dX7_valley 43 rfl) rfl ?_
        refine tq_bipush (v := (-9)) (dget dX7_valley 44 rfl) rfl ?_
        refine tq_icmp_eq (tgt := 98) (dget dX7_valley 45 rfl) (by decide) (fun c_85 => ?_) (fun c_85 => ?_)
        · obtain ⟨p, f1, f2, f3⟩ := a_76
          have f4 : tkn (τ 33) N p := by rcases f3 with q | q; exact q.2; exact absurd (q.1.symm.trans c_85) (nI_nm9 (by omega))
          have f5 := dM_hd f1 f4.1
          refine tq_aload_n 2 (dget dX7_valley 52 rfl) rfl rfl ?_
          refine tq_getR (dget dX7_valley 53 rfl) fX7_12 rfl rfl ?_
          refine tq_aload_n 2 (dget dX7_valley 54 rfl) rfl rfl ?_
          refine tq_getR (dget dX7_valley 55 rfl) fX7_45 rfl rfl ?_
          refine mq_Vv (As := [.ref 33]) (rest := []) (dget dX7_valley 56 rfl) lX7_78 miX6_settle (c_settle τ f5.1 f5.2 d (by omega)) rfl rfl rfl rfl (Nat.le_of_ble_eq_true rfl) (Nat.le_of_ble_eq_true rfl) (fun σ_106 h_106 => ?_)
          generalize σ_106 = ω at *
          refine tq_aload_n 2 (dget dX7_valley 57 rfl) rfl rfl ?_
          refine tq_getR (dget dX7_valley 58 rfl) fX7_21 rfl rfl ?_
          refine mq_Vv (As := []) (rest := []) (dget dX7_valley 59 rfl) lX7_82 miX2_forget (c_forget ω d (by omega)) rfl rfl rfl rfl (Nat.le_of_ble_eq_true rfl) (Nat.le_of_ble_eq_true rfl) (fun σ_113 h_113 => ?_)
          obtain rfl := Eq.symm h_113
          have hm1 : up (forgF ω) 21 4 0 1 1 = nI (dM (τ 33)) := by
            rw [up_row (by decide)]
            show begF 17 (up ω 13 4 0) 1 1 = _
            rw [begF_row (by decide) (by decide) (by decide), up_row (by decide), h_106.1 1 1 (by decide) (by omega) (by omega)]
            exact (up_n (by omega)).trans up_s
          refine tq_aload_n 2 (dget dX7_valley 60 rfl) rfl rfl ?_
          refine tq_getR (dget dX7_valley 61 rfl) fX7_28 rfl rfl ?_
          refine tq_iconst (v := 0) (dget dX7_valley 62 rfl) rfl ?_
          refine tq_putI (dget dX7_valley 63 rfl) fX7_85 rfl rfl rfl rfl ?_
          refine tq_aload_n 2 (dget dX7_valley 64 rfl) rfl rfl ?_
          refine tq_aload_n 2 (dget dX7_valley 65 rfl) rfl rfl ?_
          refine tq_getR (dget dX7_valley 66 rfl) fX7_12 rfl rfl ?_
          refine tq_getI (dget dX7_valley 67 rfl) fX7_89 rfl rfl ?_
          refine tq_eqi (y := (nI (dM (τ 33)))) hm1 ?_
          refine mq_Vi (As := [.int (nI (dM (τ 33)))]) (rest := []) (dget dX7_valley 68 rfl) lX7_54 miX7_faultless (c_faultless (up (forgF ω) 21 4 0) (nI (dM (τ 33))) d (by omega)) rfl rfl rfl rfl (Nat.le_of_ble_eq_true rfl) (Nat.le_of_ble_eq_true rfl) (fun r_132 σ_132 h_132 => ?_)
          obtain ⟨a_132, e_132⟩ := h_132
          rw [a_132]
          obtain rfl := e_132.symm
          exact tq_iret rfl (dget dX7_valley 69 rfl) (by refine ⟨_, rfl, Or.inr ⟨b_1.t c_4, b_14.t c_17, gF, τ, t0, fun j hj => tq j hj, p, by rw [cN]; exact f1, f2, Or.inl ⟨by rw [cN]; exact f4, ω, h_106, rfl, rfl⟩⟩⟩)
        · obtain ⟨p, f1, f2, f3⟩ := a_76
          have f4 : ¬ tkn (τ 33) N p := by rcases f3 with q | q; exact absurd q.1 c_85; exact q.2
          have f3 : r_76 = nI p := by rcases f3 with q | q; exact absurd q.1 c_85; exact q.1
          refine tq_aload_n 2 (dget dX7_valley 46 rfl) rfl rfl ?_
          refine tq_bipush (v := (-100)) (dget dX7_valley 47 rfl) rfl ?_
          refine tq_iload 0 (dget dX7_valley 48 rfl) rfl ?_
          refine tq_isub (dget dX7_valley 49 rfl) ?_
          refine mq_Vi (As := [.int ((-100) - r_76)]) (rest := []) (dget dX7_valley 50 rfl) lX7_54 miX7_faultless (c_faultless τ ((-100) - r_76) d (by omega)) rfl rfl rfl rfl (Nat.le_of_ble_eq_true rfl) (Nat.le_of_ble_eq_true rfl) (fun r_94 σ_94 h_94 => ?_)
          obtain ⟨a_94, e_94⟩ := h_94
          rw [a_94]
          obtain rfl := e_94.symm
          exact tq_iret rfl (dget dX7_valley 51 rfl) (by refine ⟨_, rfl, Or.inr ⟨b_1.t c_4, b_14.t c_17, gF, τ, t0, fun j hj => tq j hj, p, by rw [cN]; exact f1, f2, Or.inr ⟨by rw [cN]; exact f4, by rw [f3], rfl⟩⟩⟩)
      · have gFe : fcS σ (nI kk) l i n = fcF (σ (34 + 2 * kk) 1) (σ (34 + 2 * kk) 2) (σ (34 + 2 * kk) 3) l i n := by unfold fcS shH shV shN; rw [show cl (nI kk) = kk from nI_clamp (by omega)]
        have gF : ¬ fcS σ (nI kk) l i n = 0 := by rw [gFe]; exact c_44
        refine tq_aload_n 1 (dget dX7_valley 25 rfl) rfl rfl ?_
        refine tq_iload 0 (dget dX7_valley 26 rfl) rfl ?_
        refine mq_Vi (As := [.int (fcF (σ (34 + 2 * kk) 1) (σ (34 + 2 * kk) 2) (σ (34 + 2 * kk) 3) l i n)]) (rest := []) (dget dX7_valley 27 rfl) lX7_65 miX7_faulted (c_faulted σ (fcF (σ (34 + 2 * kk) 1) (σ (34 + 2 * kk) 2) (σ (34 + 2 * kk) 3) l i n) d (by omega)) rfl rfl rfl rfl (Nat.le_of_ble_eq_true rfl) (Nat.le_of_ble_eq_true rfl) (fun r_50 σ_50 h_50 => ?_)
        obtain ⟨a_50, e_50⟩ := h_50
        rw [a_50]
        obtain rfl := e_50.symm
        exact tq_iret rfl (dget dX7_valley 28 rfl) ⟨_, rfl, Or.inl ⟨fun q => gF q.2.2, by simp only [cnd_t (P := isSh (nI kk)) (b_1.t c_4), cnd_t (P := isLn l) (b_14.t c_17)]; rw [gFe], by simp only [cnd_t (P := isSh (nI kk)) (b_1.t c_4), cnd_t (P := isLn l) (b_14.t c_17)]; rw [gFe]⟩⟩
    · refine tq_aload_n 0 (dget dX7_valley 10 rfl) rfl rfl ?_
      refine tq_bipush (v := (-2)) (dget dX7_valley 11 rfl) rfl ?_
      refine mq_Vi (As := [.int (-2)]) (rest := []) (dget dX7_valley 12 rfl) lX7_54 miX7_faultless (c_faultless σ (-2) d (by omega)) rfl rfl rfl rfl (Nat.le_of_ble_eq_true rfl) (Nat.le_of_ble_eq_true rfl) (fun r_23 σ_23 h_23 => ?_)
      obtain ⟨a_23, e_23⟩ := h_23
      rw [a_23]
      obtain rfl := e_23.symm
      exact tq_iret rfl (dget dX7_valley 13 rfl) ⟨_, rfl, Or.inl ⟨fun q => b_14.f c_17 q.2.1, by simp only [cnd_t (P := isSh k) (b_1.t c_4), cnd_f (P := isLn l) (b_14.f c_17)], by simp only [cnd_t (P := isSh k) (b_1.t c_4), cnd_f (P := isLn l) (b_14.f c_17)]⟩⟩
  · refine tq_aload_n 0 (dget dX7_valley 3 rfl) rfl rfl ?_
    refine tq_iconst (v := (-1)) (dget dX7_valley 4 rfl) rfl ?_
    refine mq_Vi (As := [.int (-1)]) (rest := []) (dget dX7_valley 5 rfl) lX7_54 miX7_faultless (c_faultless σ (-1) d (by omega)) rfl rfl rfl rfl (Nat.le_of_ble_eq_true rfl) (Nat.le_of_ble_eq_true rfl) (fun r_9 σ_9 h_9 => ?_)
    obtain ⟨a_9, e_9⟩ := h_9
    rw [a_9]
    obtain rfl := e_9.symm
    exact tq_iret rfl (dget dX7_valley 6 rfl) ⟨_, rfl, Or.inl ⟨fun q => b_1.f c_4 q.1, by simp only [cnd_f (P := isSh k) (b_1.f c_4)], by simp only [cnd_f (P := isSh k) (b_1.f c_4)]⟩⟩

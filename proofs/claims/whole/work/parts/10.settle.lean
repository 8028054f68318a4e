/-! ===== a text's first fault; a text taken ===== -/
theorem dig {c : Int32} {a b : Nat} (ha : a < 2 ^ 31) (hb : b < 2 ^ 31) (h1 : nI a ≤ c) (h2 : c < nI b) : ∃ j, c = nI j ∧ a ≤ j ∧ j < b := by
  have h0 : ¬ c < 0 := Int32.not_lt.mpr (Int32.le_trans (nI_pos' ha) h1)
  obtain ⟨j, hj, rfl⟩ := nI_of h0
  exact ⟨j, rfl, kle ha hj h1, klt hj hb h2⟩
def dS (c : Nat → Int32) : Nat := (c 1 - 48).toNatClampNeg
def dM (c : Nat → Int32) : Nat := (c 2 - 48).toNatClampNeg
theorem dS_of {c : Nat → Int32} (h : hdP 1 (c 1)) : c 1 - 48 = nI (dS c) ∧ 1 ≤ dS c ∧ dS c ≤ 6 := by
  unfold hdP at h
  rw [if_neg (by decide), if_pos rfl] at h
  obtain ⟨j, hj, h1, h2⟩ := dig (a := 49) (b := 55) (by decide) (by decide) h.1 h.2
  have e : c 1 - 48 = nI (j - 48) := by rw [hj]; exact nI_subN (a := j) (b := 48) (by omega)
  unfold dS
  rw [e, nI_clamp (by omega)]
  exact ⟨rfl, by omega, by omega⟩
theorem dM_of {c : Nat → Int32} (h : hdP 2 (c 2)) : c 2 - 48 = nI (dM c) ∧ 1 ≤ dM c ∧ dM c ≤ 4 := by
  unfold hdP at h
  rw [if_neg (by decide), if_neg (by decide)] at h
  obtain ⟨j, hj, h1, h2⟩ := dig (a := 49) (b := 53) (by decide) (by decide) h.1 h.2
  have e : c 2 - 48 = nI (j - 48) := by rw [hj]; exact nI_subN (a := j) (b := 48) (by omega)
  unfold dM
  rw [e, nI_clamp (by omega)]
  exact ⟨rfl, by omega, by omega⟩
def fitC (c : Nat → Int32) (q : Nat) : Prop := (q < 3 ∧ hdP q (c q)) ∨ (3 ≤ q ∧ q < endT (dS c) (dM c) ∧ fitB (dS c) (dM c) q (c q))
/-- p is the first place (of N codes) that doesn't go on a text -/
def fstP (c : Nat → Int32) (N p : Nat) : Prop := (∀ q, q < p → q < N ∧ fitC c q) ∧ ¬ (p < N ∧ fitC c p)
theorem fstP_uniq {c : Nat → Int32} {N p q : Nat} (h1 : fstP c N p) (h2 : fstP c N q) : p = q := by
  rcases Nat.lt_trichotomy p q with h | h | h
  · exact absurd (h2.1 p h) h1.2
  · exact h
  · exact absurd (h1.1 q h) h2.2
def tkn (c : Nat → Int32) (N p : Nat) : Prop := 3 ≤ p ∧ p = N ∧ N = endT (dS c) (dM c)
def ffP (c : Nat → Int32) (N : Nat) (v : Int32) : Prop := ∃ p, fstP c N p ∧ p ≤ 65 ∧ ((v = -9 ∧ tkn c N p) ∨ (v = nI p ∧ ¬ tkn c N p))
theorem ff_head {c : Nat → Int32} {N p : Nat} (hp : p < 3) (hI : ∀ j, j < p → j < N ∧ hdP j (c j)) (h : ¬ (p < N ∧ hdP p (c p))) : ffP c N (nI p) := by
  refine ⟨p, ⟨fun q hq => ⟨(hI q hq).1, Or.inl ⟨by omega, (hI q hq).2⟩⟩, fun q => ?_⟩, by omega, Or.inr ⟨rfl, fun q => by have := q.1; omega⟩⟩
  rcases q.2 with z | z
  · exact h ⟨q.1, z.2⟩
  · omega
theorem ff_behind {c : Nat → Int32} {N : Nat} {v : Int32} (hI : ∀ j, j < 3 → j < N ∧ hdP j (c j)) (h : tbP (dS c) (dM c) c N v) : ffP c N v := by
  have h65 := endT_le (dS_of (hI 1 (by omega)).2).2.2 (dM_of (hI 2 (by omega)).2).2.2
  have h3 : 3 ≤ endT (dS c) (dM c) := by unfold endT; omega
  rcases h with ⟨hv, hN, hA⟩ | ⟨p, hv, hp3, hpE, hA, hB⟩
  · refine ⟨N, ⟨fun q hq => ⟨hq, ?_⟩, fun q => absurd q.1 (Nat.lt_irrefl _)⟩, by omega, Or.inl ⟨hv, by omega, rfl, hN⟩⟩
    by_cases q3 : q < 3
    · exact Or.inl ⟨q3, (hI q q3).2⟩
    · exact Or.inr ⟨by omega, by omega, hA q (by omega) (by omega)⟩
  · refine ⟨p, ⟨fun q hq => ?_, fun q => ?_⟩, by omega, Or.inr ⟨hv, fun z => ?_⟩⟩
    · by_cases q3 : q < 3
      · exact ⟨(hI q q3).1, Or.inl ⟨q3, (hI q q3).2⟩⟩
      · have h9 := hA q (by omega) hq
        exact ⟨h9.1, Or.inr ⟨by omega, by omega, h9.2⟩⟩
    · rcases q.2 with z | z
      · omega
      · rcases hB with hB | hB
        · exact hB.2 ⟨q.1, z.2.2⟩
        · omega
    · obtain ⟨_, z1, z2⟩ := z
      rcases hB with hB | hB
      · omega
      · exact hB.2 z2
/-- the valley, as far as maid number k, out of a text -/
def stI (σ1 σ2 : Mem) (c : Nat → Int32) (S M k : Nat) : Prop := (∀ a b, a ≠ 2 → ¬ (4 ≤ a ∧ a < 8) → ¬ (9 ≤ a ∧ a < 13) → σ2 a b = σ1 a b) ∧ ∀ m, m < k → σ2 2 m = kdF (c (4 + m * (S + 2))) ∧ ∀ s, s < S → σ2 (4 + m) s = c (5 + m * (S + 2) + s) - 48 ∧ σ2 (9 + m) s = c (4 + M * (S + 2) + s * (M + 1) + m) - 48
def stJ (σ1 σ2 : Mem) (c : Nat → Int32) (S M k j : Nat) : Prop := stI σ1 σ2 c S M k ∧ σ2 2 k = kdF (c (4 + k * (S + 2))) ∧ ∀ s, s < j → σ2 (4 + k) s = c (5 + k * (S + 2) + s) - 48 ∧ σ2 (9 + k) s = c (4 + M * (S + 2) + s * (M + 1) + k) - 48
theorem up_n {σ : Mem} {i k a b : Nat} {v : Int32} (h : ¬ (a = i ∧ b = k)) : up σ i k v a b = σ a b := by
  unfold up
  by_cases e : a = i
  · subst e
    rw [upR_s]
    show (if b = k then v else σ a b) = σ a b
    rw [if_neg (fun q => h ⟨rfl, q⟩)]
  · rw [upR_n e]
theorem up_s {σ : Mem} {i k : Nat} {v : Int32} : up σ i k v i k = v := by
  unfold up
  rw [upR_s]
  show (if k = k then v else σ i k) = v
  rw [if_pos rfl]
theorem stJ_0 {σ1 σ2 : Mem} {c : Nat → Int32} {S M k : Nat} (hk : k < 4) (h : stI σ1 σ2 c S M k) : stJ σ1 (up σ2 2 k (kdF (c (4 + k * (S + 2))))) c S M k 0 := by
  refine ⟨⟨fun a b h1 h2 h3 => ?_, fun m hm => ?_⟩, up_s, fun s hs => absurd hs (by omega)⟩
  · rw [up_n (by omega)]; exact h.1 a b h1 h2 h3
  · obtain ⟨h1, h2⟩ := h.2 m hm
    refine ⟨by rw [up_n (by omega)]; exact h1, fun s hs => ?_⟩
    rw [up_n (by omega), up_n (by omega)]
    exact h2 s hs
theorem stJ_s {σ1 σ2 : Mem} {c : Nat → Int32} {S M k j : Nat} (hk : k < 4) (h : stJ σ1 σ2 c S M k j) : stJ σ1 (up (up σ2 (4 + k) j (c (5 + k * (S + 2) + j) - 48)) (9 + k) j (c (4 + M * (S + 2) + j * (M + 1) + k) - 48)) c S M k (j + 1) := by
  obtain ⟨⟨h1, h2⟩, h3, h4⟩ := h
  refine ⟨⟨fun a b e1 e2 e3 => ?_, fun m hm => ?_⟩, ?_, fun s hs => ?_⟩
  · rw [up_n (by omega), up_n (by omega)]; exact h1 a b e1 e2 e3
  · obtain ⟨g1, g2⟩ := h2 m hm
    refine ⟨by rw [up_n (by omega), up_n (by omega)]; exact g1, fun s hs => ?_⟩
    rw [up_n (by omega), up_n (by omega), up_n (by omega), up_n (by omega)]
    exact g2 s hs
  · rw [up_n (by omega), up_n (by omega)]; exact h3
  · by_cases e : s = j
    · subst e
      exact ⟨by rw [up_n (by omega), up_s], up_s⟩
    · rw [up_n (by omega), up_n (by omega), up_n (by omega), up_n (by omega)]
      exact h4 s (by omega)
theorem stJ_e {σ1 σ2 : Mem} {c : Nat → Int32} {S M k : Nat} (h : stJ σ1 σ2 c S M k S) : stI σ1 σ2 c S M (k + 1) := by
  refine ⟨h.1.1, fun m hm => ?_⟩
  by_cases e : m = k
  · subst e; exact ⟨h.2.1, h.2.2⟩
  · exact h.1.2 m (by omega)
theorem stI_33 {σ1 σ2 : Mem} {c : Nat → Int32} {S M k : Nat} (h : stI σ1 σ2 c S M k) (hc : ∀ j, σ1 33 j = c j) (j : Nat) : σ2 33 j = c j := (h.1 33 j (by omega) (by omega) (by omega)).trans (hc j)

set_option maxHeartbeats 4000000 in
set_option maxRecDepth 20000 in
theorem c_firstFault_loop (σ : Mem) (N : Nat) (hN : N ≤ 100) (d : Nat) (hd : 3 ≤ d) : ∀ (n : Nat) (k : Nat) (hm : 3 < k + n) (hk : k ≤ 3) (hI : ∀ j, j < k → j < N ∧ hdP j (σ 33 j)), PAt (EM d (Pi (fun v σ2 => ffP (σ 33) N v ∧ σ2 = σ))) mX5_firstFault 2 [(2, .int (nI k)), (0, .ref 33), (1, .int (nI N))] [] σ := by
  obtain ⟨d, rfl⟩ : ∃ e, d = e + 1 := ⟨d - 1, by omega⟩
  intro n
  induction n with
  | zero => intro k hm hk hI; exact absurd hm (by omega)
  | succ n ih =>
    intro k hm hk hI
    refine tq_iload_n 0 (dget dX5_firstFault 2 rfl) rfl rfl ?_
    refine tq_iconst (v := 3) (dget dX5_firstFault 3 rfl) rfl ?_
    refine tq_icmp_ge (tgt := 30) (dget dX5_firstFault 4 rfl) (by decide) (fun c_4 => ?_) (fun c_4 => ?_)
    · have g_4 := kle (a := 3) (b := k) (by omega) (by omega) c_4
      have g_5 : k = 3 := by omega
      have hI3 : ∀ j, j < 3 → j < N ∧ hdP j (σ 33 j) := fun j hj => hI j (by omega)
      have q1 := dS_of (hI3 1 (by omega)).2
      have q2 := dM_of (hI3 2 (by omega)).2
      refine tq_aload_n 1 (dget dX5_firstFault 18 rfl) rfl rfl ?_
      refine tq_iload_n 2 (dget dX5_firstFault 19 rfl) rfl rfl ?_
      refine tq_aload_n 1 (dget dX5_firstFault 20 rfl) rfl rfl ?_
      refine tq_iconst (v := 1) (dget dX5_firstFault 21 rfl) rfl ?_
      refine tq_ialdN 1 (dget dX5_firstFault 22 rfl) rfl (by decide) rfl (by decide) ?_
      refine tq_bipush (v := 48) (dget dX5_firstFault 23 rfl) rfl ?_
      refine tq_isub (dget dX5_firstFault 24 rfl) ?_
      refine tq_eqi (y := (nI (dS (σ 33)))) q1.1 ?_
      refine tq_aload_n 1 (dget dX5_firstFault 25 rfl) rfl rfl ?_
      refine tq_iconst (v := 2) (dget dX5_firstFault 26 rfl) rfl ?_
      refine tq_ialdN 2 (dget dX5_firstFault 27 rfl) rfl (by decide) rfl (by decide) ?_
      refine tq_bipush (v := 48) (dget dX5_firstFault 28 rfl) rfl ?_
      refine tq_isub (dget dX5_firstFault 29 rfl) ?_
      refine tq_eqi (y := (nI (dM (σ 33)))) q2.1 ?_
      refine mq_Si (As := [.ref 33, .int (nI N), .int (nI (dS (σ 33))), .int (nI (dM (σ 33)))]) (rest := []) (dget dX5_firstFault 30 rfl) lX5_15 miX5_firstFaultBehindHead (c_behind σ (dS (σ 33)) (dM (σ 33)) N q1.2.2 q2.2.2 hN d (by omega)) rfl rfl (Nat.le_of_ble_eq_true rfl) (Nat.le_of_ble_eq_true rfl) (fun r_44 σ_44 h_44 => ?_)
      exact tq_iret rfl (dget dX5_firstFault 31 rfl) ⟨_, rfl, ff_behind hI3 h_44.1, h_44.2⟩
    · have g_4 := knle (b := k) (a := 3) (by omega) (by omega) c_4
      refine tq_iload_n 0 (dget dX5_firstFault 5 rfl) rfl rfl ?_
      refine tq_iload_n 2 (dget dX5_firstFault 6 rfl) rfl rfl ?_
      refine tq_icmp_ge (tgt := 22) (dget dX5_firstFault 7 rfl) (by decide) (fun c_9 => ?_) (fun c_9 => ?_)
      · have g_9 := kle (by omega) (by omega) c_9
        refine tq_iload_n 0 (dget dX5_firstFault 14 rfl) rfl rfl ?_
        exact tq_iret rfl (dget dX5_firstFault 15 rfl) ⟨_, rfl, ff_head g_4 hI (fun q => by omega), rfl⟩
      · have g_9 := knle (by omega) (by omega) c_9
        refine tq_iload_n 0 (dget dX5_firstFault 8 rfl) rfl rfl ?_
        refine tq_aload_n 1 (dget dX5_firstFault 9 rfl) rfl rfl ?_
        refine tq_iload_n 0 (dget dX5_firstFault 10 rfl) rfl rfl ?_
        refine tq_ialdN k (dget dX5_firstFault 11 rfl) rfl (by decide) rfl (by omega) ?_
        refine mq_Si (As := [.int (nI k), .int (σ 33 k)]) (rest := []) (dget dX5_firstFault 12 rfl) lX5_11 miX5_fitsHead (c_fitsHead σ k (σ 33 k) d (by omega) (by omega)) rfl rfl (Nat.le_of_ble_eq_true rfl) (Nat.le_of_ble_eq_true rfl) (fun r_16 σ_16 h_16 => ?_)
        obtain ⟨b_16, e_16⟩ := h_16
        obtain rfl := e_16.symm
        refine tq_if_ne (tgt := 24) (dget dX5_firstFault 13 rfl) (by decide) (fun c_19 => ?_) (fun c_19 => ?_)
        · refine tq_iinc (v := (nI (k + 1))) (ls2 := [(2, .int (nI (k + 1))), (0, .ref 33), (1, .int (nI N))]) 0 (dget dX5_firstFault 16 rfl) rfl (nI_1 k) (by decide) rfl ?_
          refine tq_goto (tgt := 2) (dget dX5_firstFault 17 rfl) (by decide) ?_
          refine tq_sub [0, 1, 2] (ls' := [(2, .int (nI (k + 1))), (0, .ref 33), (1, .int (nI N))]) rfl ?_
          refine ih (k + 1) (by omega) (by omega) (fun j hj => ?_)
          by_cases e : j = k
          · rw [e]; exact ⟨g_9, b_16.t c_19⟩
          · exact hI j (by omega)
        · refine tq_iload_n 0 (dget dX5_firstFault 14 rfl) rfl rfl ?_
          exact tq_iret rfl (dget dX5_firstFault 15 rfl) ⟨_, rfl, ff_head g_4 hI (fun q => b_16.f c_19 q.2), rfl⟩
set_option maxHeartbeats 4000000 in
set_option maxRecDepth 20000 in
theorem c_firstFault (σ : Mem) (N : Nat) (hN : N ≤ 100) (d : Nat) (hd : 3 ≤ d) : PMet d mX5_firstFault [.ref 33, .int (nI N)] σ (Pi (fun v σ2 => ffP (σ 33) N v ∧ σ2 = σ)) := by
  obtain ⟨d, rfl⟩ : ∃ e, d = e + 1 := ⟨d - 1, by omega⟩
  refine PMet.start (ls0 := [(0, .ref 33), (1, .int (nI N))]) miX5_firstFault.1 (Nat.le_of_ble_eq_true rfl) rfl ?_
  refine tq_iconst (v := 0) (dget dX5_firstFault 0 rfl) rfl ?_
  refine tq_istore_n (ls2 := [(2, .int 0), (0, .ref 33), (1, .int (nI N))]) (dget dX5_firstFault 1 rfl) rfl (by decide) rfl ?_
  refine tq_sub [0, 1, 2] (ls' := [(2, .int 0), (0, .ref 33), (1, .int (nI N))]) rfl ?_
  exact c_firstFault_loop σ N hN (d + 1) (by omega) 4 0 (by omega) (by omega) (fun j hj => absurd hj (by omega))
set_option maxHeartbeats 4000000 in
set_option maxRecDepth 20000 in
theorem c_settle_inner (σ1 : Mem) (c : Nat → Int32) (S M : Nat) (hS : S ≤ 6) (hM : M ≤ 4) (hc : ∀ j, σ1 33 j = c j) (hV : σ1 1 0 = nI S ∧ σ1 1 1 = nI M) (k : Nat) (hk4 : k < M) (d : Nat) (hd : 2 ≤ d) : ∀ (n : Nat) (j : Nat) (σ2 : Mem) (hm : S < j + n) (hj : j ≤ S) (hJ : stJ σ1 σ2 c S M k j) (hout : ∀ σ3, stI σ1 σ3 c S M (k + 1) → PAt (EM d (Pv (fun σ3 => stI σ1 σ3 c S M M))) mX6_settle 27 [(2, .int (nI (k + 1))), (0, .ref 1), (1, .ref 33)] [] σ3), PAt (EM d (Pv (fun σ3 => stI σ1 σ3 c S M M))) mX6_settle 61 [(4, .int (nI j)), (3, .int (nI (3 + k * (S + 2)))), (2, .int (nI k)), (0, .ref 1), (1, .ref 33)] [] σ2 := by
  obtain ⟨d, rfl⟩ : ∃ e, d = e + 1 := ⟨d - 1, by omega⟩
  intro n
  induction n with
  | zero => intro j σ2 hm hj hJ hout; exact absurd hm (by omega)
  | succ n ih =>
    intro j σ2 hm hj hJ hout
    have hb1 : k * (S + 2) ≤ 3 * 8 := Nat.mul_le_mul (by omega) (by omega)
    have hb2 : M * (S + 2) ≤ 4 * 8 := Nat.mul_le_mul (by omega) (by omega)
    have hb3 : j * (M + 1) ≤ 6 * 5 := Nat.mul_le_mul (by omega) (by omega)
    refine tq_iload 0 (dget dX6_settle 40 rfl) rfl ?_
    refine tq_aload_n 3 (dget dX6_settle 41 rfl) rfl rfl ?_
    refine tq_getI (dget dX6_settle 42 rfl) fX6_27 rfl rfl ?_
    refine tq_eqi (y := (nI S)) ((hJ.1.1 1 0 (by omega) (by omega) (by omega)).trans hV.1) ?_
    refine tq_icmp_ge (tgt := 127) (dget dX6_settle 43 rfl) (by decide) (fun c_67 => ?_) (fun c_67 => ?_)
    · have g_67 := kle (by omega) (by omega) c_67
      have g_68 : j = S := by omega
      refine tq_iinc (v := (nI (k + 1))) (ls2 := [(2, .int (nI (k + 1))), (4, .int (nI j)), (3, .int (nI (3 + k * (S + 2)))), (0, .ref 1), (1, .ref 33)]) 2 (dget dX6_settle 81 rfl) rfl (nI_1 k) (by decide) rfl ?_
      refine tq_goto (tgt := 27) (dget dX6_settle 82 rfl) (by decide) ?_
      refine tq_sub [0, 3, 4] (ls' := [(2, .int (nI (k + 1))), (0, .ref 1), (1, .ref 33)]) rfl ?_
      exact hout _ (by rw [g_68] at hJ; exact stJ_e hJ)
    · have g_67 := knle (by omega) (by omega) c_67
      refine tq_aload_n 3 (dget dX6_settle 44 rfl) rfl rfl ?_
      refine tq_getR (dget dX6_settle 45 rfl) fX6_17 rfl rfl ?_
      refine tq_iload_n 2 (dget dX6_settle 46 rfl) rfl rfl ?_
      refine tq_hers k (dget dX6_settle 47 rfl) rfl (by omega) ?_
      refine tq_iload 0 (dget dX6_settle 48 rfl) rfl ?_
      refine tq_aload_n 4 (dget dX6_settle 49 rfl) rfl rfl ?_
      refine tq_iload_n 1 (dget dX6_settle 50 rfl) rfl rfl ?_
      refine tq_iconst (v := 2) (dget dX6_settle 51 rfl) rfl ?_
      refine tq_iadd (dget dX6_settle 52 rfl) ?_
      refine tq_eqi (y := (nI (5 + k * (S + 2)))) (by rw [show (2 : Int32) = nI 2 from rfl, nI_add, show 3 + k * (S + 2) + 2 = 5 + k * (S + 2) by omega]) ?_
      refine tq_iload 0 (dget dX6_settle 53 rfl) rfl ?_
      refine tq_iadd (dget dX6_settle 54 rfl) ?_
      refine tq_eqi (y := (nI (5 + k * (S + 2) + j))) (nI_add _ _) ?_
      refine tq_ialdN (5 + k * (S + 2) + j) (dget dX6_settle 55 rfl) rfl (by decide) rfl (by omega) ?_
      refine tq_eqi (y := (c (5 + k * (S + 2) + j))) (stI_33 hJ.1 hc _) ?_
      refine tq_bipush (v := 48) (dget dX6_settle 56 rfl) rfl ?_
      refine tq_isub (dget dX6_settle 57 rfl) ?_
      refine tq_iastN j (dget dX6_settle 58 rfl) (SH_hers (by omega)) (by decide) rfl (by omega) ?_
      refine tq_aload_n 3 (dget dX6_settle 59 rfl) rfl rfl ?_
      refine tq_getR (dget dX6_settle 60 rfl) fX6_20 rfl rfl ?_
      refine tq_iload_n 2 (dget dX6_settle 61 rfl) rfl rfl ?_
      refine tq_his k (dget dX6_settle 62 rfl) rfl (by omega) ?_
      refine tq_iload 0 (dget dX6_settle 63 rfl) rfl ?_
      refine tq_aload_n 4 (dget dX6_settle 64 rfl) rfl rfl ?_
      refine tq_aload_n 3 (dget dX6_settle 65 rfl) rfl rfl ?_
      refine tq_getI (dget dX6_settle 66 rfl) fX6_27 rfl rfl ?_
      refine tq_eqi (y := (nI S)) (by rw [up_n (by omega)]; exact (hJ.1.1 1 0 (by omega) (by omega) (by omega)).trans hV.1) ?_
      refine tq_aload_n 3 (dget dX6_settle 67 rfl) rfl rfl ?_
      refine tq_getI (dget dX6_settle 68 rfl) fX6_23 rfl rfl ?_
      refine tq_eqi (y := (nI M)) (by rw [up_n (by omega)]; exact (hJ.1.1 1 1 (by omega) (by omega) (by omega)).trans hV.2) ?_
      refine tq_iload 0 (dget dX6_settle 69 rfl) rfl ?_
      refine mq_Si (As := [.int (nI S), .int (nI M), .int (nI j)]) (rest := [.ref 33, .int (nI j), .ref (9 + k)]) (dget dX6_settle 70 rfl) lX6_47 miX5_suitorPlace (c_suitorPlace (up σ2 (4 + k) j ((c (5 + k * (S + 2) + j)) - 48)) S M j d (by omega)) rfl rfl (Nat.le_of_ble_eq_true rfl) (Nat.le_of_ble_eq_true rfl) (fun r_109 σ_109 h_109 => ?_)
      obtain ⟨a_109, e_109⟩ := h_109
      obtain rfl := a_109.symm
      obtain rfl := e_109.symm
      refine tq_iconst (v := 1) (dget dX6_settle 71 rfl) rfl ?_
      refine tq_iadd (dget dX6_settle 72 rfl) ?_
      refine tq_eqi (y := (nI (4 + M * (S + 2) + j * (M + 1)))) (by rw [show (1 : Int32) = nI 1 from rfl, nI_add, show 3 + M * (S + 2) + j * (M + 1) + 1 = 4 + M * (S + 2) + j * (M + 1) by omega]) ?_
      refine tq_iload_n 2 (dget dX6_settle 73 rfl) rfl rfl ?_
      refine tq_iadd (dget dX6_settle 74 rfl) ?_
      refine tq_eqi (y := (nI (4 + M * (S + 2) + j * (M + 1) + k))) (nI_add _ _) ?_
      refine tq_ialdN (4 + M * (S + 2) + j * (M + 1) + k) (dget dX6_settle 75 rfl) rfl (by decide) rfl (by omega) ?_
      refine tq_eqi (y := (c (4 + M * (S + 2) + j * (M + 1) + k))) (by rw [up_n (by omega)]; exact stI_33 hJ.1 hc _) ?_
      refine tq_bipush (v := 48) (dget dX6_settle 76 rfl) rfl ?_
      refine tq_isub (dget dX6_settle 77 rfl) ?_
      refine tq_iastN j (dget dX6_settle 78 rfl) (SH_his (by omega)) (by decide) rfl (by omega) ?_
      refine tq_iinc (v := (nI (j + 1))) (ls2 := [(4, .int (nI (j + 1))), (3, .int (nI (3 + k * (S + 2)))), (2, .int (nI k)), (0, .ref 1), (1, .ref 33)]) 0 (dget dX6_settle 79 rfl) rfl (nI_1 j) (by decide) rfl ?_
      refine tq_goto (tgt := 61) (dget dX6_settle 80 rfl) (by decide) ?_
      refine tq_sub [0, 1, 2, 3, 4] (ls' := [(4, .int (nI (j + 1))), (3, .int (nI (3 + k * (S + 2)))), (2, .int (nI k)), (0, .ref 1), (1, .ref 33)]) rfl ?_
      exact ih (j + 1) _ (by omega) (by omega) (stJ_s (by omega) hJ) hout
set_option maxHeartbeats 4000000 in
set_option maxRecDepth 20000 in
theorem c_settle_outer (σ1 : Mem) (c : Nat → Int32) (S M : Nat) (hS : S ≤ 6) (hM : M ≤ 4) (hc : ∀ j, σ1 33 j = c j) (hV : σ1 1 0 = nI S ∧ σ1 1 1 = nI M) (d : Nat) (hd : 2 ≤ d) : ∀ (n : Nat) (k : Nat) (σ2 : Mem) (hm : M < k + n) (hk : k ≤ M) (hI : stI σ1 σ2 c S M k), PAt (EM d (Pv (fun σ3 => stI σ1 σ3 c S M M))) mX6_settle 27 [(2, .int (nI k)), (0, .ref 1), (1, .ref 33)] [] σ2 := by
  obtain ⟨d, rfl⟩ : ∃ e, d = e + 1 := ⟨d - 1, by omega⟩
  intro n
  induction n with
  | zero => intro k σ2 hm hk hI; exact absurd hm (by omega)
  | succ n ih =>
    intro k σ2 hm hk hI
    have hb1 : k * (S + 2) ≤ 4 * 8 := Nat.mul_le_mul (by omega) (by omega)
    refine tq_iload_n 0 (dget dX6_settle 19 rfl) rfl rfl ?_
    refine tq_aload_n 1 (dget dX6_settle 20 rfl) rfl rfl ?_
    refine tq_getI (dget dX6_settle 21 rfl) fX6_23 rfl rfl ?_
    refine tq_eqi (y := (nI M)) ((hI.1 1 1 (by omega) (by omega) (by omega)).trans hV.2) ?_
    refine tq_icmp_ge (tgt := 133) (dget dX6_settle 22 rfl) (by decide) (fun c_32 => ?_) (fun c_32 => ?_)
    · have g_32 := kle (by omega) (by omega) c_32
      have g_33 : k = M := by omega
      exact tq_vret rfl (dget dX6_settle 83 rfl) ⟨rfl, by rw [g_33] at hI; exact hI⟩
    · have g_32 := knle (by omega) (by omega) c_32
      refine tq_aload_n 1 (dget dX6_settle 23 rfl) rfl rfl ?_
      refine tq_getI (dget dX6_settle 24 rfl) fX6_27 rfl rfl ?_
      refine tq_eqi (y := (nI S)) ((hI.1 1 0 (by omega) (by omega) (by omega)).trans hV.1) ?_
      refine tq_iload_n 0 (dget dX6_settle 25 rfl) rfl rfl ?_
      refine mq_Si (As := [.int (nI S), .int (nI k)]) (rest := []) (dget dX6_settle 26 rfl) lX6_37 miX5_maidPlace (c_maidPlace σ2 S k d (by omega)) rfl rfl (Nat.le_of_ble_eq_true rfl) (Nat.le_of_ble_eq_true rfl) (fun r_40 σ_40 h_40 => ?_)
      obtain ⟨a_40, e_40⟩ := h_40
      obtain rfl := a_40.symm
      obtain rfl := e_40.symm
      refine tq_istore_n (ls2 := [(3, .int (nI (3 + k * (S + 2)))), (2, .int (nI k)), (0, .ref 1), (1, .ref 33)]) (dget dX6_settle 27 rfl) rfl (by decide) rfl ?_
      refine tq_aload_n 2 (dget dX6_settle 28 rfl) rfl rfl ?_
      refine tq_getR (dget dX6_settle 29 rfl) fX6_9 rfl rfl ?_
      refine tq_iload_n 1 (dget dX6_settle 30 rfl) rfl rfl ?_
      refine tq_aload_n 3 (dget dX6_settle 31 rfl) rfl rfl ?_
      refine tq_iload_n 0 (dget dX6_settle 32 rfl) rfl rfl ?_
      refine tq_iconst (v := 1) (dget dX6_settle 33 rfl) rfl ?_
      refine tq_iadd (dget dX6_settle 34 rfl) ?_
      refine tq_eqi (y := (nI (4 + k * (S + 2)))) (by rw [show (1 : Int32) = nI 1 from rfl, nI_add, show 3 + k * (S + 2) + 1 = 4 + k * (S + 2) by omega]) ?_
      refine tq_ialdN (4 + k * (S + 2)) (dget dX6_settle 35 rfl) rfl (by decide) rfl (by omega) ?_
      refine tq_eqi (y := (c (4 + k * (S + 2)))) (stI_33 hI hc _) ?_
      refine mq_Si (As := [.int (c (4 + k * (S + 2)))]) (rest := [.int (nI k), .ref 2]) (dget dX6_settle 36 rfl) lX6_43 miX5_kindOf (c_kindOf σ2 (c (4 + k * (S + 2))) d (by omega)) rfl rfl (Nat.le_of_ble_eq_true rfl) (Nat.le_of_ble_eq_true rfl) (fun r_54 σ_54 h_54 => ?_)
      obtain ⟨a_54, e_54⟩ := h_54
      obtain rfl := a_54.symm
      obtain rfl := e_54.symm
      refine tq_iastN k (dget dX6_settle 37 rfl) rfl (by decide) rfl (by omega) ?_
      refine tq_iconst (v := 0) (dget dX6_settle 38 rfl) rfl ?_
      refine tq_istore (ls2 := [(4, .int 0), (3, .int (nI (3 + k * (S + 2)))), (2, .int (nI k)), (0, .ref 1), (1, .ref 33)]) (dget dX6_settle 39 rfl) (by decide) rfl ?_
      refine tq_sub [0, 1, 2, 3, 4] (ls' := [(4, .int 0), (3, .int (nI (3 + k * (S + 2)))), (2, .int (nI k)), (0, .ref 1), (1, .ref 33)]) rfl ?_
      exact c_settle_inner σ1 c S M hS hM hc hV k g_32 (d + 1) (by omega) (S + 1) 0 _ (by omega) (by omega) (stJ_0 (by omega) hI) (fun σ3 h3 => ih (k + 1) σ3 (by omega) (by omega) h3)
set_option maxHeartbeats 4000000 in
set_option maxRecDepth 20000 in
theorem c_settle (σ : Mem) (h1 : hdP 1 (σ 33 1)) (h2 : hdP 2 (σ 33 2)) (d : Nat) (hd : 2 ≤ d) : PMet d mX6_settle [.ref 1, .ref 33] σ (Pv (fun σ3 => stI (up (up (up σ 1 0 (nI (dS (σ 33)))) 1 1 (nI (dM (σ 33)))) 1 2 3) σ3 (σ 33) (dS (σ 33)) (dM (σ 33)) (dM (σ 33)))) := by
  obtain ⟨d, rfl⟩ : ∃ e, d = e + 1 := ⟨d - 1, by omega⟩
  refine PMet.start (ls0 := [(0, .ref 1), (1, .ref 33)]) miX6_settle.1 (Nat.le_of_ble_eq_true rfl) rfl ?_
  have q1 := dS_of h1
  have q2 := dM_of h2
  refine tq_aload_n 0 (dget dX6_settle 0 rfl) rfl rfl ?_
  refine tq_aload_n 1 (dget dX6_settle 1 rfl) rfl rfl ?_
  refine tq_iconst (v := 1) (dget dX6_settle 2 rfl) rfl ?_
  refine tq_ialdN 1 (dget dX6_settle 3 rfl) rfl (by decide) rfl (by decide) ?_
  refine tq_bipush (v := 48) (dget dX6_settle 4 rfl) rfl ?_
  refine tq_isub (dget dX6_settle 5 rfl) ?_
  refine tq_eqi (y := (nI (dS (σ 33)))) q1.1 ?_
  refine tq_putI (dget dX6_settle 6 rfl) fX6_27 rfl rfl rfl rfl ?_
  refine tq_aload_n 0 (dget dX6_settle 7 rfl) rfl rfl ?_
  refine tq_aload_n 1 (dget dX6_settle 8 rfl) rfl rfl ?_
  refine tq_iconst (v := 2) (dget dX6_settle 9 rfl) rfl ?_
  refine tq_ialdN 2 (dget dX6_settle 10 rfl) rfl (by decide) rfl (by decide) ?_
  refine tq_bipush (v := 48) (dget dX6_settle 11 rfl) rfl ?_
  refine tq_isub (dget dX6_settle 12 rfl) ?_
  refine tq_eqi (y := (nI (dM (σ 33)))) q2.1 ?_
  refine tq_putI (dget dX6_settle 13 rfl) fX6_23 rfl rfl rfl rfl ?_
  refine tq_aload_n 0 (dget dX6_settle 14 rfl) rfl rfl ?_
  refine tq_iconst (v := 3) (dget dX6_settle 15 rfl) rfl ?_
  refine tq_putI (dget dX6_settle 16 rfl) fX6_34 rfl rfl rfl rfl ?_
  refine tq_iconst (v := 0) (dget dX6_settle 17 rfl) rfl ?_
  refine tq_istore_n (ls2 := [(2, .int 0), (0, .ref 1), (1, .ref 33)]) (dget dX6_settle 18 rfl) rfl (by decide) rfl ?_
  refine tq_sub [0, 1, 2] (ls' := [(2, .int 0), (0, .ref 1), (1, .ref 33)]) rfl ?_
  exact c_settle_outer (up (up (up σ 1 0 (nI (dS (σ 33)))) 1 1 (nI (dM (σ 33)))) 1 2 3) (σ 33) (dS (σ 33)) (dM (σ 33)) q1.2.2 q2.2.2 (fun j => rfl) ⟨rfl, rfl⟩ (d + 1) (by omega) (dM (σ 33) + 1) 0 _ (by omega) (by omega) ⟨fun a b _ _ _ => rfl, fun m hm => absurd hm (by omega)⟩

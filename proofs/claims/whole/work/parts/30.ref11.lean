/-! ===== the reference (11): a text read ===== -/
def cdA (c : Nat → Int32) (N p : Nat) : Int32 := if p < N then c p else -9
theorem cd_eq {c : Nat → Int32} {N p : Nat} {v : Int32} (hv : ¬ v = -9) (h : cdA c N p = v) : p < N ∧ c p = v := by
  unfold cdA at h
  by_cases e : p < N
  · rw [if_pos e] at h; exact ⟨e, h⟩
  · rw [if_neg e] at h; exact absurd h.symm hv
theorem cd_of {c : Nat → Int32} {N p : Nat} (h : p < N) : cdA c N p = c p := if_pos h
def RW (σ τ : Mem) : Prop := (∀ r, r ≠ 42 → r ≠ 46 → r ≠ 47 → r ≠ 48 → τ r = σ r) ∧ ∀ j, j ≠ 7 → j ≠ 8 → j ≠ 9 → τ 42 j = σ 42 j
theorem RW.rf (σ : Mem) : RW σ σ := ⟨fun _ _ _ _ _ => rfl, fun _ _ _ _ => rfl⟩
theorem RW.tr {σ τ ω : Mem} (h : RW σ τ) (g : RW τ ω) : RW σ ω := ⟨fun r a b c d => (g.1 r a b c d).trans (h.1 r a b c d), fun j a b c => (g.2 j a b c).trans (h.2 j a b c)⟩
theorem RW.upF {σ τ : Mem} (h : RW σ τ) (j : Nat) (v : Int32) (hj : j = 7 ∨ j = 8 ∨ j = 9) : RW σ (up τ 42 j v) := ⟨fun r a b c d => (up_row a).trans (h.1 r a b c d), fun k a b c => (up_n (by omega)).trans (h.2 k a b c)⟩
theorem RW.up7 {σ τ : Mem} (h : RW σ τ) (v : Int32) : RW σ (up τ 42 7 v) := h.upF 7 v (Or.inl rfl)
theorem RW.upA {σ τ : Mem} (h : RW σ τ) (i j : Nat) (v : Int32) (hi : i = 46 ∨ i = 47 ∨ i = 48) : RW σ (up τ i j v) := ⟨fun r a b c d => (up_row (by omega)).trans (h.1 r a b c d), fun k a b c => (up_n (by omega)).trans (h.2 k a b c)⟩
theorem RW.c61 {σ τ : Mem} (h : RW σ τ) {F : Nat} {c : Nat → Int32} (hc : ∀ j, σ 61 (F + j) = c j) (j : Nat) : τ 61 (F + j) = c j := (congrFun (h.1 61 (by decide) (by decide) (by decide) (by decide)) _).trans (hc j)
def fgP (c : Nat → Int32) (N p lo hi : Nat) : Prop := p < N ∧ nI (lo + 48) ≤ c p ∧ c p ≤ nI (hi + 48)
theorem fg_iff {x : Int32} {lo hi : Nat} (hl : lo ≤ 9) (h : hi ≤ 9) : (nI lo ≤ x - 48 ∧ x - 48 ≤ nI hi) ↔ (nI (lo + 48) ≤ x ∧ x ≤ nI (hi + 48)) := by
  constructor
  · rintro ⟨h1, h2⟩
    have h3 : ¬ x - 48 < 0 := Int32.not_lt.mpr (Int32.le_trans (nI_pos' (by omega)) h1)
    obtain ⟨j, hj, e⟩ := nI_of h3
    rw [e] at h1 h2
    have g1 := kle (by omega) hj h1
    have g2 := kle hj (by omega) h2
    have ex : x = nI (j + 48) := by rw [← nI_add, ← e]; exact (Int32.sub_add_cancel x 48).symm
    rw [ex]
    exact ⟨nI_le (by omega) (by omega), nI_le (by omega) (by omega)⟩
  · rintro ⟨h1, h2⟩
    have h3 : ¬ x < 0 := Int32.not_lt.mpr (Int32.le_trans (nI_pos' (by omega)) h1)
    obtain ⟨j, hj, e⟩ := nI_of h3
    rw [e] at h1 h2 ⊢
    have g1 := kle (by omega) hj h1
    have g2 := kle hj (by omega) h2
    rw [show nI j - 48 = nI (j - 48) from nI_subN (a := j) (b := 48) (by omega)]
    exact ⟨nI_le (by omega) (by omega), nI_le (by omega) (by omega)⟩
theorem fg_in {c : Nat → Int32} {N p lo hi : Nat} (hl : lo ≤ 9) (h : hi ≤ 9) : ((nI lo).toInt64 ≤ (cdA c N p - 48).toInt64 ∧ (cdA c N p - 48).toInt64 ≤ (nI hi).toInt64) ↔ fgP c N p lo hi := by
  rw [w_le, w_le]
  unfold fgP
  by_cases e : p < N
  · rw [cd_of e, fg_iff hl h]
    exact ⟨fun q => ⟨e, q⟩, fun q => q.2⟩
  · constructor
    · intro q
      have h1 := q.1
      unfold cdA at h1
      rw [if_neg e] at h1
      exact absurd (Int32.le_trans (nI_pos' (show lo < 2 ^ 31 by omega)) h1) (by decide)
    · intro q
      exact absurd q.1 e
theorem fg_pos {c : Nat → Int32} {N p lo hi : Nat} (hl : lo ≤ 9) (h : hi ≤ 9) (g : fgP c N p lo hi) : ¬ c p - 48 < 0 := Int32.not_lt.mpr (Int32.le_trans (nI_pos' (show lo < 2 ^ 31 by omega)) ((fg_iff hl h).mpr g.2).1)

set_option maxHeartbeats 4000000 in
set_option maxRecDepth 20000 in
theorem k_codeAt (σ : Mem) (c : Nat → Int32) (F N : Nat) (hFN : F + N ≤ 400) (hN : N ≤ 100) (p : Nat) (hp : p ≤ 1000) (hc : ∀ j, σ 61 (F + j) = c j) (h7 : σ 42 7 = nI (p)) (d : Nat) (hd : 0 ≤ d) : PMet d mX8_codeAt [.ref 42, .int (nI F), .int (nI N)] σ (Pi (fun v σ2 => v = cdA c N p ∧ σ2 = σ)) := by
  refine PMet.start (ls0 := [(0, .ref 42), (1, .int (nI F)), (2, .int (nI N))]) miX8_codeAt.1 (Nat.le_of_ble_eq_true rfl) rfl ?_
  refine tq_aload_n 0 (dget dX8_codeAt 0 rfl) rfl rfl ?_
  refine tq_getI (dget dX8_codeAt 1 rfl) fX8_91 rfl rfl ?_
  refine tq_eqi (y := (nI p)) h7 ?_
  refine tq_iload_n 2 (dget dX8_codeAt 2 rfl) rfl rfl ?_
  refine tq_icmp_ge (tgt := 22) (dget dX8_codeAt 3 rfl) (by decide) (fun c_5 => ?_) (fun c_5 => ?_)
  · have g_5 := kle (by omega) (by omega) c_5
    refine tq_bipush (v := (-9)) (dget dX8_codeAt 12 rfl) rfl ?_
    exact tq_iret rfl (dget dX8_codeAt 13 rfl) ⟨_, rfl, (if_neg (by omega)).symm, rfl⟩
  · have g_5 := knle (by omega) (by omega) c_5
    refine tq_aload_n 0 (dget dX8_codeAt 4 rfl) rfl rfl ?_
    refine tq_getR (dget dX8_codeAt 5 rfl) fX8_65 rfl rfl ?_
    refine tq_iload_n 1 (dget dX8_codeAt 6 rfl) rfl rfl ?_
    refine tq_aload_n 0 (dget dX8_codeAt 7 rfl) rfl rfl ?_
    refine tq_getI (dget dX8_codeAt 8 rfl) fX8_91 rfl rfl ?_
    refine tq_eqi (y := (nI p)) h7 ?_
    refine tq_iadd (dget dX8_codeAt 9 rfl) ?_
    refine tq_eqi (y := (nI (F + p))) (nI_add (F) (p)) ?_
    refine tq_ialdN (F + p) (dget dX8_codeAt 10 rfl) rfl (by decide) rfl (by omega) ?_
    refine tq_eqi (y := (c p)) (hc p) ?_
    refine tq_goto (tgt := 24) (dget dX8_codeAt 11 rfl) (by decide) ?_
    exact tq_iret rfl (dget dX8_codeAt 13 rfl) ⟨_, rfl, (if_pos g_5).symm, rfl⟩
set_option maxHeartbeats 4000000 in
set_option maxRecDepth 20000 in
theorem k_figure (σ : Mem) (c : Nat → Int32) (F N : Nat) (hFN : F + N ≤ 400) (hN : N ≤ 100) (p : Nat) (hp : p ≤ 1000) (hc : ∀ j, σ 61 (F + j) = c j) (h7 : σ 42 7 = nI (p)) (lo hi : Nat) (hlo : lo ≤ 9) (hhi : hi ≤ 9) (d : Nat) (hd : 1 ≤ d) : PMet d mX8_figure [.ref 42, .int (nI F), .int (nI N), .int (nI lo), .int (nI hi)] σ (Pi (fun v σ2 => v = cnd (fgP c N p lo hi) (c p - 48) (-9) ∧ σ2 = cnd (fgP c N p lo hi) (up σ 42 7 (nI (p + 1))) σ)) := by
  obtain ⟨d, rfl⟩ : ∃ e, d = e + 1 := ⟨d - 1, by omega⟩
  refine PMet.start (ls0 := [(0, .ref 42), (1, .int (nI F)), (2, .int (nI N)), (3, .int (nI lo)), (4, .int (nI hi))]) miX8_figure.1 (Nat.le_of_ble_eq_true rfl) rfl ?_
  refine tq_aload_n 0 (dget dX8_figure 0 rfl) rfl rfl ?_
  refine tq_iload_n 1 (dget dX8_figure 1 rfl) rfl rfl ?_
  refine tq_iload_n 2 (dget dX8_figure 2 rfl) rfl rfl ?_
  refine mq_Vi (As := [.int (nI F), .int (nI N)]) (rest := []) (dget dX8_figure 3 rfl) lX8_94 miX8_codeAt (k_codeAt σ c F N hFN hN (p) (by omega) hc h7 d (by omega)) rfl rfl rfl rfl (Nat.le_of_ble_eq_true rfl) (Nat.le_of_ble_eq_true rfl) (fun r_3 σ_3 h_3 => ?_)
  obtain ⟨a_3, e_3⟩ := h_3
  obtain rfl := a_3.symm
  obtain rfl := e_3.symm
  refine tq_bipush (v := 48) (dget dX8_figure 4 rfl) rfl ?_
  refine tq_isub (dget dX8_figure 5 rfl) ?_
  refine tq_istore (ls2 := [(5, .int ((cdA c N (p)) - 48)), (0, .ref 42), (1, .int (nI F)), (2, .int (nI N)), (3, .int (nI lo)), (4, .int (nI hi))]) (dget dX8_figure 6 rfl) (by decide) rfl ?_
  refine tq_iload 0 (dget dX8_figure 7 rfl) rfl ?_
  refine tq_i2l (dget dX8_figure 8 rfl) ?_
  refine tq_iload_n 4 (dget dX8_figure 9 rfl) rfl rfl ?_
  refine tq_i2l (dget dX8_figure 10 rfl) ?_
  refine tq_iload 5 (dget dX8_figure 11 rfl) rfl ?_
  refine tq_i2l (dget dX8_figure 12 rfl) ?_
  refine mq_Si (As := [.long (((cdA c N (p)) - 48)).toInt64, .long ((nI lo)).toInt64, .long ((nI hi)).toInt64]) (rest := []) (dget dX8_figure 13 rfl) lX8_84 miX8_in (k_in σ (((cdA c N (p)) - 48)).toInt64 ((nI lo)).toInt64 ((nI hi)).toInt64 d (by omega)) rfl rfl (Nat.le_of_ble_eq_true rfl) (Nat.le_of_ble_eq_true rfl) (fun r_19 σ_19 h_19 => ?_)
  obtain ⟨b_19, e_19⟩ := h_19
  obtain rfl := e_19.symm
  have b_19 := b_19.iff (fg_in hlo hhi)
  refine tq_istore (ls2 := [(6, .int r_19), (5, .int ((cdA c N (p)) - 48)), (0, .ref 42), (1, .int (nI F)), (2, .int (nI N)), (3, .int (nI lo)), (4, .int (nI hi))]) (dget dX8_figure 14 rfl) (by decide) rfl ?_
  refine tq_aload_n 2 (dget dX8_figure 15 rfl) rfl rfl ?_
  refine tq_dup (dget dX8_figure 16 rfl) rfl ?_
  refine tq_getI (dget dX8_figure 17 rfl) fX8_91 rfl rfl ?_
  refine tq_eqi (y := (nI p)) h7 ?_
  refine tq_iload 0 (dget dX8_figure 18 rfl) rfl ?_
  refine tq_if_eq (tgt := 38) (dget dX8_figure 19 rfl) (by decide) (fun c_31 => ?_) (fun c_31 => ?_)
  · refine tq_iconst (v := 0) (dget dX8_figure 22 rfl) rfl ?_
    refine tq_iadd (dget dX8_figure 23 rfl) ?_
    refine tq_eqi (y := (nI (p + 0))) (nI_add (p) (0)) ?_
    refine tq_putI (dget dX8_figure 24 rfl) fX8_91 rfl rfl rfl rfl ?_
    refine tq_iload 0 (dget dX8_figure 25 rfl) rfl ?_
    refine tq_if_eq (tgt := 53) (dget dX8_figure 26 rfl) (by decide) (fun c_45 => ?_) (fun c_45 => ?_)
    · refine tq_bipush (v := (-9)) (dget dX8_figure 29 rfl) rfl ?_
      exact tq_iret rfl (dget dX8_figure 30 rfl) ⟨_, rfl, by rw [cnd_f (b_19.f c_31)], by rw [cnd_f (b_19.f c_31)]; exact (congrArg (up σ 42 7) h7.symm).trans (up_self σ 42 7)⟩
    · exact absurd c_31 c_45
  · refine tq_iconst (v := 1) (dget dX8_figure 20 rfl) rfl ?_
    refine tq_goto (tgt := 39) (dget dX8_figure 21 rfl) (by decide) ?_
    refine tq_iadd (dget dX8_figure 23 rfl) ?_
    refine tq_eqi (y := (nI (p + 1))) (nI_add (p) (1)) ?_
    refine tq_putI (dget dX8_figure 24 rfl) fX8_91 rfl rfl rfl rfl ?_
    refine tq_iload 0 (dget dX8_figure 25 rfl) rfl ?_
    refine tq_if_eq (tgt := 53) (dget dX8_figure 26 rfl) (by decide) (fun c_45 => ?_) (fun c_45 => ?_)
    · exact absurd c_45 c_31
    · refine tq_iload 1 (dget dX8_figure 27 rfl) rfl ?_
      refine tq_goto (tgt := 55) (dget dX8_figure 28 rfl) (by decide) ?_
      exact tq_iret rfl (dget dX8_figure 30 rfl) ⟨_, rfl, by rw [cnd_t (b_19.t c_31)]; exact congrArg (· - 48) (cd_of (b_19.t c_31).1), (cnd_t (b_19.t c_31) _ _).symm⟩
set_option maxHeartbeats 4000000 in
set_option maxRecDepth 20000 in
theorem k_readsMark (σ : Mem) (c : Nat → Int32) (F N : Nat) (hFN : F + N ≤ 400) (hN : N ≤ 100) (p : Nat) (hp : p ≤ 1000) (hc : ∀ j, σ 61 (F + j) = c j) (h7 : σ 42 7 = nI (p)) (d : Nat) (hd : 1 ≤ d) : PMet d mX8_readsMark [.ref 42, .int (nI F), .int (nI N)] σ (Pi (fun v σ2 => BP (p < N ∧ c p = 59) v ∧ σ2 = cnd (p < N ∧ c p = 59) (up σ 42 7 (nI (p + 1))) σ)) := by
  obtain ⟨d, rfl⟩ : ∃ e, d = e + 1 := ⟨d - 1, by omega⟩
  refine PMet.start (ls0 := [(0, .ref 42), (1, .int (nI F)), (2, .int (nI N))]) miX8_readsMark.1 (Nat.le_of_ble_eq_true rfl) rfl ?_
  refine tq_aload_n 0 (dget dX8_readsMark 0 rfl) rfl rfl ?_
  refine tq_iload_n 1 (dget dX8_readsMark 1 rfl) rfl rfl ?_
  refine tq_iload_n 2 (dget dX8_readsMark 2 rfl) rfl rfl ?_
  refine mq_Vi (As := [.int (nI F), .int (nI N)]) (rest := []) (dget dX8_readsMark 3 rfl) lX8_94 miX8_codeAt (k_codeAt σ c F N hFN hN (p) (by omega) hc h7 d (by omega)) rfl rfl rfl rfl (Nat.le_of_ble_eq_true rfl) (Nat.le_of_ble_eq_true rfl) (fun r_3 σ_3 h_3 => ?_)
  obtain ⟨a_3, e_3⟩ := h_3
  obtain rfl := a_3.symm
  obtain rfl := e_3.symm
  refine tq_bipush (v := 59) (dget dX8_readsMark 4 rfl) rfl ?_
  refine tq_icmp_ne (tgt := 15) (dget dX8_readsMark 5 rfl) (by decide) (fun c_8 => ?_) (fun c_8 => ?_)
  · have g_8 : ¬ (p < N ∧ c p = 59) := fun q => c_8 ((cd_of q.1).trans q.2)
    refine tq_iconst (v := 0) (dget dX8_readsMark 8 rfl) rfl ?_
    refine tq_istore_n (ls2 := [(3, .int 0), (0, .ref 42), (1, .int (nI F)), (2, .int (nI N))]) (dget dX8_readsMark 9 rfl) rfl (by decide) rfl ?_
    refine tq_aload_n 1 (dget dX8_readsMark 10 rfl) rfl rfl ?_
    refine tq_dup (dget dX8_readsMark 11 rfl) rfl ?_
    refine tq_getI (dget dX8_readsMark 12 rfl) fX8_91 rfl rfl ?_
    refine tq_eqi (y := (nI p)) h7 ?_
    refine tq_iload_n 0 (dget dX8_readsMark 13 rfl) rfl rfl ?_
    refine tq_if_eq (tgt := 30) (dget dX8_readsMark 14 rfl) (by decide) (fun c_23 => ?_) (fun c_23 => ?_)
    · refine tq_iconst (v := 0) (dget dX8_readsMark 17 rfl) rfl ?_
      refine tq_iadd (dget dX8_readsMark 18 rfl) ?_
      refine tq_eqi (y := (nI (p + 0))) (nI_add (p) (0)) ?_
      refine tq_putI (dget dX8_readsMark 19 rfl) fX8_91 rfl rfl rfl rfl ?_
      refine tq_iload_n 0 (dget dX8_readsMark 20 rfl) rfl rfl ?_
      exact tq_zret rfl rfl (dget dX8_readsMark 21 rfl) ⟨_, rfl, BP.n g_8, by rw [cnd_f g_8]; exact (congrArg (up σ 42 7) h7.symm).trans (up_self σ 42 7)⟩
    · exact absurd c_23 (by decide)
  · have g_8 := cd_eq (by decide) c_8
    refine tq_iconst (v := 1) (dget dX8_readsMark 6 rfl) rfl ?_
    refine tq_goto (tgt := 16) (dget dX8_readsMark 7 rfl) (by decide) ?_
    refine tq_istore_n (ls2 := [(3, .int 1), (0, .ref 42), (1, .int (nI F)), (2, .int (nI N))]) (dget dX8_readsMark 9 rfl) rfl (by decide) rfl ?_
    refine tq_aload_n 1 (dget dX8_readsMark 10 rfl) rfl rfl ?_
    refine tq_dup (dget dX8_readsMark 11 rfl) rfl ?_
    refine tq_getI (dget dX8_readsMark 12 rfl) fX8_91 rfl rfl ?_
    refine tq_eqi (y := (nI p)) h7 ?_
    refine tq_iload_n 0 (dget dX8_readsMark 13 rfl) rfl rfl ?_
    refine tq_if_eq (tgt := 30) (dget dX8_readsMark 14 rfl) (by decide) (fun c_23 => ?_) (fun c_23 => ?_)
    · exact absurd c_23 (by decide)
    · refine tq_iconst (v := 1) (dget dX8_readsMark 15 rfl) rfl ?_
      refine tq_goto (tgt := 31) (dget dX8_readsMark 16 rfl) (by decide) ?_
      refine tq_iadd (dget dX8_readsMark 18 rfl) ?_
      refine tq_eqi (y := (nI (p + 1))) (nI_add (p) (1)) ?_
      refine tq_putI (dget dX8_readsMark 19 rfl) fX8_91 rfl rfl rfl rfl ?_
      refine tq_iload_n 0 (dget dX8_readsMark 20 rfl) rfl rfl ?_
      exact tq_zret rfl rfl (dget dX8_readsMark 21 rfl) ⟨_, rfl, BP.y g_8, (cnd_t g_8 _ _).symm⟩
theorem part_dig {B : Prop} {j : Nat} {c : Int32} (h0 : ¬ j = 0) (h1 : ¬ (B ∧ j = 1)) : partP B j c ↔ (nI 48 ≤ c ∧ c ≤ nI 57) := by
  unfold partP
  constructor
  · rintro (q | q | q)
    · exact absurd q.1 h0
    · exact absurd ⟨q.2.1, q.2.2.1⟩ h1
    · exact q.2.2
  · intro q
    exact Or.inr (Or.inr ⟨h0, h1, q⟩)
theorem part_0 {B : Prop} {c : Int32} : partP B 0 c ↔ c = 59 := by
  unfold partP
  constructor
  · rintro (q | q | q)
    · exact q.2
    · exact absurd rfl q.1
    · exact absurd rfl q.1
  · intro q; exact Or.inl ⟨rfl, q⟩
theorem part_1 {c : Int32} : partP True 1 c ↔ ¬ kdF c = -9 := by
  unfold partP
  constructor
  · rintro (q | q | q)
    · exact absurd q.1 (by decide)
    · exact q.2.2.2
    · exact absurd ⟨trivial, rfl⟩ q.2.1
  · intro q; exact Or.inr (Or.inl ⟨by decide, trivial, rfl, q⟩)
/-- a part of a text (at p, k codes long, B: a maid's) fails at its place e -/
def pfF (B : Prop) (c : Nat → Int32) (N k p : Nat) (τ : Mem) : Prop := ∃ e, e < k ∧ τ 42 7 = nI (p + e) ∧ (∀ j, j < e → p + j < N ∧ partP B j (c (p + j))) ∧ ¬ (p + e < N ∧ partP B e (c (p + e)))
def rmB (σ : Mem) (m : Nat) (τ : Mem) : Prop := RW σ τ ∧ (∀ a, a ≠ m → τ 46 a = σ 46 a) ∧ (∀ a, a < 6 * m → τ 47 a = σ 47 a) ∧ τ 42 8 = σ 42 8 ∧ τ 42 9 = σ 42 9
def rmY (c : Nat → Int32) (N m p s : Nat) (τ : Mem) : Prop := τ 42 7 = nI (p + 2 + s) ∧ (∀ j, j < s + 2 → p + j < N ∧ partP True j (c (p + j))) ∧ τ 46 m = kdF (c (p + 1)) ∧ ∀ x, x < s → τ 47 (6 * m + x) = c (p + 2 + x) - 48
def rmI (σ : Mem) (c : Nat → Int32) (N S m p s : Nat) (u : Int32) (τ : Mem) : Prop := rmB σ m τ ∧ ((u = 1 ∧ rmY c N m p s τ) ∨ (u = 0 ∧ pfF True c N (S + 2) p τ))
theorem rmB.up7 {σ τ : Mem} {m : Nat} (h : rmB σ m τ) (v : Int32) : rmB σ m (up τ 42 7 v) :=
  ⟨h.1.up7 v, fun a e => (congrFun (up_row (by decide)) a).trans (h.2.1 a e), fun a e => (congrFun (up_row (by decide)) a).trans (h.2.2.1 a e), (up_n (by omega)).trans h.2.2.2.1, (up_n (by omega)).trans h.2.2.2.2⟩
theorem rmB.up46 {σ τ : Mem} {m : Nat} (h : rmB σ m τ) (v : Int32) : rmB σ m (up τ 46 m v) :=
  ⟨h.1.upA 46 m v (Or.inl rfl), fun a e => (up_n (by omega)).trans (h.2.1 a e), fun a e => (congrFun (up_row (by decide)) a).trans (h.2.2.1 a e), (congrFun (up_row (by decide)) _).trans h.2.2.2.1, (congrFun (up_row (by decide)) _).trans h.2.2.2.2⟩
theorem rmB.up47 {σ τ : Mem} {m : Nat} (h : rmB σ m τ) (x : Nat) (v : Int32) : rmB σ m (up τ 47 (6 * m + x) v) :=
  ⟨h.1.upA 47 _ v (Or.inr (Or.inl rfl)), fun a e => (congrFun (up_row (by decide)) a).trans (h.2.1 a e), fun a e => (up_n (by omega)).trans (h.2.2.1 a e), (congrFun (up_row (by decide)) _).trans h.2.2.2.1, (congrFun (up_row (by decide)) _).trans h.2.2.2.2⟩
theorem rmI_y {σ τ : Mem} {c : Nat → Int32} {N S m p s : Nat} (hb : rmB σ m τ) (h : rmY c N m p s τ) (g : fgP c N (p + 2 + s) 0 9) : rmI σ c N S m p (s + 1) 1 (up (up τ 42 7 (nI (p + 2 + s + 1))) 47 (6 * m + s) (c (p + 2 + s) - 48)) := by
  refine ⟨(hb.up7 _).up47 _ _, Or.inl ⟨rfl, (up_n (by omega)).trans up_s, fun j hj => ?_, ?_, fun x hx => ?_⟩⟩
  · by_cases e : j = s + 2
    · subst e
      rw [show p + (s + 2) = p + 2 + s by omega]
      exact ⟨g.1, (part_dig (by omega) (by omega)).mpr g.2⟩
    · exact h.2.1 j (by omega)
  · rw [up_n (by omega), up_n (by omega)]; exact h.2.2.1
  · by_cases e : x = s
    · subst e; exact up_s
    · rw [up_n (by omega), up_n (by omega)]; exact h.2.2.2 x (by omega)
theorem rmI_n {σ τ : Mem} {c : Nat → Int32} {N S m p s : Nat} (hs : s < S) (hb : rmB σ m τ) (h : rmY c N m p s τ) (g : ¬ fgP c N (p + 2 + s) 0 9) : rmI σ c N S m p (s + 1) 0 (up τ 47 (6 * m + s) (-9)) := by
  refine ⟨hb.up47 _ _, Or.inr ⟨rfl, s + 2, by omega, ?_, h.2.1, fun q => g ?_⟩⟩
  · rw [up_n (by omega), show p + (s + 2) = p + 2 + s by omega]; exact h.1
  · rw [show p + (s + 2) = p + 2 + s by omega] at q
    exact ⟨q.1, (part_dig (by omega) (by omega)).mp q.2⟩

set_option maxHeartbeats 4000000 in
set_option maxRecDepth 20000 in
theorem k_readsMaid_loop (σ : Mem) (c : Nat → Int32) (F N : Nat) (hFN : F + N ≤ 400) (hN : N ≤ 100) (S m p : Nat) (hS : S ≤ 6) (hm4 : m < 4) (hp : p ≤ 100) (hc : ∀ j, σ 61 (F + j) = c j) (h8 : σ 42 8 = nI S) (z : Int32) (d : Nat) (hd : 2 ≤ d) : ∀ (n : Nat) (s : Nat) (u : Int32) (τ : Mem) (hm : S < s + n) (hs : s ≤ S) (hI : rmI σ c N S m p s u τ), PAt (EM d (Pi (fun v σ2 => rmI σ c N S m p S v σ2))) mX8_readsMaid 87 [(6, .int (nI s)), (5, .int u), (0, .ref 42), (1, .int (nI F)), (2, .int (nI N)), (3, .int (nI m)), (4, .int z)] [] τ := by
  obtain ⟨d, rfl⟩ : ∃ e, d = e + 1 := ⟨d - 1, by omega⟩
  intro n
  induction n with
  | zero => intro s u τ hm hs hI; exact absurd hm (by omega)
  | succ n ih =>
    intro s u τ hm hs hI
    refine tq_iload 0 (dget dX8_readsMaid 48 rfl) rfl ?_
    refine tq_aload_n 2 (dget dX8_readsMaid 49 rfl) rfl rfl ?_
    refine tq_getI (dget dX8_readsMaid 50 rfl) fX8_102 rfl rfl ?_
    refine tq_eqi (y := (nI S)) (hI.1.2.2.2.1.trans h8) ?_
    refine tq_icmp_ge (tgt := 150) (dget dX8_readsMaid 51 rfl) (by decide) (fun c_93 => ?_) (fun c_93 => ?_)
    · have g_93 := kle (by omega) (by omega) c_93
      have g_94 : s = S := by omega
      refine tq_iload 1 (dget dX8_readsMaid 83 rfl) rfl ?_
      exact tq_zret rfl (by rcases hI.2 with q | q <;> rw [q.1] <;> rfl) (dget dX8_readsMaid 84 rfl) ⟨_, rfl, by subst g_94; exact hI⟩
    · have g_93 := knle (by omega) (by omega) c_93
      refine tq_iload 1 (dget dX8_readsMaid 52 rfl) rfl ?_
      refine tq_if_eq (tgt := 150) (dget dX8_readsMaid 53 rfl) (by decide) (fun c_98 => ?_) (fun c_98 => ?_)
      · refine tq_iload 1 (dget dX8_readsMaid 83 rfl) rfl ?_
        exact tq_zret rfl (by rcases hI.2 with q | q <;> rw [q.1] <;> rfl) (dget dX8_readsMaid 84 rfl) ⟨_, rfl, hI.1, hI.2.elim (fun q => absurd (q.1.symm.trans c_98) (by decide)) Or.inr⟩
      · obtain ⟨hT, hY⟩ : rmB σ m τ ∧ rmY c N m p s τ := by
          obtain ⟨q0, q | q⟩ := hI
          · exact ⟨q0, q.2⟩
          · exact absurd q.1 c_98
        refine tq_aload_n 2 (dget dX8_readsMaid 54 rfl) rfl rfl ?_
        refine tq_getR (dget dX8_readsMaid 55 rfl) fX8_22 rfl rfl ?_
        refine tq_bipush (v := 6) (dget dX8_readsMaid 56 rfl) rfl ?_
        refine tq_iload_n 5 (dget dX8_readsMaid 57 rfl) rfl rfl ?_
        refine tq_imul (dget dX8_readsMaid 58 rfl) ?_
        refine tq_eqi (y := (nI (6 * m))) (nI_mulN (6) (m)) ?_
        refine tq_iload 0 (dget dX8_readsMaid 59 rfl) rfl ?_
        refine tq_iadd (dget dX8_readsMaid 60 rfl) ?_
        refine tq_eqi (y := (nI ((6 * m) + s))) (nI_add ((6 * m)) (s)) ?_
        refine tq_aload_n 2 (dget dX8_readsMaid 61 rfl) rfl rfl ?_
        refine tq_iload_n 3 (dget dX8_readsMaid 62 rfl) rfl rfl ?_
        refine tq_iload_n 4 (dget dX8_readsMaid 63 rfl) rfl rfl ?_
        refine tq_iconst (v := 0) (dget dX8_readsMaid 64 rfl) rfl ?_
        refine tq_bipush (v := 9) (dget dX8_readsMaid 65 rfl) rfl ?_
        refine mq_Vi (As := [.int (nI F), .int (nI N), .int 0, .int 9]) (rest := [.int (nI ((6 * m) + s)), .ref 47]) (dget dX8_readsMaid 66 rfl) lX8_105 miX8_figure (k_figure τ c F N hFN hN (p + 2 + s) (by omega) (hT.1.c61 hc) hY.1 0 9 (by omega) (by omega) d (by omega)) rfl rfl rfl rfl (Nat.le_of_ble_eq_true rfl) (Nat.le_of_ble_eq_true rfl) (fun r_118 σ_118 h_118 => ?_)
        obtain ⟨a_118, e_118⟩ := h_118
        obtain rfl := a_118.symm
        obtain rfl := e_118.symm
        by_cases hP : fgP c N (p + 2 + s) 0 9
        · rw [cnd_t hP]
          refine tq_mem (cnd_t hP _ _) ?_
          refine tq_iastN ((6 * m) + s) (dget dX8_readsMaid 67 rfl) rfl (by decide) rfl (by omega) ?_
          refine tq_aload_n 2 (dget dX8_readsMaid 68 rfl) rfl rfl ?_
          refine tq_getR (dget dX8_readsMaid 69 rfl) fX8_22 rfl rfl ?_
          refine tq_bipush (v := 6) (dget dX8_readsMaid 70 rfl) rfl ?_
          refine tq_iload_n 5 (dget dX8_readsMaid 71 rfl) rfl rfl ?_
          refine tq_imul (dget dX8_readsMaid 72 rfl) ?_
          refine tq_eqi (y := (nI (6 * m))) (nI_mulN (6) (m)) ?_
          refine tq_iload 0 (dget dX8_readsMaid 73 rfl) rfl ?_
          refine tq_iadd (dget dX8_readsMaid 74 rfl) ?_
          refine tq_eqi (y := (nI ((6 * m) + s))) (nI_add ((6 * m)) (s)) ?_
          refine tq_ialdN ((6 * m) + s) (dget dX8_readsMaid 75 rfl) rfl (by decide) rfl (by omega) ?_
          refine tq_eqi (y := (c (p + 2 + s) - 48)) up_s ?_
          refine tq_if_lt (tgt := 141) (dget dX8_readsMaid 76 rfl) (by decide) (fun c_134 => ?_) (fun c_134 => ?_)
          · exact absurd c_134 (fg_pos (by omega) (by omega) hP)
          · refine tq_iconst (v := 1) (dget dX8_readsMaid 77 rfl) rfl ?_
            refine tq_goto (tgt := 142) (dget dX8_readsMaid 78 rfl) (by decide) ?_
            refine tq_istore (ls2 := [(5, .int 1), (6, .int (nI s)), (0, .ref 42), (1, .int (nI F)), (2, .int (nI N)), (3, .int (nI m)), (4, .int z)]) (dget dX8_readsMaid 80 rfl) (by decide) rfl ?_
            refine tq_iinc (v := (nI (s + 1))) (ls2 := [(6, .int (nI (s + 1))), (5, .int 1), (0, .ref 42), (1, .int (nI F)), (2, .int (nI N)), (3, .int (nI m)), (4, .int z)]) 1 (dget dX8_readsMaid 81 rfl) rfl (nI_1 s) (by decide) rfl ?_
            refine tq_goto (tgt := 87) (dget dX8_readsMaid 82 rfl) (by decide) ?_
            refine tq_sub [0, 1, 2, 3, 4, 5, 6] (ls' := [(6, .int (nI (s + 1))), (5, .int 1), (0, .ref 42), (1, .int (nI F)), (2, .int (nI N)), (3, .int (nI m)), (4, .int z)]) rfl ?_
            exact ih (s + 1) 1 _ (by omega) (by omega) (rmI_y hT hY hP)
        · rw [cnd_f hP]
          refine tq_mem (cnd_f hP _ _) ?_
          refine tq_iastN ((6 * m) + s) (dget dX8_readsMaid 67 rfl) rfl (by decide) rfl (by omega) ?_
          refine tq_aload_n 2 (dget dX8_readsMaid 68 rfl) rfl rfl ?_
          refine tq_getR (dget dX8_readsMaid 69 rfl) fX8_22 rfl rfl ?_
          refine tq_bipush (v := 6) (dget dX8_readsMaid 70 rfl) rfl ?_
          refine tq_iload_n 5 (dget dX8_readsMaid 71 rfl) rfl rfl ?_
          refine tq_imul (dget dX8_readsMaid 72 rfl) ?_
          refine tq_eqi (y := (nI (6 * m))) (nI_mulN (6) (m)) ?_
          refine tq_iload 0 (dget dX8_readsMaid 73 rfl) rfl ?_
          refine tq_iadd (dget dX8_readsMaid 74 rfl) ?_
          refine tq_eqi (y := (nI ((6 * m) + s))) (nI_add ((6 * m)) (s)) ?_
          refine tq_ialdN ((6 * m) + s) (dget dX8_readsMaid 75 rfl) rfl (by decide) rfl (by omega) ?_
          refine tq_eqi (y := (-9)) up_s ?_
          refine tq_if_lt (tgt := 141) (dget dX8_readsMaid 76 rfl) (by decide) (fun c_134 => ?_) (fun c_134 => ?_)
          · refine tq_iconst (v := 0) (dget dX8_readsMaid 79 rfl) rfl ?_
            refine tq_istore (ls2 := [(5, .int 0), (6, .int (nI s)), (0, .ref 42), (1, .int (nI F)), (2, .int (nI N)), (3, .int (nI m)), (4, .int z)]) (dget dX8_readsMaid 80 rfl) (by decide) rfl ?_
            refine tq_iinc (v := (nI (s + 1))) (ls2 := [(6, .int (nI (s + 1))), (5, .int 0), (0, .ref 42), (1, .int (nI F)), (2, .int (nI N)), (3, .int (nI m)), (4, .int z)]) 1 (dget dX8_readsMaid 81 rfl) rfl (nI_1 s) (by decide) rfl ?_
            refine tq_goto (tgt := 87) (dget dX8_readsMaid 82 rfl) (by decide) ?_
            refine tq_sub [0, 1, 2, 3, 4, 5, 6] (ls' := [(6, .int (nI (s + 1))), (5, .int 0), (0, .ref 42), (1, .int (nI F)), (2, .int (nI N)), (3, .int (nI m)), (4, .int z)]) rfl ?_
            exact ih (s + 1) 0 _ (by omega) (by omega) (rmI_n g_93 hT hY hP)
          · exact absurd c_134 (by decide)
theorem rmB_rf {σ : Mem} {m : Nat} : rmB σ m σ := ⟨RW.rf σ, fun _ _ => rfl, fun _ _ => rfl, rfl, rfl⟩
theorem kd_no {x : Int32} (h1 : ¬ x = 109) (h2 : ¬ x = 112) (h3 : ¬ x = 104) : kdF x = -9 := by
  unfold kdF
  rw [if_neg h3, if_neg h1, if_neg h2]
set_option maxHeartbeats 4000000 in
set_option maxRecDepth 20000 in
theorem k_readsMaid (σ : Mem) (c : Nat → Int32) (F N : Nat) (hFN : F + N ≤ 400) (hN : N ≤ 100) (S m p : Nat) (hS : S ≤ 6) (hm4 : m < 4) (hp : p ≤ 100) (hc : ∀ j, σ 61 (F + j) = c j) (h7 : σ 42 7 = nI (p)) (h8 : σ 42 8 = nI S) (d : Nat) (hd : 2 ≤ d) : PMet d mX8_readsMaid [.ref 42, .int (nI F), .int (nI N), .int (nI m)] σ (Pi (fun v σ2 => rmI σ c N S m p S v σ2)) := by
  obtain ⟨d, rfl⟩ : ∃ e, d = e + 1 := ⟨d - 1, by omega⟩
  refine PMet.start (ls0 := [(0, .ref 42), (1, .int (nI F)), (2, .int (nI N)), (3, .int (nI m))]) miX8_readsMaid.1 (Nat.le_of_ble_eq_true rfl) rfl ?_
  refine tq_aload_n 0 (dget dX8_readsMaid 0 rfl) rfl rfl ?_
  refine tq_iload_n 1 (dget dX8_readsMaid 1 rfl) rfl rfl ?_
  refine tq_iload_n 2 (dget dX8_readsMaid 2 rfl) rfl rfl ?_
  refine mq_Vi (As := [.int (nI F), .int (nI N)]) (rest := []) (dget dX8_readsMaid 3 rfl) lX8_98 miX8_readsMark (k_readsMark σ c F N hFN hN (p) (by omega) hc h7 d (by omega)) rfl rfl rfl rfl (Nat.le_of_ble_eq_true rfl) (Nat.le_of_ble_eq_true rfl) (fun r_3 σ_3 h_3 => ?_)
  obtain ⟨b_3, e_3⟩ := h_3
  obtain rfl := e_3.symm
  refine tq_if_ne (tgt := 11) (dget dX8_readsMaid 4 rfl) (by decide) (fun c_6 => ?_) (fun c_6 => ?_)
  · have g_6 := b_3.t c_6
    refine tq_mem (cnd_t g_6 _ _) ?_
    refine tq_aload_n 0 (dget dX8_readsMaid 7 rfl) rfl rfl ?_
    refine tq_iload_n 1 (dget dX8_readsMaid 8 rfl) rfl rfl ?_
    refine tq_iload_n 2 (dget dX8_readsMaid 9 rfl) rfl rfl ?_
    refine mq_Vi (As := [.int (nI F), .int (nI N)]) (rest := []) (dget dX8_readsMaid 10 rfl) lX8_94 miX8_codeAt (k_codeAt (up σ 42 7 (nI (p + 1))) c F N hFN hN (p + 1) (by omega) (((RW.rf σ).up7 _).c61 hc) up_s d (by omega)) rfl rfl rfl rfl (Nat.le_of_ble_eq_true rfl) (Nat.le_of_ble_eq_true rfl) (fun r_14 σ_14 h_14 => ?_)
    obtain ⟨a_14, e_14⟩ := h_14
    obtain rfl := a_14.symm
    obtain rfl := e_14.symm
    refine tq_istore (ls2 := [(4, .int (cdA c N (p + 1))), (0, .ref 42), (1, .int (nI F)), (2, .int (nI N)), (3, .int (nI m))]) (dget dX8_readsMaid 11 rfl) (by decide) rfl ?_
    refine tq_iload 0 (dget dX8_readsMaid 12 rfl) rfl ?_
    refine tq_bipush (v := 109) (dget dX8_readsMaid 13 rfl) rfl ?_
    refine tq_icmp_eq (tgt := 42) (dget dX8_readsMaid 14 rfl) (by decide) (fun c_23 => ?_) (fun c_23 => ?_)
    · refine tq_aload_n 1 (dget dX8_readsMaid 23 rfl) rfl rfl ?_
      refine tq_dup (dget dX8_readsMaid 24 rfl) rfl ?_
      refine tq_getI (dget dX8_readsMaid 25 rfl) fX8_91 rfl rfl ?_
      refine tq_eqi (y := (nI (p + 1))) up_s ?_
      refine tq_iconst (v := 1) (dget dX8_readsMaid 26 rfl) rfl ?_
      refine tq_iadd (dget dX8_readsMaid 27 rfl) ?_
      refine tq_eqi (y := (nI ((p + 1) + 1))) (nI_add ((p + 1)) (1)) ?_
      refine tq_putI (dget dX8_readsMaid 28 rfl) fX8_91 rfl rfl rfl rfl ?_
      refine tq_aload_n 1 (dget dX8_readsMaid 29 rfl) rfl rfl ?_
      refine tq_getR (dget dX8_readsMaid 30 rfl) fX8_19 rfl rfl ?_
      refine tq_iload_n 4 (dget dX8_readsMaid 31 rfl) rfl rfl ?_
      refine tq_iload 0 (dget dX8_readsMaid 32 rfl) rfl ?_
      refine tq_bipush (v := 109) (dget dX8_readsMaid 33 rfl) rfl ?_
      refine tq_icmp_ne (tgt := 68) (dget dX8_readsMaid 34 rfl) (by decide) (fun c_61 => ?_) (fun c_61 => ?_)
      · exact absurd c_23 c_61
      · refine tq_iconst (v := 0) (dget dX8_readsMaid 35 rfl) rfl ?_
        refine tq_goto (tgt := 80) (dget dX8_readsMaid 36 rfl) (by decide) ?_
        refine tq_iastN m (dget dX8_readsMaid 43 rfl) rfl (by decide) rfl (by omega) ?_
        have g_9 := cd_eq (by decide) c_23
        have g_8 : kdF (c (p + 1)) = 0 := by rw [g_9.2]; rfl
        refine tq_mem (σ' := up (up (up σ 42 7 (nI (p + 1))) 42 7 (nI ((p + 1) + 1))) 46 m (kdF (c (p + 1)))) (by rw [g_8]) ?_
        refine tq_iconst (v := 1) (dget dX8_readsMaid 44 rfl) rfl ?_
        refine tq_istore (ls2 := [(5, .int 1), (4, .int (cdA c N (p + 1))), (0, .ref 42), (1, .int (nI F)), (2, .int (nI N)), (3, .int (nI m))]) (dget dX8_readsMaid 45 rfl) (by decide) rfl ?_
        refine tq_iconst (v := 0) (dget dX8_readsMaid 46 rfl) rfl ?_
        refine tq_istore (ls2 := [(6, .int 0), (5, .int 1), (4, .int (cdA c N (p + 1))), (0, .ref 42), (1, .int (nI F)), (2, .int (nI N)), (3, .int (nI m))]) (dget dX8_readsMaid 47 rfl) (by decide) rfl ?_
        refine tq_sub [0, 1, 3, 4, 5, 6, 2] (ls' := [(6, .int (nI 0)), (5, .int 1), (0, .ref 42), (1, .int (nI F)), (2, .int (nI N)), (3, .int (nI m)), (4, .int (cdA c N (p + 1)))]) rfl ?_
        refine k_readsMaid_loop σ c F N hFN hN S m p hS hm4 hp hc h8 _ (d + 1) (by omega) (S + 1) 0 1 _ (by omega) (by omega) ⟨((rmB_rf.up7 _).up7 _).up46 _, Or.inl ⟨rfl, ?_, fun j hj => ?_, up_s, fun x hx => absurd hx (by omega)⟩⟩
        · rw [up_n (by omega)]; exact up_s
        · rcases (show j = 0 ∨ j = 1 by omega) with rfl | rfl
          · exact ⟨g_6.1, part_0.mpr g_6.2⟩
          · exact ⟨g_9.1, part_1.mpr (by rw [g_8]; decide)⟩
    · refine tq_iload 0 (dget dX8_readsMaid 15 rfl) rfl ?_
      refine tq_bipush (v := 112) (dget dX8_readsMaid 16 rfl) rfl ?_
      refine tq_icmp_eq (tgt := 42) (dget dX8_readsMaid 17 rfl) (by decide) (fun c_30 => ?_) (fun c_30 => ?_)
      · refine tq_aload_n 1 (dget dX8_readsMaid 23 rfl) rfl rfl ?_
        refine tq_dup (dget dX8_readsMaid 24 rfl) rfl ?_
        refine tq_getI (dget dX8_readsMaid 25 rfl) fX8_91 rfl rfl ?_
        refine tq_eqi (y := (nI (p + 1))) up_s ?_
        refine tq_iconst (v := 1) (dget dX8_readsMaid 26 rfl) rfl ?_
        refine tq_iadd (dget dX8_readsMaid 27 rfl) ?_
        refine tq_eqi (y := (nI ((p + 1) + 1))) (nI_add ((p + 1)) (1)) ?_
        refine tq_putI (dget dX8_readsMaid 28 rfl) fX8_91 rfl rfl rfl rfl ?_
        refine tq_aload_n 1 (dget dX8_readsMaid 29 rfl) rfl rfl ?_
        refine tq_getR (dget dX8_readsMaid 30 rfl) fX8_19 rfl rfl ?_
        refine tq_iload_n 4 (dget dX8_readsMaid 31 rfl) rfl rfl ?_
        refine tq_iload 0 (dget dX8_readsMaid 32 rfl) rfl ?_
        refine tq_bipush (v := 109) (dget dX8_readsMaid 33 rfl) rfl ?_
        refine tq_icmp_ne (tgt := 68) (dget dX8_readsMaid 34 rfl) (by decide) (fun c_61 => ?_) (fun c_61 => ?_)
        · refine tq_iload 0 (dget dX8_readsMaid 37 rfl) rfl ?_
          refine tq_bipush (v := 112) (dget dX8_readsMaid 38 rfl) rfl ?_
          refine tq_icmp_ne (tgt := 79) (dget dX8_readsMaid 39 rfl) (by decide) (fun c_72 => ?_) (fun c_72 => ?_)
          · exact absurd c_30 c_72
          · refine tq_iconst (v := 1) (dget dX8_readsMaid 40 rfl) rfl ?_
            refine tq_goto (tgt := 80) (dget dX8_readsMaid 41 rfl) (by decide) ?_
            refine tq_iastN m (dget dX8_readsMaid 43 rfl) rfl (by decide) rfl (by omega) ?_
            have g_9 := cd_eq (by decide) c_30
            have g_8 : kdF (c (p + 1)) = 1 := by rw [g_9.2]; rfl
            refine tq_mem (σ' := up (up (up σ 42 7 (nI (p + 1))) 42 7 (nI ((p + 1) + 1))) 46 m (kdF (c (p + 1)))) (by rw [g_8]) ?_
            refine tq_iconst (v := 1) (dget dX8_readsMaid 44 rfl) rfl ?_
            refine tq_istore (ls2 := [(5, .int 1), (4, .int (cdA c N (p + 1))), (0, .ref 42), (1, .int (nI F)), (2, .int (nI N)), (3, .int (nI m))]) (dget dX8_readsMaid 45 rfl) (by decide) rfl ?_
            refine tq_iconst (v := 0) (dget dX8_readsMaid 46 rfl) rfl ?_
            refine tq_istore (ls2 := [(6, .int 0), (5, .int 1), (4, .int (cdA c N (p + 1))), (0, .ref 42), (1, .int (nI F)), (2, .int (nI N)), (3, .int (nI m))]) (dget dX8_readsMaid 47 rfl) (by decide) rfl ?_
            refine tq_sub [0, 1, 3, 4, 5, 6, 2] (ls' := [(6, .int (nI 0)), (5, .int 1), (0, .ref 42), (1, .int (nI F)), (2, .int (nI N)), (3, .int (nI m)), (4, .int (cdA c N (p + 1)))]) rfl ?_
            refine k_readsMaid_loop σ c F N hFN hN S m p hS hm4 hp hc h8 _ (d + 1) (by omega) (S + 1) 0 1 _ (by omega) (by omega) ⟨((rmB_rf.up7 _).up7 _).up46 _, Or.inl ⟨rfl, ?_, fun j hj => ?_, up_s, fun x hx => absurd hx (by omega)⟩⟩
            · rw [up_n (by omega)]; exact up_s
            · rcases (show j = 0 ∨ j = 1 by omega) with rfl | rfl
              · exact ⟨g_6.1, part_0.mpr g_6.2⟩
              · exact ⟨g_9.1, part_1.mpr (by rw [g_8]; decide)⟩
        · exact absurd c_61 c_23
      · refine tq_iload 0 (dget dX8_readsMaid 18 rfl) rfl ?_
        refine tq_bipush (v := 104) (dget dX8_readsMaid 19 rfl) rfl ?_
        refine tq_icmp_eq (tgt := 42) (dget dX8_readsMaid 20 rfl) (by decide) (fun c_37 => ?_) (fun c_37 => ?_)
        · refine tq_aload_n 1 (dget dX8_readsMaid 23 rfl) rfl rfl ?_
          refine tq_dup (dget dX8_readsMaid 24 rfl) rfl ?_
          refine tq_getI (dget dX8_readsMaid 25 rfl) fX8_91 rfl rfl ?_
          refine tq_eqi (y := (nI (p + 1))) up_s ?_
          refine tq_iconst (v := 1) (dget dX8_readsMaid 26 rfl) rfl ?_
          refine tq_iadd (dget dX8_readsMaid 27 rfl) ?_
          refine tq_eqi (y := (nI ((p + 1) + 1))) (nI_add ((p + 1)) (1)) ?_
          refine tq_putI (dget dX8_readsMaid 28 rfl) fX8_91 rfl rfl rfl rfl ?_
          refine tq_aload_n 1 (dget dX8_readsMaid 29 rfl) rfl rfl ?_
          refine tq_getR (dget dX8_readsMaid 30 rfl) fX8_19 rfl rfl ?_
          refine tq_iload_n 4 (dget dX8_readsMaid 31 rfl) rfl rfl ?_
          refine tq_iload 0 (dget dX8_readsMaid 32 rfl) rfl ?_
          refine tq_bipush (v := 109) (dget dX8_readsMaid 33 rfl) rfl ?_
          refine tq_icmp_ne (tgt := 68) (dget dX8_readsMaid 34 rfl) (by decide) (fun c_61 => ?_) (fun c_61 => ?_)
          · refine tq_iload 0 (dget dX8_readsMaid 37 rfl) rfl ?_
            refine tq_bipush (v := 112) (dget dX8_readsMaid 38 rfl) rfl ?_
            refine tq_icmp_ne (tgt := 79) (dget dX8_readsMaid 39 rfl) (by decide) (fun c_72 => ?_) (fun c_72 => ?_)
            · refine tq_iconst (v := 2) (dget dX8_readsMaid 42 rfl) rfl ?_
              refine tq_iastN m (dget dX8_readsMaid 43 rfl) rfl (by decide) rfl (by omega) ?_
              have g_9 := cd_eq (by decide) c_37
              have g_8 : kdF (c (p + 1)) = 2 := by rw [g_9.2]; rfl
              refine tq_mem (σ' := up (up (up σ 42 7 (nI (p + 1))) 42 7 (nI ((p + 1) + 1))) 46 m (kdF (c (p + 1)))) (by rw [g_8]) ?_
              refine tq_iconst (v := 1) (dget dX8_readsMaid 44 rfl) rfl ?_
              refine tq_istore (ls2 := [(5, .int 1), (4, .int (cdA c N (p + 1))), (0, .ref 42), (1, .int (nI F)), (2, .int (nI N)), (3, .int (nI m))]) (dget dX8_readsMaid 45 rfl) (by decide) rfl ?_
              refine tq_iconst (v := 0) (dget dX8_readsMaid 46 rfl) rfl ?_
              refine tq_istore (ls2 := [(6, .int 0), (5, .int 1), (4, .int (cdA c N (p + 1))), (0, .ref 42), (1, .int (nI F)), (2, .int (nI N)), (3, .int (nI m))]) (dget dX8_readsMaid 47 rfl) (by decide) rfl ?_
              refine tq_sub [0, 1, 3, 4, 5, 6, 2] (ls' := [(6, .int (nI 0)), (5, .int 1), (0, .ref 42), (1, .int (nI F)), (2, .int (nI N)), (3, .int (nI m)), (4, .int (cdA c N (p + 1)))]) rfl ?_
              refine k_readsMaid_loop σ c F N hFN hN S m p hS hm4 hp hc h8 _ (d + 1) (by omega) (S + 1) 0 1 _ (by omega) (by omega) ⟨((rmB_rf.up7 _).up7 _).up46 _, Or.inl ⟨rfl, ?_, fun j hj => ?_, up_s, fun x hx => absurd hx (by omega)⟩⟩
              · rw [up_n (by omega)]; exact up_s
              · rcases (show j = 0 ∨ j = 1 by omega) with rfl | rfl
                · exact ⟨g_6.1, part_0.mpr g_6.2⟩
                · exact ⟨g_9.1, part_1.mpr (by rw [g_8]; decide)⟩
            · exact absurd c_72 c_30
          · exact absurd c_61 c_23
        · refine tq_iconst (v := 0) (dget dX8_readsMaid 21 rfl) rfl ?_
          exact tq_zret rfl rfl (dget dX8_readsMaid 22 rfl) ⟨_, rfl, rmB_rf.up7 _, Or.inr ⟨rfl, 1, by omega, up_s, fun j hj => (by rcases (show j = 0 by omega) with rfl; exact ⟨g_6.1, part_0.mpr g_6.2⟩), fun q => part_1.mp q.2 (kd_no (fun e => c_23 ((cd_of q.1).trans e)) (fun e => c_30 ((cd_of q.1).trans e)) (fun e => c_37 ((cd_of q.1).trans e)))⟩⟩
  · have g_6 := b_3.f c_6
    refine tq_mem (cnd_f g_6 _ _) ?_
    refine tq_iconst (v := 0) (dget dX8_readsMaid 5 rfl) rfl ?_
    exact tq_zret rfl rfl (dget dX8_readsMaid 6 rfl) ⟨_, rfl, rmB_rf, Or.inr ⟨rfl, 0, by omega, h7, fun j hj => absurd hj (by omega), fun q => g_6 ⟨q.1, part_0.mp q.2⟩⟩⟩

/-! ===== the reference (12): a suitor's part; a whole text ===== -/
def rsB (σ : Mem) (s : Nat) (τ : Mem) : Prop := RW σ τ ∧ τ 46 = σ 46 ∧ τ 47 = σ 47 ∧ (∀ a b, a < s → s < 6 → τ 48 (6 * b + a) = σ 48 (6 * b + a)) ∧ τ 42 8 = σ 42 8 ∧ τ 42 9 = σ 42 9
def rsY (c : Nat → Int32) (N s p m : Nat) (τ : Mem) : Prop := τ 42 7 = nI (p + 1 + m) ∧ (∀ j, j < m + 1 → p + j < N ∧ partP False j (c (p + j))) ∧ ∀ x, x < m → τ 48 (6 * x + s) = c (p + 1 + x) - 48
def rsI (σ : Mem) (c : Nat → Int32) (N M s p m : Nat) (u : Int32) (τ : Mem) : Prop := rsB σ s τ ∧ ((u = 1 ∧ rsY c N s p m τ) ∨ (u = 0 ∧ pfF False c N (M + 1) p τ))
theorem rsB_rf {σ : Mem} {s : Nat} : rsB σ s σ := ⟨RW.rf σ, rfl, rfl, fun _ _ _ _ => rfl, rfl, rfl⟩
theorem rsB.up7 {σ τ : Mem} {s : Nat} (h : rsB σ s τ) (v : Int32) : rsB σ s (up τ 42 7 v) :=
  ⟨h.1.up7 v, (up_row (by decide)).trans h.2.1, (up_row (by decide)).trans h.2.2.1, fun a b e e2 => (congrFun (up_row (by decide)) _).trans (h.2.2.2.1 a b e e2), (up_n (by omega)).trans h.2.2.2.2.1, (up_n (by omega)).trans h.2.2.2.2.2⟩
theorem rsB.up48 {σ τ : Mem} {s : Nat} (h : rsB σ s τ) (x : Nat) (v : Int32) : rsB σ s (up τ 48 (6 * x + s) v) :=
  ⟨h.1.upA 48 _ v (Or.inr (Or.inr rfl)), (up_row (by decide)).trans h.2.1, (up_row (by decide)).trans h.2.2.1, fun a b e e2 => (up_n (by omega)).trans (h.2.2.2.1 a b e e2), (congrFun (up_row (by decide)) _).trans h.2.2.2.2.1, (congrFun (up_row (by decide)) _).trans h.2.2.2.2.2⟩
theorem rsI_y {σ τ : Mem} {c : Nat → Int32} {N M s p m : Nat} (hb : rsB σ s τ) (h : rsY c N s p m τ) (g : fgP c N (p + 1 + m) 0 9) : rsI σ c N M s p (m + 1) 1 (up (up τ 42 7 (nI (p + 1 + m + 1))) 48 (6 * m + s) (c (p + 1 + m) - 48)) := by
  refine ⟨(hb.up7 _).up48 _ _, Or.inl ⟨rfl, (up_n (by omega)).trans up_s, fun j hj => ?_, fun x hx => ?_⟩⟩
  · by_cases e : j = m + 1
    · subst e
      rw [show p + (m + 1) = p + 1 + m by omega]
      exact ⟨g.1, (part_dig (by omega) (fun q => q.1)).mpr g.2⟩
    · exact h.2.1 j (by omega)
  · by_cases e : x = m
    · subst e; exact up_s
    · rw [up_n (by omega), up_n (by omega)]; exact h.2.2 x (by omega)
theorem rsI_n {σ τ : Mem} {c : Nat → Int32} {N M s p m : Nat} (hs : m < M) (hb : rsB σ s τ) (h : rsY c N s p m τ) (g : ¬ fgP c N (p + 1 + m) 0 9) : rsI σ c N M s p (m + 1) 0 (up τ 48 (6 * m + s) (-9)) := by
  refine ⟨hb.up48 _ _, Or.inr ⟨rfl, m + 1, by omega, ?_, h.2.1, fun q => g ?_⟩⟩
  · rw [up_n (by omega), show p + (m + 1) = p + 1 + m by omega]; exact h.1
  · rw [show p + (m + 1) = p + 1 + m by omega] at q
    exact ⟨q.1, (part_dig (by omega) (fun q => q.1)).mp q.2⟩

set_option maxHeartbeats 4000000 in
set_option maxRecDepth 20000 in
theorem k_readsSuitor_loop (σ : Mem) (c : Nat → Int32) (F N : Nat) (hFN : F + N ≤ 400) (hN : N ≤ 100) (M s p : Nat) (hM : M ≤ 4) (hs6 : s < 6) (hp : p ≤ 100) (hc : ∀ j, σ 61 (F + j) = c j) (h9 : σ 42 9 = nI M) (d : Nat) (hd : 2 ≤ d) : ∀ (n : Nat) (m : Nat) (u : Int32) (τ : Mem) (hm : M < m + n) (hs : m ≤ M) (hI : rsI σ c N M s p m u τ), PAt (EM d (Pi (fun v σ2 => rsI σ c N M s p M v σ2))) mX8_readsSuitor 11 [(5, .int (nI m)), (4, .int u), (0, .ref 42), (1, .int (nI F)), (2, .int (nI N)), (3, .int (nI s))] [] τ := by
  obtain ⟨d, rfl⟩ : ∃ e, d = e + 1 := ⟨d - 1, by omega⟩
  intro n
  induction n with
  | zero => intro m u τ hm hs hI; exact absurd hm (by omega)
  | succ n ih =>
    intro m u τ hm hs hI
    refine tq_iload 0 (dget dX8_readsSuitor 7 rfl) rfl ?_
    refine tq_aload_n 2 (dget dX8_readsSuitor 8 rfl) rfl rfl ?_
    refine tq_getI (dget dX8_readsSuitor 9 rfl) fX8_109 rfl rfl ?_
    refine tq_eqi (y := (nI M)) (hI.1.2.2.2.2.2.trans h9) ?_
    refine tq_icmp_ge (tgt := 74) (dget dX8_readsSuitor 10 rfl) (by decide) (fun c_17 => ?_) (fun c_17 => ?_)
    · have g_17 := kle (by omega) (by omega) c_17
      have g_18 : m = M := by omega
      refine tq_iload 1 (dget dX8_readsSuitor 42 rfl) rfl ?_
      exact tq_zret rfl (by rcases hI.2 with q | q <;> rw [q.1] <;> rfl) (dget dX8_readsSuitor 43 rfl) ⟨_, rfl, by subst g_18; exact hI⟩
    · have g_17 := knle (by omega) (by omega) c_17
      refine tq_iload 1 (dget dX8_readsSuitor 11 rfl) rfl ?_
      refine tq_if_eq (tgt := 74) (dget dX8_readsSuitor 12 rfl) (by decide) (fun c_22 => ?_) (fun c_22 => ?_)
      · refine tq_iload 1 (dget dX8_readsSuitor 42 rfl) rfl ?_
        exact tq_zret rfl (by rcases hI.2 with q | q <;> rw [q.1] <;> rfl) (dget dX8_readsSuitor 43 rfl) ⟨_, rfl, hI.1, hI.2.elim (fun q => absurd (q.1.symm.trans c_22) (by decide)) Or.inr⟩
      · obtain ⟨hT, hY⟩ : rsB σ s τ ∧ rsY c N s p m τ := by
          obtain ⟨q0, q | q⟩ := hI
          · exact ⟨q0, q.2⟩
          · exact absurd q.1 c_22
        refine tq_aload_n 2 (dget dX8_readsSuitor 13 rfl) rfl rfl ?_
        refine tq_getR (dget dX8_readsSuitor 14 rfl) fX8_25 rfl rfl ?_
        refine tq_bipush (v := 6) (dget dX8_readsSuitor 15 rfl) rfl ?_
        refine tq_iload 0 (dget dX8_readsSuitor 16 rfl) rfl ?_
        refine tq_imul (dget dX8_readsSuitor 17 rfl) ?_
        refine tq_eqi (y := (nI (6 * m))) (nI_mulN (6) (m)) ?_
        refine tq_iload_n 5 (dget dX8_readsSuitor 18 rfl) rfl rfl ?_
        refine tq_iadd (dget dX8_readsSuitor 19 rfl) ?_
        refine tq_eqi (y := (nI ((6 * m) + s))) (nI_add ((6 * m)) (s)) ?_
        refine tq_aload_n 2 (dget dX8_readsSuitor 20 rfl) rfl rfl ?_
        refine tq_iload_n 3 (dget dX8_readsSuitor 21 rfl) rfl rfl ?_
        refine tq_iload_n 4 (dget dX8_readsSuitor 22 rfl) rfl rfl ?_
        refine tq_iconst (v := 0) (dget dX8_readsSuitor 23 rfl) rfl ?_
        refine tq_bipush (v := 9) (dget dX8_readsSuitor 24 rfl) rfl ?_
        refine mq_Vi (As := [.int (nI F), .int (nI N), .int 0, .int 9]) (rest := [.int (nI ((6 * m) + s)), .ref 48]) (dget dX8_readsSuitor 25 rfl) lX8_105 miX8_figure (k_figure τ c F N hFN hN (p + 1 + m) (by omega) (hT.1.c61 hc) hY.1 0 9 (by omega) (by omega) d (by omega)) rfl rfl rfl rfl (Nat.le_of_ble_eq_true rfl) (Nat.le_of_ble_eq_true rfl) (fun r_42 σ_42 h_42 => ?_)
        obtain ⟨a_42, e_42⟩ := h_42
        obtain rfl := a_42.symm
        obtain rfl := e_42.symm
        by_cases hP : fgP c N (p + 1 + m) 0 9
        · rw [cnd_t hP]
          refine tq_mem (cnd_t hP _ _) ?_
          refine tq_iastN ((6 * m) + s) (dget dX8_readsSuitor 26 rfl) rfl (by decide) rfl (by omega) ?_
          refine tq_aload_n 2 (dget dX8_readsSuitor 27 rfl) rfl rfl ?_
          refine tq_getR (dget dX8_readsSuitor 28 rfl) fX8_25 rfl rfl ?_
          refine tq_bipush (v := 6) (dget dX8_readsSuitor 29 rfl) rfl ?_
          refine tq_iload 0 (dget dX8_readsSuitor 30 rfl) rfl ?_
          refine tq_imul (dget dX8_readsSuitor 31 rfl) ?_
          refine tq_eqi (y := (nI (6 * m))) (nI_mulN (6) (m)) ?_
          refine tq_iload_n 5 (dget dX8_readsSuitor 32 rfl) rfl rfl ?_
          refine tq_iadd (dget dX8_readsSuitor 33 rfl) ?_
          refine tq_eqi (y := (nI ((6 * m) + s))) (nI_add ((6 * m)) (s)) ?_
          refine tq_ialdN ((6 * m) + s) (dget dX8_readsSuitor 34 rfl) rfl (by decide) rfl (by omega) ?_
          refine tq_eqi (y := (c (p + 1 + m) - 48)) up_s ?_
          refine tq_if_lt (tgt := 65) (dget dX8_readsSuitor 35 rfl) (by decide) (fun c_58 => ?_) (fun c_58 => ?_)
          · exact absurd c_58 (fg_pos (by omega) (by omega) hP)
          · refine tq_iconst (v := 1) (dget dX8_readsSuitor 36 rfl) rfl ?_
            refine tq_goto (tgt := 66) (dget dX8_readsSuitor 37 rfl) (by decide) ?_
            refine tq_istore (ls2 := [(4, .int 1), (5, .int (nI m)), (0, .ref 42), (1, .int (nI F)), (2, .int (nI N)), (3, .int (nI s))]) (dget dX8_readsSuitor 39 rfl) (by decide) rfl ?_
            refine tq_iinc (v := (nI (m + 1))) (ls2 := [(5, .int (nI (m + 1))), (4, .int 1), (0, .ref 42), (1, .int (nI F)), (2, .int (nI N)), (3, .int (nI s))]) 1 (dget dX8_readsSuitor 40 rfl) rfl (nI_1 m) (by decide) rfl ?_
            refine tq_goto (tgt := 11) (dget dX8_readsSuitor 41 rfl) (by decide) ?_
            refine tq_sub [0, 1, 2, 3, 4, 5] (ls' := [(5, .int (nI (m + 1))), (4, .int 1), (0, .ref 42), (1, .int (nI F)), (2, .int (nI N)), (3, .int (nI s))]) rfl ?_
            exact ih (m + 1) 1 _ (by omega) (by omega) (rsI_y hT hY hP)
        · rw [cnd_f hP]
          refine tq_mem (cnd_f hP _ _) ?_
          refine tq_iastN ((6 * m) + s) (dget dX8_readsSuitor 26 rfl) rfl (by decide) rfl (by omega) ?_
          refine tq_aload_n 2 (dget dX8_readsSuitor 27 rfl) rfl rfl ?_
          refine tq_getR (dget dX8_readsSuitor 28 rfl) fX8_25 rfl rfl ?_
          refine tq_bipush (v := 6) (dget dX8_readsSuitor 29 rfl) rfl ?_
          refine tq_iload 0 (dget dX8_readsSuitor 30 rfl) rfl ?_
          refine tq_imul (dget dX8_readsSuitor 31 rfl) ?_
          refine tq_eqi (y := (nI (6 * m))) (nI_mulN (6) (m)) ?_
          refine tq_iload_n 5 (dget dX8_readsSuitor 32 rfl) rfl rfl ?_
          refine tq_iadd (dget dX8_readsSuitor 33 rfl) ?_
          refine tq_eqi (y := (nI ((6 * m) + s))) (nI_add ((6 * m)) (s)) ?_
          refine tq_ialdN ((6 * m) + s) (dget dX8_readsSuitor 34 rfl) rfl (by decide) rfl (by omega) ?_
          refine tq_eqi (y := (-9)) up_s ?_
          refine tq_if_lt (tgt := 65) (dget dX8_readsSuitor 35 rfl) (by decide) (fun c_58 => ?_) (fun c_58 => ?_)
          · refine tq_iconst (v := 0) (dget dX8_readsSuitor 38 rfl) rfl ?_
            refine tq_istore (ls2 := [(4, .int 0), (5, .int (nI m)), (0, .ref 42), (1, .int (nI F)), (2, .int (nI N)), (3, .int (nI s))]) (dget dX8_readsSuitor 39 rfl) (by decide) rfl ?_
            refine tq_iinc (v := (nI (m + 1))) (ls2 := [(5, .int (nI (m + 1))), (4, .int 0), (0, .ref 42), (1, .int (nI F)), (2, .int (nI N)), (3, .int (nI s))]) 1 (dget dX8_readsSuitor 40 rfl) rfl (nI_1 m) (by decide) rfl ?_
            refine tq_goto (tgt := 11) (dget dX8_readsSuitor 41 rfl) (by decide) ?_
            refine tq_sub [0, 1, 2, 3, 4, 5] (ls' := [(5, .int (nI (m + 1))), (4, .int 0), (0, .ref 42), (1, .int (nI F)), (2, .int (nI N)), (3, .int (nI s))]) rfl ?_
            exact ih (m + 1) 0 _ (by omega) (by omega) (rsI_n g_17 hT hY hP)
          · exact absurd c_58 (by decide)
theorem BP.y1 {P : Prop} {v : Int32} (b : BP P v) (h : P) : v = 1 := by
  rcases b with q | q
  · exact q.1
  · exact absurd h q.2
theorem BP.n0 {P : Prop} {v : Int32} (b : BP P v) (h : ¬ P) : v = 0 := by
  rcases b with q | q
  · exact absurd q.2 h
  · exact q.1
set_option maxHeartbeats 4000000 in
set_option maxRecDepth 20000 in
theorem k_readsSuitor (σ : Mem) (c : Nat → Int32) (F N : Nat) (hFN : F + N ≤ 400) (hN : N ≤ 100) (M s p : Nat) (hM : M ≤ 4) (hs6 : s < 6) (hp : p ≤ 100) (hc : ∀ j, σ 61 (F + j) = c j) (h7 : σ 42 7 = nI (p)) (h9 : σ 42 9 = nI M) (d : Nat) (hd : 2 ≤ d) : PMet d mX8_readsSuitor [.ref 42, .int (nI F), .int (nI N), .int (nI s)] σ (Pi (fun v σ2 => rsI σ c N M s p M v σ2)) := by
  obtain ⟨d, rfl⟩ : ∃ e, d = e + 1 := ⟨d - 1, by omega⟩
  refine PMet.start (ls0 := [(0, .ref 42), (1, .int (nI F)), (2, .int (nI N)), (3, .int (nI s))]) miX8_readsSuitor.1 (Nat.le_of_ble_eq_true rfl) rfl ?_
  refine tq_aload_n 0 (dget dX8_readsSuitor 0 rfl) rfl rfl ?_
  refine tq_iload_n 1 (dget dX8_readsSuitor 1 rfl) rfl rfl ?_
  refine tq_iload_n 2 (dget dX8_readsSuitor 2 rfl) rfl rfl ?_
  refine mq_Vi (As := [.int (nI F), .int (nI N)]) (rest := []) (dget dX8_readsSuitor 3 rfl) lX8_98 miX8_readsMark (k_readsMark σ c F N hFN hN (p) (by omega) hc h7 d (by omega)) rfl rfl rfl rfl (Nat.le_of_ble_eq_true rfl) (Nat.le_of_ble_eq_true rfl) (fun r_3 σ_3 h_3 => ?_)
  obtain ⟨b_3, e_3⟩ := h_3
  obtain rfl := e_3.symm
  refine tq_istore (ls2 := [(4, .int r_3), (0, .ref 42), (1, .int (nI F)), (2, .int (nI N)), (3, .int (nI s))]) (dget dX8_readsSuitor 4 rfl) (by decide) rfl ?_
  refine tq_iconst (v := 0) (dget dX8_readsSuitor 5 rfl) rfl ?_
  refine tq_istore (ls2 := [(5, .int 0), (4, .int r_3), (0, .ref 42), (1, .int (nI F)), (2, .int (nI N)), (3, .int (nI s))]) (dget dX8_readsSuitor 6 rfl) (by decide) rfl ?_
  have hb9 : BP (p < N ∧ c p = 59) r_3 := b_3
  refine tq_mem (σ' := cnd (p < N ∧ c p = 59) (up σ 42 7 (nI (p + 1))) σ) rfl ?_
  refine tq_sub [0, 1, 2, 3, 4, 5] (ls' := [(5, .int (nI 0)), (4, .int r_3), (0, .ref 42), (1, .int (nI F)), (2, .int (nI N)), (3, .int (nI s))]) rfl ?_
  refine k_readsSuitor_loop σ c F N hFN hN M s p hM hs6 hp hc h9 (d + 1) (by omega) (M + 1) 0 _ _ (by omega) (by omega) ?_
  by_cases hP : p < N ∧ c p = 59
  · rw [cnd_t hP]
    exact ⟨rsB_rf.up7 _, Or.inl ⟨b_3.y1 hP, up_s, fun j hj => (by rcases (show j = 0 by omega) with rfl; exact ⟨hP.1, part_0.mpr hP.2⟩), fun x hx => absurd hx (by omega)⟩⟩
  · rw [cnd_f hP]
    exact ⟨rsB_rf, Or.inr ⟨b_3.n0 hP, 0, by omega, h7, fun j hj => absurd hj (by omega), fun q => hP ⟨q.1, part_0.mp q.2⟩⟩⟩
/-- a text not taken: its place is the first that doesn't go on -/
def rvF (σ : Mem) (c : Nat → Int32) (N : Nat) (τ : Mem) : Prop := RW σ τ ∧ ∃ p, fstP c N p ∧ p ≤ 65 ∧ ¬ tkn c N p ∧ τ 42 7 = nI p
def rvM (c : Nat → Int32) (S m : Nat) (τ : Mem) : Prop := ∀ x, x < m → τ 46 x = kdF (c (4 + x * (S + 2))) ∧ ∀ s, s < S → τ 47 (6 * x + s) = c (5 + x * (S + 2) + s) - 48
def rvC (σ : Mem) (c : Nat → Int32) (N S M p : Nat) (τ : Mem) : Prop := RW σ τ ∧ dS c = S ∧ dM c = M ∧ τ 42 7 = nI p ∧ τ 42 8 = nI S ∧ τ 42 9 = nI M ∧ ∀ q, q < p → q < N ∧ fitC c q
def rvI (σ : Mem) (c : Nat → Int32) (N S M m : Nat) (τ : Mem) : Prop := rvC σ c N S M (3 + m * (S + 2)) τ ∧ rvM c S m τ
def rvS (c : Nat → Int32) (S M s : Nat) (τ : Mem) : Prop := ∀ x, x < M → ∀ y, y < s → τ 48 (6 * x + y) = c (4 + M * (S + 2) + y * (M + 1) + x) - 48
def rvJ (σ : Mem) (c : Nat → Int32) (N S M s : Nat) (τ : Mem) : Prop := rvC σ c N S M (3 + M * (S + 2) + s * (M + 1)) τ ∧ rvM c S M τ ∧ rvS c S M s τ
def rvQ (σ : Mem) (c : Nat → Int32) (N : Nat) (v : Int32) (τ : Mem) : Prop := ∃ p, fstP c N p ∧ p ≤ 65 ∧ RW σ τ ∧ τ 42 7 = nI p ∧ BP (tkn c N p) v ∧ (tkn c N p → τ 42 8 = nI (dS c) ∧ τ 42 9 = nI (dM c) ∧ dS c ≤ 6 ∧ dM c ≤ 4 ∧ rvM c (dS c) (dM c) τ ∧ rvS c (dS c) (dM c) (dS c) τ)
theorem rv_head {σ τ : Mem} {c : Nat → Int32} {N p : Nat} (hT : RW σ τ) (h7 : τ 42 7 = nI p) (hp : p < 3) (hI : ∀ j, j < p → j < N ∧ hdP j (c j)) (h : ¬ (p < N ∧ hdP p (c p))) : rvF σ c N τ := by
  refine ⟨hT, p, ⟨fun q hq => ⟨(hI q hq).1, Or.inl ⟨by omega, (hI q hq).2⟩⟩, fun q => ?_⟩, by omega, fun q => by have := q.1; omega, h7⟩
  rcases q.2 with z | z
  · exact h ⟨q.1, z.2⟩
  · omega
theorem rv_fail {σ τ : Mem} {c : Nat → Int32} {N S M p k e : Nat} {B : Prop} (hS : S ≤ 6) (hM : M ≤ 4) (hT : RW σ τ) (eS : dS c = S) (eM : dM c = M) (hp : 3 ≤ p) (hk : p + k ≤ endT S M) (h0 : ∀ q, q < p → q < N ∧ fitC c q) (hB : ∀ j, j < k → (fitB S M (p + j) (c (p + j)) ↔ partP B j (c (p + j)))) (he : e < k) (h7 : τ 42 7 = nI (p + e)) (h1 : ∀ j, j < e → p + j < N ∧ partP B j (c (p + j))) (h2 : ¬ (p + e < N ∧ partP B e (c (p + e)))) : rvF σ c N τ := by
  have h65 := endT_le hS hM
  refine ⟨hT, p + e, ⟨fun q hq => ?_, fun q => h2 ⟨q.1, ?_⟩⟩, by omega, fun q => ?_, h7⟩
  · by_cases z : q < p
    · exact h0 q z
    · obtain ⟨j, rfl⟩ : ∃ j, q = p + j := ⟨q - p, by omega⟩
      have h3 := h1 j (by omega)
      exact ⟨h3.1, Or.inr ⟨by omega, by rw [eS, eM]; omega, by rw [eS, eM]; exact (hB j (by omega)).mpr h3.2⟩⟩
  · rcases q.2 with z | z
    · omega
    · rw [eS, eM] at z
      exact (hB e he).mp z.2.2
  · have h3 := q.2.1
    have h4 := q.2.2
    rw [eS, eM] at h4
    omega
theorem rv_ok {c : Nat → Int32} {N S M p k : Nat} {B : Prop} (eS : dS c = S) (eM : dM c = M) (hp : 3 ≤ p) (hk : p + k ≤ endT S M) (h0 : ∀ q, q < p → q < N ∧ fitC c q) (hB : ∀ j, j < k → (fitB S M (p + j) (c (p + j)) ↔ partP B j (c (p + j)))) (h1 : ∀ j, j < k → p + j < N ∧ partP B j (c (p + j))) (q : Nat) (hq : q < p + k) : q < N ∧ fitC c q := by
  by_cases z : q < p
  · exact h0 q z
  · obtain ⟨j, rfl⟩ : ∃ j, q = p + j := ⟨q - p, by omega⟩
    have h3 := h1 j (by omega)
    exact ⟨h3.1, Or.inr ⟨by omega, by rw [eS, eM]; omega, by rw [eS, eM]; exact (hB j (by omega)).mpr h3.2⟩⟩
theorem rv_maid {σ τ ω : Mem} {c : Nat → Int32} {N S M m : Nat} {u : Int32} (hS : S ≤ 6) (hM : M ≤ 4) (hm : m < M) (h : rvI σ c N S M m τ) (g : rmI τ c N S m (3 + m * (S + 2)) S u ω) : (u = 1 ∧ rvI σ c N S M (m + 1) ω) ∨ (u = 0 ∧ rvF σ c N ω) := by
  obtain ⟨⟨hT, eS, eM, h7, h8, h9, h0⟩, hV⟩ := h
  obtain ⟨⟨b1, b2, b3, b4, b5⟩, g⟩ := g
  have hk : 3 + m * (S + 2) + (S + 2) ≤ endT S M := by
    have h3 : (m + 1) * (S + 2) ≤ M * (S + 2) := Nat.mul_le_mul_right _ hm
    rw [Nat.succ_mul] at h3
    unfold endT
    omega
  have hB : ∀ j, j < S + 2 → (fitB S M (3 + m * (S + 2) + j) (c (3 + m * (S + 2) + j)) ↔ partP True j (c (3 + m * (S + 2) + j))) := fun j hj => tpos_fit1 (Or.inl ⟨hm, rfl, hj⟩) hm
  rcases g with ⟨hu, g7, g1, g2, g3⟩ | ⟨hu, e, he, g7, g1, g2⟩
  · refine Or.inl ⟨hu, ⟨hT.tr b1, eS, eM, ?_, b4.trans h8, b5.trans h9, fun q hq => ?_⟩, fun x hx => ?_⟩
    · rw [g7, Nat.succ_mul]; congr 1; omega
    · rw [Nat.succ_mul] at hq
      exact rv_ok eS eM (by omega) hk h0 hB g1 q (by omega)
    · by_cases e : x = m
      · subst e
        refine ⟨?_, fun s hs => ?_⟩
        · rw [g2]; congr 2; omega
        · rw [g3 s hs]; congr 2; omega
      · obtain ⟨v1, v2⟩ := hV x (by omega)
        exact ⟨(b2 x e).trans v1, fun s hs => (b3 _ (by omega)).trans (v2 s hs)⟩
  · exact Or.inr ⟨hu, rv_fail hS hM (hT.tr b1) eS eM (by omega) hk h0 hB he g7 g1 g2⟩
theorem rv_suitor {σ τ ω : Mem} {c : Nat → Int32} {N S M s : Nat} {u : Int32} (hS : S ≤ 6) (hM : M ≤ 4) (hs : s < S) (h : rvJ σ c N S M s τ) (g : rsI τ c N M s (3 + M * (S + 2) + s * (M + 1)) M u ω) : (u = 1 ∧ rvJ σ c N S M (s + 1) ω) ∨ (u = 0 ∧ rvF σ c N ω) := by
  obtain ⟨⟨hT, eS, eM, h7, h8, h9, h0⟩, hV, hW⟩ := h
  obtain ⟨⟨b1, b2, b3, b4, b5, b6⟩, g⟩ := g
  have hk : 3 + M * (S + 2) + s * (M + 1) + (M + 1) ≤ endT S M := by
    have h3 : (s + 1) * (M + 1) ≤ S * (M + 1) := Nat.mul_le_mul_right _ hs
    rw [Nat.succ_mul] at h3
    unfold endT
    omega
  have hB : ∀ j, j < M + 1 → (fitB S M (3 + M * (S + 2) + s * (M + 1) + j) (c (3 + M * (S + 2) + s * (M + 1) + j)) ↔ partP False j (c (3 + M * (S + 2) + s * (M + 1) + j))) := fun j hj => tpos_fit2 (part := M + s) (Or.inr ⟨by omega, by rw [Nat.add_sub_cancel_left], hj⟩) (by omega)
  rcases g with ⟨hu, g7, g1, g3⟩ | ⟨hu, e, he, g7, g1, g2⟩
  · refine Or.inl ⟨hu, ⟨hT.tr b1, eS, eM, ?_, b5.trans h8, b6.trans h9, fun q hq => ?_⟩, fun x hx => ?_, fun x hx y hy => ?_⟩
    · rw [g7, Nat.succ_mul]; congr 1; omega
    · rw [Nat.succ_mul] at hq
      exact rv_ok eS eM (by omega) hk h0 hB g1 q (by omega)
    · obtain ⟨v1, v2⟩ := hV x hx
      exact ⟨(congrFun b2 x).trans v1, fun y hy => (congrFun b3 _).trans (v2 y hy)⟩
    · by_cases e : y = s
      · subst e
        rw [g3 x hx]; congr 2; omega
      · exact (b4 y x (by omega) (by omega)).trans (hW x hx y (by omega))
  · exact Or.inr ⟨hu, rv_fail hS hM (hT.tr b1) eS eM (by omega) hk h0 hB he g7 g1 g2⟩
theorem rvF_Q {σ τ : Mem} {c : Nat → Int32} {N : Nat} (h : rvF σ c N τ) : rvQ σ c N 0 τ := by
  obtain ⟨hT, p, h1, h2, h3, h4⟩ := h
  exact ⟨p, h1, h2, hT, h4, BP.n h3, fun q => absurd q h3⟩
theorem rvJ_Q {σ τ : Mem} {c : Nat → Int32} {N S M : Nat} {v : Int32} (hS : S ≤ 6) (hM : M ≤ 4) (h : rvJ σ c N S M S τ) (b : BP (endT S M = N) v) : rvQ σ c N v τ := by
  obtain ⟨⟨hT, eS, eM, h7, h8, h9, h0⟩, hV, hW⟩ := h
  subst eS
  subst eM
  have h65 := endT_le hS hM
  refine ⟨endT (dS c) (dM c), ⟨h0, fun q => ?_⟩, h65, hT, h7, b.iff ⟨fun q => ⟨by unfold endT; omega, q, q.symm⟩, fun q => q.2.1⟩, fun _ => ⟨h8, h9, hS, hM, hV, hW⟩⟩
  rcases q.2 with z | z
  · have h3 := z.1
    unfold endT at h3
    omega
  · exact absurd z.2.1 (Nat.lt_irrefl _)

set_option maxHeartbeats 4000000 in
set_option maxRecDepth 20000 in
theorem k_rv2 (σ : Mem) (c : Nat → Int32) (F N : Nat) (hFN : F + N ≤ 400) (hN : N ≤ 100) (S M : Nat) (hS : S ≤ 6) (hM : M ≤ 4) (hc : ∀ j, σ 61 (F + j) = c j) (d : Nat) (hd : 3 ≤ d) : ∀ (n : Nat) (s : Nat) (u : Int32) (τ : Mem) (hm : S < s + n) (hs : s ≤ S) (hI : (u = 1 ∧ rvJ σ c N S M s τ) ∨ (u = 0 ∧ rvF σ c N τ)), PAt (EM d (Pi (fun v σ2 => rvQ σ c N v σ2))) mX8_readsValley 133 [(4, .int (nI s)), (3, .int u), (0, .ref 42), (1, .int (nI F)), (2, .int (nI N))] [] τ := by
  obtain ⟨d, rfl⟩ : ∃ e, d = e + 1 := ⟨d - 1, by omega⟩
  intro n
  induction n with
  | zero => intro s u τ hm hs hI; exact absurd hm (by omega)
  | succ n ih =>
    intro s u τ hm hs hI
    have he := endT_le hS hM
    have he3 : 3 + M * (S + 2) + S * (M + 1) ≤ 65 := he
    have hsM : s * (M + 1) ≤ S * (M + 1) := Nat.mul_le_mul_right _ hs
    refine tq_iload_n 1 (dget dX8_readsValley 73 rfl) rfl rfl ?_
    refine tq_if_eq (tgt := 161) (dget dX8_readsValley 74 rfl) (by decide) (fun c_134 => ?_) (fun c_134 => ?_)
    · refine tq_iload_n 1 (dget dX8_readsValley 87 rfl) rfl rfl ?_
      refine tq_if_eq (tgt := 177) (dget dX8_readsValley 88 rfl) (by decide) (fun c_162 => ?_) (fun c_162 => ?_)
      · refine tq_iconst (v := 0) (dget dX8_readsValley 95 rfl) rfl ?_
        exact tq_zret rfl rfl (dget dX8_readsValley 96 rfl) ⟨_, rfl, rvF_Q (hI.elim (fun q => absurd (q.1.symm.trans c_134) (by decide)) (fun q => q.2))⟩
      · exact absurd c_134 c_162
    · obtain ⟨hu, hY⟩ : u = 1 ∧ rvJ σ c N S M s τ := by
        rcases hI with q | q
        · exact q
        · exact absurd q.1 c_134
      refine tq_iload 0 (dget dX8_readsValley 75 rfl) rfl ?_
      refine tq_aload_n 2 (dget dX8_readsValley 76 rfl) rfl rfl ?_
      refine tq_getI (dget dX8_readsValley 77 rfl) fX8_102 rfl rfl ?_
      refine tq_eqi (y := (nI S)) hY.1.2.2.2.2.1 ?_
      refine tq_icmp_ge (tgt := 161) (dget dX8_readsValley 78 rfl) (by decide) (fun c_143 => ?_) (fun c_143 => ?_)
      · have g_143 := kle (by omega) (by omega) c_143
        have g_144 : s = S := by omega
        refine tq_iload_n 1 (dget dX8_readsValley 87 rfl) rfl rfl ?_
        refine tq_if_eq (tgt := 177) (dget dX8_readsValley 88 rfl) (by decide) (fun c_162 => ?_) (fun c_162 => ?_)
        · exact absurd c_162 c_134
        · refine tq_aload_n 2 (dget dX8_readsValley 89 rfl) rfl rfl ?_
          refine tq_getI (dget dX8_readsValley 90 rfl) fX8_91 rfl rfl ?_
          refine tq_eqi (y := (nI (3 + M * (S + 2) + s * (M + 1)))) hY.1.2.2.2.1 ?_
          refine tq_iload_n 4 (dget dX8_readsValley 91 rfl) rfl rfl ?_
          refine tq_icmp_ne (tgt := 177) (dget dX8_readsValley 92 rfl) (by decide) (fun c_170 => ?_) (fun c_170 => ?_)
          · have g_170 : ¬ endT S M = N := by
              have q := n_ne c_170
              rw [g_144] at q
              exact q
            refine tq_iconst (v := 0) (dget dX8_readsValley 95 rfl) rfl ?_
            exact tq_zret rfl rfl (dget dX8_readsValley 96 rfl) ⟨_, rfl, rvJ_Q hS hM (g_144 ▸ hY) (BP.n g_170)⟩
          · have g_170 : endT S M = N := by
              have q := n_eq (by omega) (by omega) c_170
              rw [g_144] at q
              exact q
            refine tq_iconst (v := 1) (dget dX8_readsValley 93 rfl) rfl ?_
            refine tq_goto (tgt := 178) (dget dX8_readsValley 94 rfl) (by decide) ?_
            exact tq_zret rfl rfl (dget dX8_readsValley 96 rfl) ⟨_, rfl, rvJ_Q hS hM (g_144 ▸ hY) (BP.y g_170)⟩
      · have g_143 := knle (by omega) (by omega) c_143
        refine tq_aload_n 2 (dget dX8_readsValley 79 rfl) rfl rfl ?_
        refine tq_iload_n 3 (dget dX8_readsValley 80 rfl) rfl rfl ?_
        refine tq_iload_n 4 (dget dX8_readsValley 81 rfl) rfl rfl ?_
        refine tq_iload 0 (dget dX8_readsValley 82 rfl) rfl ?_
        refine mq_Vi (As := [.int (nI F), .int (nI N), .int (nI s)]) (rest := []) (dget dX8_readsValley 83 rfl) lX8_116 miX8_readsSuitor (k_readsSuitor τ c F N hFN hN M s (3 + M * (S + 2) + s * (M + 1)) hM (by omega) (by omega) (hY.1.1.c61 hc) hY.1.2.2.2.1 hY.1.2.2.2.2.2.1 d (by omega)) rfl rfl rfl rfl (Nat.le_of_ble_eq_true rfl) (Nat.le_of_ble_eq_true rfl) (fun r_151 σ_151 h_151 => ?_)
        refine tq_istore_n (ls2 := [(3, .int r_151), (4, .int (nI s)), (0, .ref 42), (1, .int (nI F)), (2, .int (nI N))]) (dget dX8_readsValley 84 rfl) rfl (by decide) rfl ?_
        refine tq_iinc (v := (nI (s + 1))) (ls2 := [(4, .int (nI (s + 1))), (3, .int r_151), (0, .ref 42), (1, .int (nI F)), (2, .int (nI N))]) 1 (dget dX8_readsValley 85 rfl) rfl (nI_1 s) (by decide) rfl ?_
        refine tq_goto (tgt := 133) (dget dX8_readsValley 86 rfl) (by decide) ?_
        refine tq_sub [0, 1, 2, 3, 4] (ls' := [(4, .int (nI (s + 1))), (3, .int r_151), (0, .ref 42), (1, .int (nI F)), (2, .int (nI N))]) rfl ?_
        exact ih (s + 1) _ _ (by omega) (by omega) (rv_suitor hS hM g_143 hY h_151)
set_option maxHeartbeats 4000000 in
set_option maxRecDepth 20000 in
theorem k_rv1 (σ : Mem) (c : Nat → Int32) (F N : Nat) (hFN : F + N ≤ 400) (hN : N ≤ 100) (S M : Nat) (hS : S ≤ 6) (hM : M ≤ 4) (hc : ∀ j, σ 61 (F + j) = c j) (d : Nat) (hd : 3 ≤ d) : ∀ (n : Nat) (m : Nat) (u : Int32) (τ : Mem) (hm : M < m + n) (hs : m ≤ M) (hI : (u = 1 ∧ rvI σ c N S M m τ) ∨ (u = 0 ∧ rvF σ c N τ)), PAt (EM d (Pi (fun v σ2 => rvQ σ c N v σ2))) mX8_readsValley 102 [(4, .int (nI m)), (3, .int u), (0, .ref 42), (1, .int (nI F)), (2, .int (nI N))] [] τ := by
  obtain ⟨d, rfl⟩ : ∃ e, d = e + 1 := ⟨d - 1, by omega⟩
  intro n
  induction n with
  | zero => intro m u τ hm hs hI; exact absurd hm (by omega)
  | succ n ih =>
    intro m u τ hm hs hI
    have he := endT_le hS hM
    have he3 : 3 + M * (S + 2) + S * (M + 1) ≤ 65 := he
    have hsM : m * (S + 2) ≤ M * (S + 2) := Nat.mul_le_mul_right _ hs
    refine tq_iload_n 1 (dget dX8_readsValley 57 rfl) rfl rfl ?_
    refine tq_if_eq (tgt := 130) (dget dX8_readsValley 58 rfl) (by decide) (fun c_103 => ?_) (fun c_103 => ?_)
    · refine tq_iconst (v := 0) (dget dX8_readsValley 71 rfl) rfl ?_
      refine tq_istore (ls2 := [(4, .int 0), (3, .int u), (0, .ref 42), (1, .int (nI F)), (2, .int (nI N))]) (dget dX8_readsValley 72 rfl) (by decide) rfl ?_
      refine tq_sub [0, 1, 2, 3, 4] (ls' := [(4, .int (nI 0)), (3, .int u), (0, .ref 42), (1, .int (nI F)), (2, .int (nI N))]) rfl ?_
      exact k_rv2 σ c F N hFN hN S M hS hM hc (d + 1) (by omega) (S + 1) 0 _ _ (by omega) (by omega) (hI.elim (fun q => absurd (q.1.symm.trans c_103) (by decide)) Or.inr)
    · obtain ⟨hu, hY⟩ : u = 1 ∧ rvI σ c N S M m τ := by
        rcases hI with q | q
        · exact q
        · exact absurd q.1 c_103
      refine tq_iload 0 (dget dX8_readsValley 59 rfl) rfl ?_
      refine tq_aload_n 2 (dget dX8_readsValley 60 rfl) rfl rfl ?_
      refine tq_getI (dget dX8_readsValley 61 rfl) fX8_109 rfl rfl ?_
      refine tq_eqi (y := (nI M)) hY.1.2.2.2.2.2.1 ?_
      refine tq_icmp_ge (tgt := 130) (dget dX8_readsValley 62 rfl) (by decide) (fun c_112 => ?_) (fun c_112 => ?_)
      · have g_112 := kle (by omega) (by omega) c_112
        have g_113 : m = M := by omega
        refine tq_iconst (v := 0) (dget dX8_readsValley 71 rfl) rfl ?_
        refine tq_istore (ls2 := [(4, .int 0), (3, .int u), (0, .ref 42), (1, .int (nI F)), (2, .int (nI N))]) (dget dX8_readsValley 72 rfl) (by decide) rfl ?_
        refine tq_sub [0, 1, 2, 3, 4] (ls' := [(4, .int (nI 0)), (3, .int u), (0, .ref 42), (1, .int (nI F)), (2, .int (nI N))]) rfl ?_
        rw [g_113] at hY
        exact k_rv2 σ c F N hFN hN S M hS hM hc (d + 1) (by omega) (S + 1) 0 _ _ (by omega) (by omega) (Or.inl ⟨hu, ⟨hY.1.1, hY.1.2.1, hY.1.2.2.1, by rw [Nat.zero_mul]; exact hY.1.2.2.2.1, hY.1.2.2.2.2.1, hY.1.2.2.2.2.2.1, by rw [Nat.zero_mul]; exact hY.1.2.2.2.2.2.2⟩, hY.2, fun x hx y hy => absurd hy (by omega)⟩)
      · have g_112 := knle (by omega) (by omega) c_112
        refine tq_aload_n 2 (dget dX8_readsValley 63 rfl) rfl rfl ?_
        refine tq_iload_n 3 (dget dX8_readsValley 64 rfl) rfl rfl ?_
        refine tq_iload_n 4 (dget dX8_readsValley 65 rfl) rfl rfl ?_
        refine tq_iload 0 (dget dX8_readsValley 66 rfl) rfl ?_
        refine mq_Vi (As := [.int (nI F), .int (nI N), .int (nI m)]) (rest := []) (dget dX8_readsValley 67 rfl) lX8_112 miX8_readsMaid (k_readsMaid τ c F N hFN hN S m (3 + m * (S + 2)) hS (by omega) (by omega) (hY.1.1.c61 hc) hY.1.2.2.2.1 hY.1.2.2.2.2.1 d (by omega)) rfl rfl rfl rfl (Nat.le_of_ble_eq_true rfl) (Nat.le_of_ble_eq_true rfl) (fun r_120 σ_120 h_120 => ?_)
        refine tq_istore_n (ls2 := [(3, .int r_120), (4, .int (nI m)), (0, .ref 42), (1, .int (nI F)), (2, .int (nI N))]) (dget dX8_readsValley 68 rfl) rfl (by decide) rfl ?_
        refine tq_iinc (v := (nI (m + 1))) (ls2 := [(4, .int (nI (m + 1))), (3, .int r_120), (0, .ref 42), (1, .int (nI F)), (2, .int (nI N))]) 1 (dget dX8_readsValley 69 rfl) rfl (nI_1 m) (by decide) rfl ?_
        refine tq_goto (tgt := 102) (dget dX8_readsValley 70 rfl) (by decide) ?_
        refine tq_sub [0, 1, 2, 3, 4] (ls' := [(4, .int (nI (m + 1))), (3, .int r_120), (0, .ref 42), (1, .int (nI F)), (2, .int (nI N))]) rfl ?_
        exact ih (m + 1) _ _ (by omega) (by omega) (rv_maid hS hM g_112 hY h_120)

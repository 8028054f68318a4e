/-! ===== the reference (14): the call valley ===== -/
def RX (σ τ : Mem) : Prop := (∀ r, r ≠ 42 → ¬ (43 ≤ r ∧ r ≤ 48) → τ r = σ r) ∧ ∀ j, j ≠ 1 → j ≠ 2 → j ≠ 6 → ¬ (7 ≤ j ∧ j ≤ 9) → j ≠ 13 → j ≠ 20 → τ 42 j = σ 42 j
theorem RX.of {σ τ : Mem} (h : RW σ τ) : RX σ τ := ⟨fun r a b => h.1 r a (by omega) (by omega) (by omega), fun j _ _ _ a _ _ => h.2 j (by omega) (by omega) (by omega)⟩
theorem RX.up42 {σ τ : Mem} (h : RX σ τ) (j : Nat) (v : Int32) (hj : j = 1 ∨ j = 2 ∨ j = 6 ∨ j = 13 ∨ j = 20) : RX σ (up τ 42 j v) := ⟨fun r a b => (up_row a).trans (h.1 r a b), fun k a b c d e f => (up_n (by omega)).trans (h.2 k a b c d e f)⟩
theorem RX.upA {σ τ : Mem} (h : RX σ τ) (i j : Nat) (v : Int32) (hi : 43 ≤ i ∧ i ≤ 48) : RX σ (up τ i j v) := ⟨fun r a b => (up_row (by omega)).trans (h.1 r a b), fun k a b c d e f => (up_n (by omega)).trans (h.2 k a b c d e f)⟩
def vcR (c : Nat → Int32) (S M x s : Nat) (τ : Mem) : Prop := τ 43 x = kdF (c (4 + x * (S + 2))) ∧ ∀ y, y < s → τ 44 (6 * x + y) = c (5 + x * (S + 2) + y) - 48 ∧ τ 45 (6 * x + y) = c (4 + M * (S + 2) + y * (M + 1) + x) - 48
def vcP (c : Nat → Int32) (S M m : Nat) (τ : Mem) : Prop := ∀ x, x < m → vcR c S M x S τ
def vcB (σ : Mem) (c : Nat → Int32) (S M : Nat) (τ : Mem) : Prop := RX σ τ ∧ τ 42 1 = nI S ∧ τ 42 2 = nI M ∧ rvM c S M τ ∧ rvS c S M S τ
theorem vcB.upA {σ τ : Mem} {c : Nat → Int32} {S M : Nat} (h : vcB σ c S M τ) (i j : Nat) (v : Int32) (hi : i = 43 ∨ i = 44 ∨ i = 45) : vcB σ c S M (up τ i j v) := by
  obtain ⟨h1, h2, h3, h4, h5⟩ := h
  refine ⟨h1.upA i j v (by omega), (up_n (by omega)).trans h2, (up_n (by omega)).trans h3, fun x hx => ?_, fun x hx y hy => (up_n (by omega)).trans (h5 x hx y hy)⟩
  obtain ⟨g1, g2⟩ := h4 x hx
  exact ⟨(up_n (by omega)).trans g1, fun y hy => (up_n (by omega)).trans (g2 y hy)⟩
theorem vcP_0 {c : Nat → Int32} {S M m : Nat} {τ : Mem} {v : Int32} (h : vcP c S M m τ) (e : v = kdF (c (4 + m * (S + 2)))) : vcP c S M m (up τ 43 m v) ∧ vcR c S M m 0 (up τ 43 m v) := by
  refine ⟨fun x hx => ?_, up_s.trans e, fun y hy => absurd hy (by omega)⟩
  obtain ⟨g1, g2⟩ := h x hx
  exact ⟨(up_n (by omega)).trans g1, fun y hy => ⟨(up_n (by omega)).trans (g2 y hy).1, (up_n (by omega)).trans (g2 y hy).2⟩⟩
theorem vcP_s {c : Nat → Int32} {S M m s : Nat} {τ : Mem} {v w : Int32} (hS : S ≤ 6) (hs : s < S) (h : vcP c S M m τ ∧ vcR c S M m s τ) (e : v = c (5 + m * (S + 2) + s) - 48) (e2 : w = c (4 + M * (S + 2) + s * (M + 1) + m) - 48) : vcP c S M m (up (up τ 44 (6 * m + s) v) 45 (6 * m + s) w) ∧ vcR c S M m (s + 1) (up (up τ 44 (6 * m + s) v) 45 (6 * m + s) w) := by
  obtain ⟨h1, h2, h3⟩ := h
  refine ⟨fun x hx => ?_, ?_, fun y hy => ?_⟩
  · obtain ⟨g1, g2⟩ := h1 x hx
    refine ⟨by rw [up_n (by omega), up_n (by omega)]; exact g1, fun y hy => ?_⟩
    rw [up_n (by omega), up_n (by omega), up_n (by omega), up_n (by omega)]
    exact g2 y hy
  · rw [up_n (by omega), up_n (by omega)]; exact h2
  · by_cases q : y = s
    · subst q
      exact ⟨by rw [up_n (by omega), up_s]; exact e, up_s.trans e2⟩
    · rw [up_n (by omega), up_n (by omega), up_n (by omega), up_n (by omega)]
      exact h3 y (by omega)
theorem vcP_e {c : Nat → Int32} {S M m : Nat} {τ : Mem} (h : vcP c S M m τ ∧ vcR c S M m S τ) : vcP c S M (m + 1) τ := fun x hx => by
  by_cases q : x = m
  · subst q; exact h.2
  · exact h.1 x (by omega)
def vcE (σ : Mem) (c : Nat → Int32) (S M : Nat) (τ : Mem) : Prop := S ≤ 6 ∧ M ≤ 4 ∧ RX σ τ ∧ τ 42 1 = nI S ∧ τ 42 2 = nI M ∧ τ 42 6 = 3 ∧ τ 42 13 = 0 ∧ τ 42 20 = 0 ∧ vcP c S M M τ
def valM (σ : Mem) (k l i n v : Int32) (σ2 : Mem) : Prop := (¬ (isSh k ∧ isLn l ∧ fcM σ k l i n = 0) ∧ v = cnd (isSh k) (cnd (isLn l) (-10 - fcM σ k l i n) (-2)) (-1) ∧ σ2 = up σ 42 0 (cnd (isSh k) (cnd (isLn l) (fcM σ k l i n) 0) 0)) ∨ (isSh k ∧ isLn l ∧ fcM σ k l i n = 0 ∧ ∃ p, fstP (ceM σ k i) (cl n) p ∧ p ≤ 65 ∧ ((tkn (ceM σ k i) (cl n) p ∧ v = nI (dM (ceM σ k i)) ∧ ∃ τ, vcE σ (ceM σ k i) (dS (ceM σ k i)) (dM (ceM σ k i)) τ ∧ σ2 = up τ 42 0 0) ∨ (¬ tkn (ceM σ k i) (cl n) p ∧ v = -100 - nI p ∧ ∃ τ, RW σ τ ∧ σ2 = up τ 42 0 0)))
theorem vcE_of {σ τ : Mem} {c : Nat → Int32} {S M : Nat} (hS : S ≤ 6) (hM : M ≤ 4) (h : vcB σ c S M τ) (g : vcP c S M M τ) : vcE σ c S M (up (up (up τ 42 6 3) 42 13 0) 42 20 0) := by
  obtain ⟨h1, h2, h3, _, _⟩ := h
  refine ⟨hS, hM, ((h1.up42 6 _ (by omega)).up42 13 _ (by omega)).up42 20 _ (by omega), ?_, ?_, ?_, ?_, up_s, fun x hx => ?_⟩
  · rw [up_n (by omega), up_n (by omega), up_n (by omega)]; exact h2
  · rw [up_n (by omega), up_n (by omega), up_n (by omega)]; exact h3
  · rw [up_n (by omega), up_n (by omega)]; exact up_s
  · rw [up_n (by omega)]; exact up_s
  · obtain ⟨g1, g2⟩ := g x hx
    refine ⟨?_, fun y hy => ?_⟩
    · rw [up_n (by omega), up_n (by omega), up_n (by omega)]; exact g1
    · rw [up_n (by omega), up_n (by omega), up_n (by omega), up_n (by omega), up_n (by omega), up_n (by omega)]; exact g2 y hy
theorem vcB_of {σ τ : Mem} {c : Nat → Int32} {S M : Nat} (hT : RW σ τ) (h3 : rvM c S M τ) (h4 : rvS c S M S τ) : vcB σ c S M (up (up τ 42 1 (nI S)) 42 2 (nI M)) := by
  refine ⟨((RX.of hT).up42 1 _ (by omega)).up42 2 _ (by omega), (up_n (by omega)).trans up_s, up_s, fun x hx => ?_, fun x hx y hy => ?_⟩
  · obtain ⟨g1, g2⟩ := h3 x hx
    exact ⟨(up_n (by omega)).trans ((up_n (by omega)).trans g1), fun y hy => (up_n (by omega)).trans ((up_n (by omega)).trans (g2 y hy))⟩
  · exact (up_n (by omega)).trans ((up_n (by omega)).trans (h4 x hx y hy))

set_option maxHeartbeats 4000000 in
set_option maxRecDepth 20000 in
theorem k_val2 (σ : Mem) (c : Nat → Int32) (S M : Nat) (hS : S ≤ 6) (hM : M ≤ 4) (Q : Option Value → Mem → Prop) (m : Nat) (hm4 : m < M) (d : Nat) (hd : 1 ≤ d) : ∀ (n : Nat) (s : Nat) (τ : Mem) (hm : S < s + n) (hs : s ≤ S) (hB : vcB σ c S M τ) (hP : vcP c S M m τ ∧ vcR c S M m s τ) (hQ : ∀ τ2, vcB σ c S M τ2 → vcP c S M (m + 1) τ2 → PAt (EM d Q) mX8_valley 98 [(6, .int (nI (m + 1))), (0, .ref 42)] [] τ2), PAt (EM d (Q)) mX8_valley 124 [(7, .int (nI s)), (6, .int (nI m)), (0, .ref 42)] [] τ := by
  obtain ⟨d, rfl⟩ : ∃ e, d = e + 1 := ⟨d - 1, by omega⟩
  intro n
  induction n with
  | zero => intro s τ hm hs hB hP hQ; exact absurd hm (by omega)
  | succ n ih =>
    intro s τ hm hs hB hP hQ
    refine tq_iload 0 (dget dX8_valley 69 rfl) rfl ?_
    refine tq_aload_n 2 (dget dX8_valley 70 rfl) rfl rfl ?_
    refine tq_getI (dget dX8_valley 71 rfl) fX8_81 rfl rfl ?_
    refine tq_eqi (y := (nI S)) hB.2.1 ?_
    refine tq_icmp_ge (tgt := 191) (dget dX8_valley 72 rfl) (by decide) (fun c_130 => ?_) (fun c_130 => ?_)
    · have g_130 := kle (by omega) (by omega) c_130
      have g_131 : s = S := by omega
      refine tq_iinc (v := (nI (m + 1))) (ls2 := [(6, .int (nI (m + 1))), (7, .int (nI s)), (0, .ref 42)]) 1 (dget dX8_valley 107 rfl) rfl (nI_1 m) (by decide) rfl ?_
      refine tq_goto (tgt := 98) (dget dX8_valley 108 rfl) (by decide) ?_
      refine tq_sub [0, 2] (ls' := [(6, .int (nI (m + 1))), (0, .ref 42)]) rfl ?_
      exact hQ _ hB (vcP_e (g_131 ▸ hP))
    · have g_130 := knle (by omega) (by omega) c_130
      refine tq_aload_n 2 (dget dX8_valley 73 rfl) rfl rfl ?_
      refine tq_getR (dget dX8_valley 74 rfl) fX8_13 rfl rfl ?_
      refine tq_bipush (v := 6) (dget dX8_valley 75 rfl) rfl ?_
      refine tq_iload 1 (dget dX8_valley 76 rfl) rfl ?_
      refine tq_imul (dget dX8_valley 77 rfl) ?_
      refine tq_eqi (y := (nI (6 * m))) (nI_mulN (6) (m)) ?_
      refine tq_iload 0 (dget dX8_valley 78 rfl) rfl ?_
      refine tq_iadd (dget dX8_valley 79 rfl) ?_
      refine tq_eqi (y := (nI ((6 * m) + s))) (nI_add ((6 * m)) (s)) ?_
      refine tq_aload_n 2 (dget dX8_valley 80 rfl) rfl rfl ?_
      refine tq_getR (dget dX8_valley 81 rfl) fX8_22 rfl rfl ?_
      refine tq_bipush (v := 6) (dget dX8_valley 82 rfl) rfl ?_
      refine tq_iload 1 (dget dX8_valley 83 rfl) rfl ?_
      refine tq_imul (dget dX8_valley 84 rfl) ?_
      refine tq_eqi (y := (nI (6 * m))) (nI_mulN (6) (m)) ?_
      refine tq_iload 0 (dget dX8_valley 85 rfl) rfl ?_
      refine tq_iadd (dget dX8_valley 86 rfl) ?_
      refine tq_eqi (y := (nI ((6 * m) + s))) (nI_add ((6 * m)) (s)) ?_
      refine tq_ialdN ((6 * m) + s) (dget dX8_valley 87 rfl) rfl (by decide) rfl (by omega) ?_
      refine tq_iastN ((6 * m) + s) (dget dX8_valley 88 rfl) rfl (by decide) rfl (by omega) ?_
      refine tq_aload_n 2 (dget dX8_valley 89 rfl) rfl rfl ?_
      refine tq_getR (dget dX8_valley 90 rfl) fX8_16 rfl rfl ?_
      refine tq_bipush (v := 6) (dget dX8_valley 91 rfl) rfl ?_
      refine tq_iload 1 (dget dX8_valley 92 rfl) rfl ?_
      refine tq_imul (dget dX8_valley 93 rfl) ?_
      refine tq_eqi (y := (nI (6 * m))) (nI_mulN (6) (m)) ?_
      refine tq_iload 0 (dget dX8_valley 94 rfl) rfl ?_
      refine tq_iadd (dget dX8_valley 95 rfl) ?_
      refine tq_eqi (y := (nI ((6 * m) + s))) (nI_add ((6 * m)) (s)) ?_
      refine tq_aload_n 2 (dget dX8_valley 96 rfl) rfl rfl ?_
      refine tq_getR (dget dX8_valley 97 rfl) fX8_25 rfl rfl ?_
      refine tq_bipush (v := 6) (dget dX8_valley 98 rfl) rfl ?_
      refine tq_iload 1 (dget dX8_valley 99 rfl) rfl ?_
      refine tq_imul (dget dX8_valley 100 rfl) ?_
      refine tq_eqi (y := (nI (6 * m))) (nI_mulN (6) (m)) ?_
      refine tq_iload 0 (dget dX8_valley 101 rfl) rfl ?_
      refine tq_iadd (dget dX8_valley 102 rfl) ?_
      refine tq_eqi (y := (nI ((6 * m) + s))) (nI_add ((6 * m)) (s)) ?_
      refine tq_ialdN ((6 * m) + s) (dget dX8_valley 103 rfl) rfl (by decide) rfl (by omega) ?_
      refine tq_iastN ((6 * m) + s) (dget dX8_valley 104 rfl) rfl (by decide) rfl (by omega) ?_
      refine tq_iinc (v := (nI (s + 1))) (ls2 := [(7, .int (nI (s + 1))), (6, .int (nI m)), (0, .ref 42)]) 0 (dget dX8_valley 105 rfl) rfl (nI_1 s) (by decide) rfl ?_
      refine tq_goto (tgt := 124) (dget dX8_valley 106 rfl) (by decide) ?_
      refine tq_sub [0, 1, 2] (ls' := [(7, .int (nI (s + 1))), (6, .int (nI m)), (0, .ref 42)]) rfl ?_
      exact ih (s + 1) _ (by omega) (by omega) ((hB.upA 44 _ _ (by omega)).upA 45 _ _ (by omega)) (vcP_s hS g_130 hP ((hB.2.2.2.1 m hm4).2 s g_130) ((up_n (by omega)).trans (hB.2.2.2.2 m hm4 s g_130))) hQ
set_option maxHeartbeats 4000000 in
set_option maxRecDepth 20000 in
theorem k_val1 (σ : Mem) (c : Nat → Int32) (S M : Nat) (hS : S ≤ 6) (hM : M ≤ 4) (Q : Option Value → Mem → Prop) (d : Nat) (hd : 1 ≤ d) : ∀ (n : Nat) (m : Nat) (τ : Mem) (hm : M < m + n) (hs : m ≤ M) (hB : vcB σ c S M τ) (hP : vcP c S M m τ) (hQ : ∀ τ2, vcB σ c S M τ2 → vcP c S M M τ2 → PAt (EM d Q) mX8_valley 197 [(0, .ref 42)] [] τ2), PAt (EM d (Q)) mX8_valley 98 [(6, .int (nI m)), (0, .ref 42)] [] τ := by
  obtain ⟨d, rfl⟩ : ∃ e, d = e + 1 := ⟨d - 1, by omega⟩
  intro n
  induction n with
  | zero => intro m τ hm hs hB hP hQ; exact absurd hm (by omega)
  | succ n ih =>
    intro m τ hm hs hB hP hQ
    refine tq_iload 0 (dget dX8_valley 55 rfl) rfl ?_
    refine tq_aload_n 1 (dget dX8_valley 56 rfl) rfl rfl ?_
    refine tq_getI (dget dX8_valley 57 rfl) fX8_88 rfl rfl ?_
    refine tq_eqi (y := (nI M)) hB.2.2.1 ?_
    refine tq_icmp_ge (tgt := 197) (dget dX8_valley 58 rfl) (by decide) (fun c_104 => ?_) (fun c_104 => ?_)
    · have g_104 := kle (by omega) (by omega) c_104
      have g_105 : m = M := by omega
      refine tq_sub [1] (ls' := [(0, .ref 42)]) rfl ?_
      exact hQ _ hB (g_105 ▸ hP)
    · have g_104 := knle (by omega) (by omega) c_104
      refine tq_aload_n 1 (dget dX8_valley 59 rfl) rfl rfl ?_
      refine tq_getR (dget dX8_valley 60 rfl) fX8_7 rfl rfl ?_
      refine tq_iload 0 (dget dX8_valley 61 rfl) rfl ?_
      refine tq_aload_n 1 (dget dX8_valley 62 rfl) rfl rfl ?_
      refine tq_getR (dget dX8_valley 63 rfl) fX8_19 rfl rfl ?_
      refine tq_iload 0 (dget dX8_valley 64 rfl) rfl ?_
      refine tq_ialdN m (dget dX8_valley 65 rfl) rfl (by decide) rfl (by omega) ?_
      refine tq_iastN m (dget dX8_valley 66 rfl) rfl (by decide) rfl (by omega) ?_
      refine tq_iconst (v := 0) (dget dX8_valley 67 rfl) rfl ?_
      refine tq_istore (ls2 := [(7, .int 0), (6, .int (nI m)), (0, .ref 42)]) (dget dX8_valley 68 rfl) (by decide) rfl ?_
      refine tq_sub [0, 1, 2] (ls' := [(7, .int (nI 0)), (6, .int (nI m)), (0, .ref 42)]) rfl ?_
      exact k_val2 σ c S M hS hM Q m g_104 (d + 1) (by omega) (S + 1) 0 _ (by omega) (by omega) (hB.upA 43 _ _ (by omega)) (vcP_0 hP (hB.2.2.2.1 m g_104).1) (fun τ2 hB2 hP2 => ih (m + 1) τ2 (by omega) (by omega) hB2 hP2 hQ)
set_option maxHeartbeats 4000000 in
set_option maxRecDepth 20000 in
theorem k_valley (σ : Mem) (hz : szOK σ) (k l i n : Int32) (d : Nat) (hd : 4 ≤ d) : PMet d mX8_valley [.ref 42, .int k, .int l, .int i, .int n] σ (Pi (fun v σ2 => valM σ k l i n v σ2)) := by
  obtain ⟨d, rfl⟩ : ∃ e, d = e + 1 := ⟨d - 1, by omega⟩
  refine PMet.start (ls0 := [(0, .ref 42), (1, .int k), (2, .int l), (3, .int i), (4, .int n)]) miX8_valley.1 (Nat.le_of_ble_eq_true rfl) rfl ?_
  refine tq_iload_n 1 (dget dX8_valley 0 rfl) rfl rfl ?_
  refine mq_Si (As := [.int k]) (rest := []) (dget dX8_valley 1 rfl) lX8_127 miX8_noSheet (k_noSheet σ k d (by omega)) rfl rfl (Nat.le_of_ble_eq_true rfl) (Nat.le_of_ble_eq_true rfl) (fun r_1 σ_1 h_1 => ?_)
  obtain ⟨b_1, e_1⟩ := h_1
  obtain rfl := e_1.symm
  refine tq_if_eq (tgt := 13) (dget dX8_valley 2 rfl) (by decide) (fun c_4 => ?_) (fun c_4 => ?_)
  · obtain ⟨kk, e_kk, hkk⟩ := isSh_n (Classical.not_not.mp (b_1.f c_4))
    subst e_kk
    refine tq_iload_n 2 (dget dX8_valley 7 rfl) rfl rfl ?_
    refine tq_i2l (dget dX8_valley 8 rfl) ?_
    refine tq_lconst (v := 0) (dget dX8_valley 9 rfl) rfl ?_
    refine tq_ldc2 (v := 2) (dget dX8_valley 10 rfl) (tblG_3 226 rfl rfl) ?_
    refine mq_Si (As := [.long (l).toInt64, .long 0, .long 2]) (rest := []) (dget dX8_valley 11 rfl) lX8_84 miX8_in (k_in σ (l).toInt64 0 2 d (by omega)) rfl rfl (Nat.le_of_ble_eq_true rfl) (Nat.le_of_ble_eq_true rfl) (fun r_19 σ_19 h_19 => ?_)
    obtain ⟨b_19, e_19⟩ := h_19
    obtain rfl := e_19.symm
    have b_19 := b_19.iff in2
    refine tq_if_ne (tgt := 32) (dget dX8_valley 12 rfl) (by decide) (fun c_22 => ?_) (fun c_22 => ?_)
    · refine tq_aload_n 0 (dget dX8_valley 17 rfl) rfl rfl ?_
      refine tq_iload_n 1 (dget dX8_valley 18 rfl) rfl rfl ?_
      refine tq_iload_n 2 (dget dX8_valley 19 rfl) rfl rfl ?_
      refine tq_iload_n 3 (dget dX8_valley 20 rfl) rfl rfl ?_
      refine tq_iload 4 (dget dX8_valley 21 rfl) rfl ?_
      refine tq_i2l (dget dX8_valley 22 rfl) ?_
      refine mq_Vi (As := [.int (nI kk), .int l, .int i, .long (n).toInt64]) (rest := []) (dget dX8_valley 23 rfl) lX8_136 miX8_cellsBarred (k_cellsBarred σ hz kk hkk l i n d (by omega)) rfl rfl rfl rfl (Nat.le_of_ble_eq_true rfl) (Nat.le_of_ble_eq_true rfl) (fun r_39 σ_39 h_39 => ?_)
      obtain ⟨a_39, e_39⟩ := h_39
      rw [a_39]
      obtain rfl := e_39.symm
      refine tq_istore (ls2 := [(5, .int (cnd (fcM σ (nI kk) l i n = 0) 0 (-10 - fcM σ (nI kk) l i n))), (0, .ref 42), (1, .int (nI kk)), (2, .int l), (3, .int i), (4, .int n)]) (dget dX8_valley 24 rfl) (by decide) rfl ?_
      refine tq_iload 0 (dget dX8_valley 25 rfl) rfl ?_
      refine tq_if_ge (tgt := 52) (dget dX8_valley 26 rfl) (by decide) (fun c_46 => ?_) (fun c_46 => ?_)
      · have gF : fcM σ (nI kk) l i n = 0 := Classical.not_not.mp (fun q => absurd ((cb_neg _ (fc_range _ _ _ _ _ _)).mpr q) (Int32.not_lt.mpr c_46))
        refine tq_mem (cnd_t gF _ _) ?_
        have g0 := fcM_n gF
        rw [show cl (nI kk) = kk from nI_clamp (by omega)] at g0
        obtain ⟨L, hL, eL⟩ := (hz kk hkk).resolve_left (fun e => by rw [e] at g0; exact absurd (Int32.le_trans g0.1 g0.2.1) (by decide))
        obtain ⟨a, N, e_a, e_N, haN⟩ := cells_n g0 eL hL
        subst e_a
        subst e_N
        have hck : cl (nI kk) = kk := nI_clamp (by omega)
        have hca : cl (nI a) = a := nI_clamp (by omega)
        have hcN : cl (nI N) = N := nI_clamp (by omega)
        have hcc : ∀ j, σ 61 (100 * kk + a + j) = ceM σ (nI kk) (nI a) j := fun j => by show _ = σ 61 (100 * cl (nI kk) + cl (nI a) + j); rw [hck, hca]
        generalize eC : ceM σ (nI kk) (nI a) = C at hcc
        refine tq_aload_n 1 (dget dX8_valley 29 rfl) rfl rfl ?_
        refine tq_bipush (v := 100) (dget dX8_valley 30 rfl) rfl ?_
        refine tq_iload_n 2 (dget dX8_valley 31 rfl) rfl rfl ?_
        refine tq_imul (dget dX8_valley 32 rfl) ?_
        refine tq_eqi (y := (nI (100 * kk))) (nI_mulN (100) (kk)) ?_
        refine tq_iload_n 4 (dget dX8_valley 33 rfl) rfl rfl ?_
        refine tq_iadd (dget dX8_valley 34 rfl) ?_
        refine tq_eqi (y := (nI ((100 * kk) + a))) (nI_add ((100 * kk)) (a)) ?_
        refine tq_iload 5 (dget dX8_valley 35 rfl) rfl ?_
        refine mq_Vi (As := [.int (nI ((100 * kk) + a)), .int (nI N)]) (rest := []) (dget dX8_valley 36 rfl) lX8_140 miX8_readsValley (k_readsValley σ C (100 * kk + a) N (by omega) (by omega) hcc d (by omega)) rfl rfl rfl rfl (Nat.le_of_ble_eq_true rfl) (Nat.le_of_ble_eq_true rfl) (fun r_61 σ_61 h_61 => ?_)
        obtain ⟨p, f1, f2, f3, f4, f5, f6⟩ := h_61
        refine tq_if_ne (tgt := 79) (dget dX8_valley 37 rfl) (by decide) (fun c_64 => ?_) (fun c_64 => ?_)
        · have g6 := f5.t c_64
          obtain ⟨t1, t2, t3, t4, t5, t6⟩ := f6 g6
          refine tq_aload_n 1 (dget dX8_valley 45 rfl) rfl rfl ?_
          refine tq_aload_n 1 (dget dX8_valley 46 rfl) rfl rfl ?_
          refine tq_getI (dget dX8_valley 47 rfl) fX8_102 rfl rfl ?_
          refine tq_eqi (y := (nI (dS C))) t1 ?_
          refine tq_putI (dget dX8_valley 48 rfl) fX8_81 rfl rfl rfl rfl ?_
          refine tq_aload_n 1 (dget dX8_valley 49 rfl) rfl rfl ?_
          refine tq_aload_n 1 (dget dX8_valley 50 rfl) rfl rfl ?_
          refine tq_getI (dget dX8_valley 51 rfl) fX8_109 rfl rfl ?_
          refine tq_eqi (y := (nI (dM C))) ((up_n (by omega)).trans t2) ?_
          refine tq_putI (dget dX8_valley 52 rfl) fX8_88 rfl rfl rfl rfl ?_
          refine tq_iconst (v := 0) (dget dX8_valley 53 rfl) rfl ?_
          refine tq_istore (ls2 := [(6, .int 0), (5, .int (cnd (fcM σ (nI kk) l (nI a) (nI N) = 0) 0 (-10 - fcM σ (nI kk) l (nI a) (nI N)))), (0, .ref 42), (1, .int (nI kk)), (2, .int l), (3, .int (nI a)), (4, .int (nI N))]) (dget dX8_valley 54 rfl) (by decide) rfl ?_
          refine tq_sub [0, 2] (ls' := [(6, .int (nI 0)), (0, .ref 42)]) rfl ?_
          refine k_val1 σ C (dS C) (dM C) t3 t4 _ (d + 1) (by omega) (dM C + 1) 0 _ (by omega) (by omega) (vcB_of f3 t5 t6) (fun x hx => absurd hx (by omega)) (fun ω hB hP => ?_)
          refine tq_aload_n 0 (dget dX8_valley 109 rfl) rfl rfl ?_
          refine tq_iconst (v := 3) (dget dX8_valley 110 rfl) rfl ?_
          refine tq_putI (dget dX8_valley 111 rfl) fX8_143 rfl rfl rfl rfl ?_
          refine tq_aload_n 0 (dget dX8_valley 112 rfl) rfl rfl ?_
          refine tq_iconst (v := 0) (dget dX8_valley 113 rfl) rfl ?_
          refine tq_putI (dget dX8_valley 114 rfl) fX8_146 rfl rfl rfl rfl ?_
          refine tq_aload_n 0 (dget dX8_valley 115 rfl) rfl rfl ?_
          refine tq_iconst (v := 0) (dget dX8_valley 116 rfl) rfl ?_
          refine tq_putI (dget dX8_valley 117 rfl) fX8_149 rfl rfl rfl rfl ?_
          refine tq_aload_n 0 (dget dX8_valley 118 rfl) rfl rfl ?_
          refine tq_aload_n 0 (dget dX8_valley 119 rfl) rfl rfl ?_
          refine tq_getI (dget dX8_valley 120 rfl) fX8_88 rfl rfl ?_
          refine tq_eqi (y := (nI (dM C))) ((up_n (by omega)).trans ((up_n (by omega)).trans ((up_n (by omega)).trans hB.2.2.1))) ?_
          refine mq_Vi (As := [.int (nI (dM C))]) (rest := []) (dget dX8_valley 121 rfl) lX8_131 miX8_refused (k_refused (up (up (up ω 42 6 3) 42 13 0) 42 20 0) (nI (dM C)) d (by omega)) rfl rfl rfl rfl (Nat.le_of_ble_eq_true rfl) (Nat.le_of_ble_eq_true rfl) (fun r_217 σ_217 h_217 => ?_)
          obtain ⟨a_217, e_217⟩ := h_217
          rw [a_217]
          obtain rfl := e_217.symm
          exact tq_iret rfl (dget dX8_valley 122 rfl) ⟨_, rfl, Or.inr ⟨Classical.not_not.mp (b_1.f c_4), b_19.t c_22, gF, p, (by rw [eC, hcN]; exact f1), f2, Or.inl ⟨(by rw [eC, hcN]; exact g6), (by rw [eC]), _, (by rw [eC]; exact vcE_of t3 t4 hB hP), rfl⟩⟩⟩
        · refine tq_aload_n 1 (dget dX8_valley 38 rfl) rfl rfl ?_
          refine tq_bipush (v := (-100)) (dget dX8_valley 39 rfl) rfl ?_
          refine tq_aload_n 1 (dget dX8_valley 40 rfl) rfl rfl ?_
          refine tq_getI (dget dX8_valley 41 rfl) fX8_91 rfl rfl ?_
          refine tq_eqi (y := (nI p)) f4 ?_
          refine tq_isub (dget dX8_valley 42 rfl) ?_
          refine mq_Vi (As := [.int ((-100) - (nI p))]) (rest := []) (dget dX8_valley 43 rfl) lX8_131 miX8_refused (k_refused σ_61 ((-100) - (nI p)) d (by omega)) rfl rfl rfl rfl (Nat.le_of_ble_eq_true rfl) (Nat.le_of_ble_eq_true rfl) (fun r_75 σ_75 h_75 => ?_)
          obtain ⟨a_75, e_75⟩ := h_75
          rw [a_75]
          obtain rfl := e_75.symm
          exact tq_iret rfl (dget dX8_valley 44 rfl) ⟨_, rfl, Or.inr ⟨Classical.not_not.mp (b_1.f c_4), b_19.t c_22, gF, p, (by rw [eC, hcN]; exact f1), f2, Or.inr ⟨(by rw [eC, hcN]; exact f5.f c_64), rfl, _, f3, rfl⟩⟩⟩
      · have gF : ¬ fcM σ (nI kk) l i n = 0 := (cb_neg _ (fc_range _ _ _ _ _ _)).mp (Int32.not_le.mp c_46)
        rw [show cnd (fcM σ (nI kk) l i n = 0) 0 (-10 - fcM σ (nI kk) l i n) = -10 - fcM σ (nI kk) l i n from cnd_f gF _ _]
        refine tq_mem (cnd_f gF _ _) ?_
        refine tq_iload 0 (dget dX8_valley 27 rfl) rfl ?_
        exact tq_iret rfl (dget dX8_valley 28 rfl) ⟨_, rfl, Or.inl ⟨fun q => gF q.2.2, by rw [cnd_t (P := isSh (nI kk)) (Classical.not_not.mp (b_1.f c_4)), cnd_t (P := isLn l) (b_19.t c_22)], by rw [cnd_t (P := isSh (nI kk)) (Classical.not_not.mp (b_1.f c_4)), cnd_t (P := isLn l) (b_19.t c_22)]⟩⟩
    · refine tq_aload_n 0 (dget dX8_valley 13 rfl) rfl rfl ?_
      refine tq_bipush (v := (-2)) (dget dX8_valley 14 rfl) rfl ?_
      refine mq_Vi (As := [.int (-2)]) (rest := []) (dget dX8_valley 15 rfl) lX8_131 miX8_refused (k_refused σ (-2) d (by omega)) rfl rfl rfl rfl (Nat.le_of_ble_eq_true rfl) (Nat.le_of_ble_eq_true rfl) (fun r_28 σ_28 h_28 => ?_)
      obtain ⟨a_28, e_28⟩ := h_28
      rw [a_28]
      obtain rfl := e_28.symm
      exact tq_iret rfl (dget dX8_valley 16 rfl) ⟨_, rfl, Or.inl ⟨fun q => b_19.f c_22 q.2.1, by rw [cnd_t (P := isSh (nI kk)) (Classical.not_not.mp (b_1.f c_4)), cnd_f (P := isLn l) (b_19.f c_22)], by rw [cnd_t (P := isSh (nI kk)) (Classical.not_not.mp (b_1.f c_4)), cnd_f (P := isLn l) (b_19.f c_22)]⟩⟩
  · refine tq_aload_n 0 (dget dX8_valley 3 rfl) rfl rfl ?_
    refine tq_iconst (v := (-1)) (dget dX8_valley 4 rfl) rfl ?_
    refine mq_Vi (As := [.int (-1)]) (rest := []) (dget dX8_valley 5 rfl) lX8_131 miX8_refused (k_refused σ (-1) d (by omega)) rfl rfl rfl rfl (Nat.le_of_ble_eq_true rfl) (Nat.le_of_ble_eq_true rfl) (fun r_9 σ_9 h_9 => ?_)
    obtain ⟨a_9, e_9⟩ := h_9
    rw [a_9]
    obtain rfl := e_9.symm
    exact tq_iret rfl (dget dX8_valley 6 rfl) ⟨_, rfl, Or.inl ⟨fun q => b_1.t c_4 q.1, by rw [cnd_f (P := isSh k) (b_1.t c_4)], by rw [cnd_f (P := isSh k) (b_1.t c_4)]⟩⟩

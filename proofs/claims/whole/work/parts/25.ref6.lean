/-! ===== the reference (6): worth, what is learnt ===== -/
theorem tq_eqL {E : ET} {M : MT} {pc : Nat} {ls : List (Nat × Value)} {st : List Value} {σ : Mem} {x y : Int64} (h : x = y) (k : PAt E M pc ls (.long y :: st) σ) : PAt E M pc ls (.long x :: st) σ := h ▸ k
theorem lN_divN {a b : Nat} (ha : a < 2 ^ 31) (hb : b < 2 ^ 31) : lN a / lN b = lN (a / b) := by
  have h3 : a / b ≤ a := Nat.div_le_self a b
  apply Int64.toInt_inj.mp
  rw [Int64.toInt_div, lN_toInt ha, lN_toInt hb, lN_toInt (by omega), ← Int.ofNat_tdiv]
  generalize a / b = c at h3 ⊢
  exact Int.bmod_eq_of_le (by omega) (by omega)
theorem lN_modN {a b : Nat} (ha : a < 2 ^ 31) (hb : b < 2 ^ 31) : lN a - lN a / lN b * lN b = lN (a % b) := by
  have h3 : a / b * b ≤ a := Nat.div_mul_le_self a b
  rw [lN_divN ha hb, lN_mul, lN_sub h3]
  congr 1
  have := Nat.div_add_mod a b
  rw [Nat.mul_comm] at this
  omega
theorem left_pos {q c : Nat} (hq : q < 4) (hc : c < 5) : (0 < nI q - nI c) ↔ c < q := by
  have h2 : ∀ a, a < 4 → ∀ b, b < 5 → ((0 < nI a - nI b) ↔ b < a) := by decide +kernel
  exact h2 q hq c hc

set_option maxHeartbeats 4000000 in
set_option maxRecDepth 20000 in
theorem k_told_loop (σ : Mem) (A B : Nat) (z : Int32) (hA : A < 2 ^ 31) (hB : B < 2 ^ 31) (d : Nat) (hd : 0 ≤ d) : ∀ (n : Nat) (a : Nat) (b : Nat) (hm : b < n) (ha : a < 2 ^ 31) (hb : b < 2 ^ 31) (hg : Nat.gcd a b = Nat.gcd A B) (h0 : 0 < Nat.gcd a b), PAt (EM d (Pl (fun v σ2 => v = cnd (z = 0) (lN (A / Nat.gcd A B)) (lN (B / Nat.gcd A B)) ∧ σ2 = σ))) mX8_told 6 [(7, .long (lN b)), (5, .long (lN a)), (0, .long (lN A)), (2, .long (lN B)), (4, .int z)] [] σ := by
  intro n
  induction n with
  | zero => intro a b hm ha hb hg h0; exact absurd hm (by omega)
  | succ n ih =>
    intro a b hm ha hb hg h0
    refine tq_lload 0 (dget dX8_told 4 rfl) rfl ?_
    refine tq_lconst (v := 0) (dget dX8_told 5 rfl) rfl ?_
    refine tq_lcmp (dget dX8_told 6 rfl) ?_
    refine tq_if_eq (tgt := 31) (dget dX8_told 7 rfl) (by decide) (fun c_10 => ?_) (fun c_10 => ?_)
    · have g_10 : b = 0 := (lN_eq (b := 0) hb (by omega)).mp ((lg_cmp_eq _ _).mp c_10)
      subst g_10
      have g_g : a = Nat.gcd A B := by rw [← hg, Nat.gcd_zero_right]
      rw [g_g] at ha
      have g_0 : 0 < Nat.gcd A B := by rw [← hg]; exact h0
      refine tq_iload 4 (dget dX8_told 17 rfl) rfl ?_
      refine tq_if_ne (tgt := 40) (dget dX8_told 18 rfl) (by decide) (fun c_33 => ?_) (fun c_33 => ?_)
      · refine tq_lload_n 3 (dget dX8_told 21 rfl) rfl rfl ?_
        refine tq_lload 1 (dget dX8_told 22 rfl) rfl ?_
        refine tq_ldiv (dget dX8_told 23 rfl) (fun e => absurd ((lN_eq (a := a) (b := 0) (by omega) (by omega)).mp e) (by omega)) ?_
        refine tq_eqL (y := (lN (B / a))) (lN_divN hB (by omega)) ?_
        exact tq_lret rfl (dget dX8_told 24 rfl) ⟨_, rfl, by rw [g_g]; exact (cnd_f c_33 _ _).symm, rfl⟩
      · refine tq_lload_n 2 (dget dX8_told 19 rfl) rfl rfl ?_
        refine tq_goto (tgt := 41) (dget dX8_told 20 rfl) (by decide) ?_
        refine tq_lload 1 (dget dX8_told 22 rfl) rfl ?_
        refine tq_ldiv (dget dX8_told 23 rfl) (fun e => absurd ((lN_eq (a := a) (b := 0) (by omega) (by omega)).mp e) (by omega)) ?_
        refine tq_eqL (y := (lN (A / a))) (lN_divN hA (by omega)) ?_
        exact tq_lret rfl (dget dX8_told 24 rfl) ⟨_, rfl, by rw [g_g]; exact (cnd_t c_33 _ _).symm, rfl⟩
    · have g_10 : ¬ b = 0 := fun e => c_10 ((lg_cmp_eq _ _).mpr (by rw [e]; rfl))
      refine tq_lload 1 (dget dX8_told 8 rfl) rfl ?_
      refine tq_lload 0 (dget dX8_told 9 rfl) rfl ?_
      refine tq_lrem (dget dX8_told 10 rfl) (fun e => g_10 ((lN_eq (b := 0) hb (by omega)).mp e)) ?_
      refine tq_eqL (y := (lN (a % b))) (lN_modN ha hb) ?_
      refine tq_lstore (ls2 := [(9, .long (lN (a % b))), (7, .long (lN b)), (5, .long (lN a)), (0, .long (lN A)), (2, .long (lN B)), (4, .int z)]) (dget dX8_told 11 rfl) (by decide) rfl ?_
      refine tq_lload 1 (dget dX8_told 12 rfl) rfl ?_
      refine tq_lstore (ls2 := [(5, .long (lN b)), (9, .long (lN (a % b))), (7, .long (lN b)), (0, .long (lN A)), (2, .long (lN B)), (4, .int z)]) (dget dX8_told 13 rfl) (by decide) rfl ?_
      refine tq_lload 1 (dget dX8_told 14 rfl) rfl ?_
      refine tq_lstore (ls2 := [(7, .long (lN (a % b))), (5, .long (lN b)), (9, .long (lN (a % b))), (0, .long (lN A)), (2, .long (lN B)), (4, .int z)]) (dget dX8_told 15 rfl) (by decide) rfl ?_
      refine tq_goto (tgt := 6) (dget dX8_told 16 rfl) (by decide) ?_
      refine tq_sub [0, 1, 3, 4, 5] (ls' := [(7, .long (lN (a % b))), (5, .long (lN b)), (0, .long (lN A)), (2, .long (lN B)), (4, .int z)]) rfl ?_
      have e1 : Nat.gcd b (a % b) = Nat.gcd a b := by rw [Nat.gcd_comm b (a % b), Nat.gcd_comm a b]; exact (Nat.gcd_rec b a).symm
      exact ih b (a % b) (by have := Nat.mod_lt a (Nat.pos_of_ne_zero g_10); omega) hb (by have := Nat.mod_le a b; omega) (e1.trans hg) (by rw [e1]; exact h0)
set_option maxHeartbeats 4000000 in
set_option maxRecDepth 20000 in
theorem k_told (σ : Mem) (A B : Nat) (z : Int32) (hA : A < 2 ^ 31) (hB : B < 2 ^ 31) (h0 : 0 < Nat.gcd A B) (d : Nat) (hd : 0 ≤ d) : PMet d mX8_told [.long (lN A), .long (lN B), .int z] σ (Pl (fun v σ2 => v = cnd (z = 0) (lN (A / Nat.gcd A B)) (lN (B / Nat.gcd A B)) ∧ σ2 = σ)) := by
  refine PMet.start (ls0 := [(0, .long (lN A)), (2, .long (lN B)), (4, .int z)]) miX8_told.1 (Nat.le_of_ble_eq_true rfl) rfl ?_
  refine tq_lload_n 0 (dget dX8_told 0 rfl) rfl rfl ?_
  refine tq_lstore (ls2 := [(5, .long (lN A)), (0, .long (lN A)), (2, .long (lN B)), (4, .int z)]) (dget dX8_told 1 rfl) (by decide) rfl ?_
  refine tq_lload_n 2 (dget dX8_told 2 rfl) rfl rfl ?_
  refine tq_lstore (ls2 := [(7, .long (lN B)), (5, .long (lN A)), (0, .long (lN A)), (2, .long (lN B)), (4, .int z)]) (dget dX8_told 3 rfl) (by decide) rfl ?_
  refine tq_sub [0, 1, 2, 3, 4] (ls' := [(7, .long (lN B)), (5, .long (lN A)), (0, .long (lN A)), (2, .long (lN B)), (4, .int z)]) rfl ?_
  exact k_told_loop σ A B z hA hB d (by omega) (B + 1) A B (by omega) hA hB rfl h0
set_option maxHeartbeats 4000000 in
set_option maxRecDepth 20000 in
theorem k_worth_inner (σ : Mem) (S M m N q : Nat) (h : Nat → Nat) (z : Int32) (hV : VM σ S M) (hm4 : m < 4) (hh : ∀ s, s < S → σ 44 (6 * m + s) = nI (h s) ∧ h s ≤ 9) (hN : N ≤ 4) (hq : q ≤ 3) (hS1 : 0 < S) (k : Nat) (hk : k < N) (d : Nat) (hd : 2 ≤ d) : ∀ (n : Nat) (i : Nat) (hm : S < i + n) (hi : i ≤ S) (hout : PAt (EM d (Pl (fun v σ2 => v = cnd (z = 0) (lN (sorF h S N q N / Nat.gcd (sorF h S N q N) (S ^ N))) (lN (S ^ N / Nat.gcd (sorF h S N q N) (S ^ N))) ∧ σ2 = σ))) mX8_worth 56 [(9, .int (nI (k + 1 + 1))), (7, .long (lN (S ^ (k + 1)))), (5, .long (lN (sorF h S N q (k + 1)))), (0, .ref 42), (1, .int (nI m)), (2, .int (nI N)), (3, .int (nI q)), (4, .int z)] [] σ), PAt (EM d (Pl (fun v σ2 => v = cnd (z = 0) (lN (sorF h S N q N / Nat.gcd (sorF h S N q N) (S ^ N))) (lN (S ^ N / Nat.gcd (sorF h S N q N) (S ^ N))) ∧ σ2 = σ))) mX8_worth 76 [(13, .int (nI i)), (11, .long (lN (sfF h (S ^ k) (if N - (k + 1) < q then sorF h S N q k else 0) i))), (10, .int (nI q - nI (N - (k + 1)))), (9, .int (nI (k + 1))), (7, .long (lN (S ^ k))), (5, .long (lN (sorF h S N q k))), (0, .ref 42), (1, .int (nI m)), (2, .int (nI N)), (3, .int (nI q)), (4, .int z)] [] σ := by
  obtain ⟨d, rfl⟩ : ∃ e, d = e + 1 := ⟨d - 1, by omega⟩
  intro n
  induction n with
  | zero => intro i hm hi hout; exact absurd hm (by omega)
  | succ n ih =>
    intro i hm hi hout
    obtain ⟨v1, v2, v3, v4⟩ := id hV
    have hp := pow63 (k := k) v3 (by omega)
    have hso := sorF_le h S N q (fun s hs => (hh s hs).2) k
    refine tq_iload 0 (dget dX8_worth 43 rfl) rfl ?_
    refine tq_aload_n 6 (dget dX8_worth 44 rfl) rfl rfl ?_
    refine tq_getI (dget dX8_worth 45 rfl) fX8_81 rfl rfl ?_
    refine tq_icmp_ge (tgt := 134) (dget dX8_worth 46 rfl) (by decide) (fun c_82 => ?_) (fun c_82 => ?_)
    · rw [v1] at c_82
      have g_82 := kle (by omega) (by omega) c_82
      have g_83 : i = S := by omega
      rw [show sfF h (S ^ k) (if N - (k + 1) < q then sorF h S N q k else 0) i = sorF h S N q (k + 1) by rw [g_83]; rfl]
      refine tq_lload 1 (dget dX8_worth 73 rfl) rfl ?_
      refine tq_lstore (ls2 := [(5, .long (lN (sorF h S N q (k + 1)))), (13, .int (nI i)), (11, .long (lN (sorF h S N q (k + 1)))), (10, .int (nI q - nI (N - (k + 1)))), (9, .int (nI (k + 1))), (7, .long (lN (S ^ k))), (0, .ref 42), (1, .int (nI m)), (2, .int (nI N)), (3, .int (nI q)), (4, .int z)]) (dget dX8_worth 74 rfl) (by decide) rfl ?_
      refine tq_lload 5 (dget dX8_worth 75 rfl) rfl ?_
      refine tq_aload_n 6 (dget dX8_worth 76 rfl) rfl rfl ?_
      refine tq_getI (dget dX8_worth 77 rfl) fX8_81 rfl rfl ?_
      refine tq_i2l (dget dX8_worth 78 rfl) ?_
      rw [v1, nI_l (by omega)]
      refine tq_lmul (dget dX8_worth 79 rfl) ?_
      refine tq_eqL (y := (lN (S ^ (k + 1)))) (lN_mul _ _) ?_
      refine tq_lstore (ls2 := [(7, .long (lN (S ^ (k + 1)))), (5, .long (lN (sorF h S N q (k + 1)))), (13, .int (nI i)), (11, .long (lN (sorF h S N q (k + 1)))), (10, .int (nI q - nI (N - (k + 1)))), (9, .int (nI (k + 1))), (0, .ref 42), (1, .int (nI m)), (2, .int (nI N)), (3, .int (nI q)), (4, .int z)]) (dget dX8_worth 80 rfl) (by decide) rfl ?_
      refine tq_iinc (v := (nI (k + 1 + 1))) (ls2 := [(9, .int (nI (k + 1 + 1))), (7, .long (lN (S ^ (k + 1)))), (5, .long (lN (sorF h S N q (k + 1)))), (13, .int (nI i)), (11, .long (lN (sorF h S N q (k + 1)))), (10, .int (nI q - nI (N - (k + 1)))), (0, .ref 42), (1, .int (nI m)), (2, .int (nI N)), (3, .int (nI q)), (4, .int z)]) 5 (dget dX8_worth 81 rfl) rfl (nI_1 _) (by decide) rfl ?_
      refine tq_goto (tgt := 56) (dget dX8_worth 82 rfl) (by decide) ?_
      refine tq_sub [0, 1, 2, 6, 7, 8, 9, 10] (ls' := [(9, .int (nI (k + 1 + 1))), (7, .long (lN (S ^ (k + 1)))), (5, .long (lN (sorF h S N q (k + 1)))), (0, .ref 42), (1, .int (nI m)), (2, .int (nI N)), (3, .int (nI q)), (4, .int z)]) rfl ?_
      exact hout
    · rw [v1] at c_82
      have g_82 := knle (by omega) (by omega) c_82
      have h9 := Nat.mul_le_mul_right (S ^ k) (hh i g_82).2
      have hi9 := (hh i g_82).2
      refine tq_aload_n 6 (dget dX8_worth 47 rfl) rfl rfl ?_
      refine tq_getR (dget dX8_worth 48 rfl) fX8_13 rfl rfl ?_
      refine tq_bipush (v := 6) (dget dX8_worth 49 rfl) rfl ?_
      refine tq_iload_n 7 (dget dX8_worth 50 rfl) rfl rfl ?_
      refine tq_imul (dget dX8_worth 51 rfl) ?_
      refine tq_eqi (y := (nI (6 * m))) (nI_mulN (6) (m)) ?_
      refine tq_iload 0 (dget dX8_worth 52 rfl) rfl ?_
      refine tq_iadd (dget dX8_worth 53 rfl) ?_
      refine tq_eqi (y := (nI ((6 * m) + i))) (nI_add ((6 * m)) (i)) ?_
      refine tq_ialdN ((6 * m) + i) (dget dX8_worth 54 rfl) rfl (by decide) rfl (by omega) ?_
      refine tq_eqi (y := (nI (h i))) (hh i g_82).1 ?_
      refine tq_i2l (dget dX8_worth 55 rfl) ?_
      rw [nI_l (by omega)]
      refine tq_lload 4 (dget dX8_worth 56 rfl) rfl ?_
      refine tq_lmul (dget dX8_worth 57 rfl) ?_
      refine tq_eqL (y := (lN (h i * S ^ k))) (lN_mul _ _) ?_
      refine tq_lstore (ls2 := [(14, .long (lN (h i * S ^ k))), (13, .int (nI i)), (11, .long (lN (sfF h (S ^ k) (if N - (k + 1) < q then sorF h S N q k else 0) i))), (10, .int (nI q - nI (N - (k + 1)))), (9, .int (nI (k + 1))), (7, .long (lN (S ^ k))), (5, .long (lN (sorF h S N q k))), (0, .ref 42), (1, .int (nI m)), (2, .int (nI N)), (3, .int (nI q)), (4, .int z)]) (dget dX8_worth 58 rfl) (by decide) rfl ?_
      refine tq_lload 2 (dget dX8_worth 59 rfl) rfl ?_
      refine tq_iload 3 (dget dX8_worth 60 rfl) rfl ?_
      refine tq_if_le (tgt := 123) (dget dX8_worth 61 rfl) (by decide) (fun c_107 => ?_) (fun c_107 => ?_)
      · have g_107 : ¬ N - (k + 1) < q := fun e => absurd ((left_pos (by omega) (by omega)).mpr e) (Int32.not_lt.mpr c_107)
        refine tq_lload 0 (dget dX8_worth 68 rfl) rfl ?_
        refine tq_ladd (dget dX8_worth 69 rfl) ?_
        refine tq_lstore (ls2 := [(11, .long ((lN (sfF h (S ^ k) (if N - (k + 1) < q then sorF h S N q k else 0) i)) + (lN (h i * S ^ k)))), (14, .long (lN (h i * S ^ k))), (13, .int (nI i)), (10, .int (nI q - nI (N - (k + 1)))), (9, .int (nI (k + 1))), (7, .long (lN (S ^ k))), (5, .long (lN (sorF h S N q k))), (0, .ref 42), (1, .int (nI m)), (2, .int (nI N)), (3, .int (nI q)), (4, .int z)]) (dget dX8_worth 70 rfl) (by decide) rfl ?_
        refine tq_iinc (v := (nI (i + 1))) (ls2 := [(13, .int (nI (i + 1))), (11, .long ((lN (sfF h (S ^ k) (if N - (k + 1) < q then sorF h S N q k else 0) i)) + (lN (h i * S ^ k)))), (14, .long (lN (h i * S ^ k))), (10, .int (nI q - nI (N - (k + 1)))), (9, .int (nI (k + 1))), (7, .long (lN (S ^ k))), (5, .long (lN (sorF h S N q k))), (0, .ref 42), (1, .int (nI m)), (2, .int (nI N)), (3, .int (nI q)), (4, .int z)]) 2 (dget dX8_worth 71 rfl) rfl (nI_1 i) (by decide) rfl ?_
        refine tq_goto (tgt := 76) (dget dX8_worth 72 rfl) (by decide) ?_
        refine tq_sub [0, 1, 3, 4, 5, 6, 7, 8, 9, 10, 11] (ls' := [(13, .int (nI (i + 1))), (11, .long ((lN (sfF h (S ^ k) (if N - (k + 1) < q then sorF h S N q k else 0) i)) + (lN (h i * S ^ k)))), (10, .int (nI q - nI (N - (k + 1)))), (9, .int (nI (k + 1))), (7, .long (lN (S ^ k))), (5, .long (lN (sorF h S N q k))), (0, .ref 42), (1, .int (nI m)), (2, .int (nI N)), (3, .int (nI q)), (4, .int z)]) rfl ?_
        rw [show lN (sfF h (S ^ k) (if N - (k + 1) < q then sorF h S N q k else 0) i) + lN (h i * S ^ k) = lN (sfF h (S ^ k) (if N - (k + 1) < q then sorF h S N q k else 0) (i + 1)) by rw [lN_add]; congr 1; rw [sfF]; congr 1; rw [if_neg (show ¬ N - (k + 1) < q from g_107), if_neg (Nat.not_lt_zero _)]]
        exact ih (i + 1) (by omega) (by omega) hout
      · have g_107 := (left_pos (q := q) (c := N - (k + 1)) (by omega) (by omega)).mp (Int32.not_le.mp c_107)
        refine tq_lload 6 (dget dX8_worth 62 rfl) rfl ?_
        refine tq_lload 0 (dget dX8_worth 63 rfl) rfl ?_
        refine tq_lcmp (dget dX8_worth 64 rfl) ?_
        refine tq_if_le (tgt := 123) (dget dX8_worth 65 rfl) (by decide) (fun c_115 => ?_) (fun c_115 => ?_)
        · have g_115 : ¬ h i * S ^ k < sorF h S N q k := Nat.not_lt.mpr ((lN_le (by omega) (by omega)).mp ((lg_cmp_le _ _).mp c_115))
          refine tq_lload 0 (dget dX8_worth 68 rfl) rfl ?_
          refine tq_ladd (dget dX8_worth 69 rfl) ?_
          refine tq_lstore (ls2 := [(11, .long ((lN (sfF h (S ^ k) (if N - (k + 1) < q then sorF h S N q k else 0) i)) + (lN (h i * S ^ k)))), (14, .long (lN (h i * S ^ k))), (13, .int (nI i)), (10, .int (nI q - nI (N - (k + 1)))), (9, .int (nI (k + 1))), (7, .long (lN (S ^ k))), (5, .long (lN (sorF h S N q k))), (0, .ref 42), (1, .int (nI m)), (2, .int (nI N)), (3, .int (nI q)), (4, .int z)]) (dget dX8_worth 70 rfl) (by decide) rfl ?_
          refine tq_iinc (v := (nI (i + 1))) (ls2 := [(13, .int (nI (i + 1))), (11, .long ((lN (sfF h (S ^ k) (if N - (k + 1) < q then sorF h S N q k else 0) i)) + (lN (h i * S ^ k)))), (14, .long (lN (h i * S ^ k))), (10, .int (nI q - nI (N - (k + 1)))), (9, .int (nI (k + 1))), (7, .long (lN (S ^ k))), (5, .long (lN (sorF h S N q k))), (0, .ref 42), (1, .int (nI m)), (2, .int (nI N)), (3, .int (nI q)), (4, .int z)]) 2 (dget dX8_worth 71 rfl) rfl (nI_1 i) (by decide) rfl ?_
          refine tq_goto (tgt := 76) (dget dX8_worth 72 rfl) (by decide) ?_
          refine tq_sub [0, 1, 3, 4, 5, 6, 7, 8, 9, 10, 11] (ls' := [(13, .int (nI (i + 1))), (11, .long ((lN (sfF h (S ^ k) (if N - (k + 1) < q then sorF h S N q k else 0) i)) + (lN (h i * S ^ k)))), (10, .int (nI q - nI (N - (k + 1)))), (9, .int (nI (k + 1))), (7, .long (lN (S ^ k))), (5, .long (lN (sorF h S N q k))), (0, .ref 42), (1, .int (nI m)), (2, .int (nI N)), (3, .int (nI q)), (4, .int z)]) rfl ?_
          rw [show lN (sfF h (S ^ k) (if N - (k + 1) < q then sorF h S N q k else 0) i) + lN (h i * S ^ k) = lN (sfF h (S ^ k) (if N - (k + 1) < q then sorF h S N q k else 0) (i + 1)) by rw [lN_add]; congr 1; rw [sfF]; congr 1; rw [if_pos (show N - (k + 1) < q from g_107), if_neg (show ¬ h i * S ^ k < sorF h S N q k from g_115)]]
          exact ih (i + 1) (by omega) (by omega) hout
        · have g_115 : h i * S ^ k < sorF h S N q k := (lN_lt (by omega) (by omega)).mp ((lg_cmp_gt _ _).mp (Int32.not_le.mp c_115))
          refine tq_lload 6 (dget dX8_worth 66 rfl) rfl ?_
          refine tq_goto (tgt := 125) (dget dX8_worth 67 rfl) (by decide) ?_
          refine tq_ladd (dget dX8_worth 69 rfl) ?_
          refine tq_lstore (ls2 := [(11, .long ((lN (sfF h (S ^ k) (if N - (k + 1) < q then sorF h S N q k else 0) i)) + (lN (sorF h S N q k)))), (14, .long (lN (h i * S ^ k))), (13, .int (nI i)), (10, .int (nI q - nI (N - (k + 1)))), (9, .int (nI (k + 1))), (7, .long (lN (S ^ k))), (5, .long (lN (sorF h S N q k))), (0, .ref 42), (1, .int (nI m)), (2, .int (nI N)), (3, .int (nI q)), (4, .int z)]) (dget dX8_worth 70 rfl) (by decide) rfl ?_
          refine tq_iinc (v := (nI (i + 1))) (ls2 := [(13, .int (nI (i + 1))), (11, .long ((lN (sfF h (S ^ k) (if N - (k + 1) < q then sorF h S N q k else 0) i)) + (lN (sorF h S N q k)))), (14, .long (lN (h i * S ^ k))), (10, .int (nI q - nI (N - (k + 1)))), (9, .int (nI (k + 1))), (7, .long (lN (S ^ k))), (5, .long (lN (sorF h S N q k))), (0, .ref 42), (1, .int (nI m)), (2, .int (nI N)), (3, .int (nI q)), (4, .int z)]) 2 (dget dX8_worth 71 rfl) rfl (nI_1 i) (by decide) rfl ?_
          refine tq_goto (tgt := 76) (dget dX8_worth 72 rfl) (by decide) ?_
          refine tq_sub [0, 1, 3, 4, 5, 6, 7, 8, 9, 10, 11] (ls' := [(13, .int (nI (i + 1))), (11, .long ((lN (sfF h (S ^ k) (if N - (k + 1) < q then sorF h S N q k else 0) i)) + (lN (sorF h S N q k)))), (10, .int (nI q - nI (N - (k + 1)))), (9, .int (nI (k + 1))), (7, .long (lN (S ^ k))), (5, .long (lN (sorF h S N q k))), (0, .ref 42), (1, .int (nI m)), (2, .int (nI N)), (3, .int (nI q)), (4, .int z)]) rfl ?_
          rw [show lN (sfF h (S ^ k) (if N - (k + 1) < q then sorF h S N q k else 0) i) + lN (sorF h S N q k) = lN (sfF h (S ^ k) (if N - (k + 1) < q then sorF h S N q k else 0) (i + 1)) by rw [lN_add]; congr 1; rw [sfF]; congr 1; rw [if_pos (show N - (k + 1) < q from g_107), if_pos (show h i * S ^ k < sorF h S N q k from g_115)]]
          exact ih (i + 1) (by omega) (by omega) hout
set_option maxHeartbeats 4000000 in
set_option maxRecDepth 20000 in
theorem k_worth_outer (σ : Mem) (S M m N q : Nat) (h : Nat → Nat) (z : Int32) (hV : VM σ S M) (hm4 : m < 4) (hh : ∀ s, s < S → σ 44 (6 * m + s) = nI (h s) ∧ h s ≤ 9) (hN : N ≤ 4) (hq : q ≤ 3) (hS1 : 0 < S) (d : Nat) (hd : 2 ≤ d) : ∀ (n : Nat) (k : Nat) (hm : N < k + n) (hk : k ≤ N), PAt (EM d (Pl (fun v σ2 => v = cnd (z = 0) (lN (sorF h S N q N / Nat.gcd (sorF h S N q N) (S ^ N))) (lN (S ^ N / Nat.gcd (sorF h S N q N) (S ^ N))) ∧ σ2 = σ))) mX8_worth 56 [(9, .int (nI (k + 1))), (7, .long (lN (S ^ k))), (5, .long (lN (sorF h S N q k))), (0, .ref 42), (1, .int (nI m)), (2, .int (nI N)), (3, .int (nI q)), (4, .int z)] [] σ := by
  obtain ⟨d, rfl⟩ : ∃ e, d = e + 1 := ⟨d - 1, by omega⟩
  intro n
  induction n with
  | zero => intro k hm hk; exact absurd hm (by omega)
  | succ n ih =>
    intro k hm hk
    obtain ⟨v1, v2, v3, v4⟩ := id hV
    have hso := sorF_le h S N q (fun s hs => (hh s hs).2) N
    have hp6 := pow6 (k := N) v3 hN
    have hp0 : 0 < S ^ N := Nat.pow_pos hS1
    refine tq_iload 0 (dget dX8_worth 30 rfl) rfl ?_
    refine tq_iload_n 5 (dget dX8_worth 31 rfl) rfl rfl ?_
    refine tq_icmp_gt (tgt := 154) (dget dX8_worth 32 rfl) (by decide) (fun c_59 => ?_) (fun c_59 => ?_)
    · have g_59 := klt (by omega) (by omega) c_59
      have g_60 : k = N := by omega
      refine tq_lload 2 (dget dX8_worth 83 rfl) rfl ?_
      refine tq_lload 1 (dget dX8_worth 84 rfl) rfl ?_
      refine tq_iload 7 (dget dX8_worth 85 rfl) rfl ?_
      refine mq_Sl (As := [.long (lN (sorF h S N q k)), .long (lN (S ^ k)), .int z]) (rest := []) (dget dX8_worth 86 rfl) lX8_208 miX8_told (by rw [g_60]; exact k_told σ (sorF h S N q N) (S ^ N) z (by omega) (by omega) (Nat.gcd_pos_of_pos_right _ hp0) d (by omega)) rfl rfl (Nat.le_of_ble_eq_true rfl) (Nat.le_of_ble_eq_true rfl) (fun r_160 σ_160 h_160 => ?_)
      obtain ⟨a_160, e_160⟩ := h_160
      obtain rfl := e_160.symm
      exact tq_lret rfl (dget dX8_worth 87 rfl) ⟨_, rfl, a_160, rfl⟩
    · have g_59 := knlt (by omega) (by omega) c_59
      refine tq_iload_n 6 (dget dX8_worth 33 rfl) rfl rfl ?_
      refine tq_iload_n 5 (dget dX8_worth 34 rfl) rfl rfl ?_
      refine tq_iload 0 (dget dX8_worth 35 rfl) rfl ?_
      refine tq_isub (dget dX8_worth 36 rfl) ?_
      refine tq_eqi (y := (nI (N - (k + 1)))) (nI_subN (by omega)) ?_
      refine tq_isub (dget dX8_worth 37 rfl) ?_
      refine tq_istore (ls2 := [(10, .int ((nI q) - (nI (N - (k + 1))))), (9, .int (nI (k + 1))), (7, .long (lN (S ^ k))), (5, .long (lN (sorF h S N q k))), (0, .ref 42), (1, .int (nI m)), (2, .int (nI N)), (3, .int (nI q)), (4, .int z)]) (dget dX8_worth 38 rfl) (by decide) rfl ?_
      refine tq_lconst (v := 0) (dget dX8_worth 39 rfl) rfl ?_
      refine tq_lstore (ls2 := [(11, .long 0), (10, .int ((nI q) - (nI (N - (k + 1))))), (9, .int (nI (k + 1))), (7, .long (lN (S ^ k))), (5, .long (lN (sorF h S N q k))), (0, .ref 42), (1, .int (nI m)), (2, .int (nI N)), (3, .int (nI q)), (4, .int z)]) (dget dX8_worth 40 rfl) (by decide) rfl ?_
      refine tq_iconst (v := 0) (dget dX8_worth 41 rfl) rfl ?_
      refine tq_istore (ls2 := [(13, .int 0), (11, .long 0), (10, .int ((nI q) - (nI (N - (k + 1))))), (9, .int (nI (k + 1))), (7, .long (lN (S ^ k))), (5, .long (lN (sorF h S N q k))), (0, .ref 42), (1, .int (nI m)), (2, .int (nI N)), (3, .int (nI q)), (4, .int z)]) (dget dX8_worth 42 rfl) (by decide) rfl ?_
      refine tq_sub [0, 1, 2, 3, 4, 5, 6, 7, 8, 9, 10] (ls' := [(13, .int 0), (11, .long 0), (10, .int ((nI q) - (nI (N - (k + 1))))), (9, .int (nI (k + 1))), (7, .long (lN (S ^ k))), (5, .long (lN (sorF h S N q k))), (0, .ref 42), (1, .int (nI m)), (2, .int (nI N)), (3, .int (nI q)), (4, .int z)]) rfl ?_
      exact k_worth_inner σ S M m N q h z hV hm4 hh hN hq hS1 k (by omega) (d + 1) (by omega) (S + 1) 0 (by omega) (by omega) (ih (k + 1) (by omega) (by omega))
def herM (σ : Mem) (m : Nat) : Nat → Nat := fun s => cl (σ 44 (6 * m + s))
def lkOKm (σ : Mem) (S M : Nat) : Prop := ∀ m, m < M → ∀ s, s < S → ∃ j, j ≤ 9 ∧ σ 44 (6 * m + s) = nI j
theorem herM_ok {σ : Mem} {S M m : Nat} (h : lkOKm σ S M) (hm : m < M) : ∀ s, s < S → σ 44 (6 * m + s) = nI (herM σ m s) ∧ herM σ m s ≤ 9 := by
  intro s hs
  obtain ⟨j, h1, h2⟩ := h m hm s hs
  unfold herM
  have e : cl (nI j) = j := nI_clamp (by omega)
  rw [h2, e]
  exact ⟨rfl, h1⟩
theorem in14 {z : Int32} : ((1 : Int64) ≤ z.toInt64 ∧ z.toInt64 ≤ 4) ↔ (1 ≤ z ∧ z ≤ 4) := by
  have h1 : (1 : Int64) ≤ z.toInt64 ↔ 1 ≤ z := w_le 1 z
  have h2 : z.toInt64 ≤ 4 ↔ z ≤ 4 := w_le z 4
  rw [h1, h2]
theorem in18 {z : Int32} : ((1 : Int64) ≤ z.toInt64 ∧ z.toInt64 ≤ 8) ↔ (1 ≤ z ∧ z ≤ 8) := by
  have h1 : (1 : Int64) ≤ z.toInt64 ↔ 1 ≤ z := w_le 1 z
  have h2 : z.toInt64 ≤ 8 ↔ z ≤ 8 := w_le z 8
  rw [h1, h2]
theorem in03 {z : Int32} : ((0 : Int64) ≤ z.toInt64 ∧ z.toInt64 ≤ 3) ↔ (0 ≤ z ∧ z ≤ 3) := by
  have h2 : z.toInt64 ≤ 3 ↔ z ≤ 3 := w_le z 3
  rw [w_0, h2]

set_option maxHeartbeats 4000000 in
set_option maxRecDepth 20000 in
theorem k_worth (σ : Mem) (S M : Nat) (hV : VM σ S M) (hL : lkOKm σ S M) (hSp : 0 < M → 0 < S) (x n r z : Int32) (d : Nat) (hd : 2 ≤ d) : PMet d mX8_worth [.ref 42, .int x, .int n, .int r, .int z] σ (Pl (fun v σ2 => v = cnd (hMm σ x) (cnd (1 ≤ n ∧ n ≤ 4 ∧ 0 ≤ r ∧ r ≤ 3 ∧ (z = 0 ∨ z = 1)) (cnd (z = 0) (lN (sorF (herM σ (cl x)) S (cl n) (cl r) (cl n) / Nat.gcd (sorF (herM σ (cl x)) S (cl n) (cl r) (cl n)) (S ^ cl n))) (lN (S ^ cl n / Nat.gcd (sorF (herM σ (cl x)) S (cl n) (cl r) (cl n)) (S ^ cl n)))) (-9223372036854775808)) (-9223372036854775808) ∧ σ2 = σ)) := by
  obtain ⟨d, rfl⟩ : ∃ e, d = e + 1 := ⟨d - 1, by omega⟩
  refine PMet.start (ls0 := [(0, .ref 42), (1, .int x), (2, .int n), (3, .int r), (4, .int z)]) miX8_worth.1 (Nat.le_of_ble_eq_true rfl) rfl ?_
  refine tq_aload_n 0 (dget dX8_worth 0 rfl) rfl rfl ?_
  refine tq_iload_n 1 (dget dX8_worth 1 rfl) rfl rfl ?_
  refine mq_Vi (As := [.int x]) (rest := []) (dget dX8_worth 2 rfl) lX8_152 miX8_noMaid (k_noMaid σ S M hV x d (by omega)) rfl rfl rfl rfl (Nat.le_of_ble_eq_true rfl) (Nat.le_of_ble_eq_true rfl) (fun r_2 σ_2 h_2 => ?_)
  obtain ⟨b_2, e_2⟩ := h_2
  obtain rfl := e_2.symm
  refine tq_if_ne (tgt := 43) (dget dX8_worth 3 rfl) (by decide) (fun c_5 => ?_) (fun c_5 => ?_)
  · refine mq_Sl (As := []) (rest := []) (dget dX8_worth 22 rfl) lX8_77 miX8_lost (k_lost σ d (by omega)) rfl rfl (Nat.le_of_ble_eq_true rfl) (Nat.le_of_ble_eq_true rfl) (fun r_43 σ_43 h_43 => ?_)
    obtain ⟨a_43, e_43⟩ := h_43
    obtain rfl := a_43.symm
    obtain rfl := e_43.symm
    exact tq_lret rfl (dget dX8_worth 23 rfl) ⟨_, rfl, by simp only [cnd_f (P := hMm σ x) (b_2.t c_5)], rfl⟩
  · refine tq_iload_n 2 (dget dX8_worth 4 rfl) rfl rfl ?_
    refine tq_i2l (dget dX8_worth 5 rfl) ?_
    refine tq_lconst (v := 1) (dget dX8_worth 6 rfl) rfl ?_
    refine tq_ldc2 (v := 4) (dget dX8_worth 7 rfl) (tblG_4 138 rfl rfl) ?_
    refine mq_Si (As := [.long (n).toInt64, .long 1, .long 4]) (rest := []) (dget dX8_worth 8 rfl) lX8_84 miX8_in (k_in σ (n).toInt64 1 4 d (by omega)) rfl rfl (Nat.le_of_ble_eq_true rfl) (Nat.le_of_ble_eq_true rfl) (fun r_14 σ_14 h_14 => ?_)
    obtain ⟨b_14, e_14⟩ := h_14
    obtain rfl := e_14.symm
    have b_14 := b_14.iff in14
    refine tq_if_eq (tgt := 43) (dget dX8_worth 9 rfl) (by decide) (fun c_17 => ?_) (fun c_17 => ?_)
    · refine mq_Sl (As := []) (rest := []) (dget dX8_worth 22 rfl) lX8_77 miX8_lost (k_lost σ d (by omega)) rfl rfl (Nat.le_of_ble_eq_true rfl) (Nat.le_of_ble_eq_true rfl) (fun r_43 σ_43 h_43 => ?_)
      obtain ⟨a_43, e_43⟩ := h_43
      obtain rfl := a_43.symm
      obtain rfl := e_43.symm
      exact tq_lret rfl (dget dX8_worth 23 rfl) ⟨_, rfl, by simp only [cnd_t (P := hMm σ x) (Classical.not_not.mp (b_2.f c_5)), cnd_f (P := 1 ≤ n ∧ n ≤ 4 ∧ 0 ≤ r ∧ r ≤ 3 ∧ (z = 0 ∨ z = 1)) (fun q => b_14.f c_17 ⟨q.1, q.2.1⟩)], rfl⟩
    · refine tq_iload_n 3 (dget dX8_worth 10 rfl) rfl rfl ?_
      refine tq_i2l (dget dX8_worth 11 rfl) ?_
      refine tq_lconst (v := 0) (dget dX8_worth 12 rfl) rfl ?_
      refine tq_ldc2 (v := 3) (dget dX8_worth 13 rfl) (tblG_3 218 rfl rfl) ?_
      refine mq_Si (As := [.long (r).toInt64, .long 0, .long 3]) (rest := []) (dget dX8_worth 14 rfl) lX8_84 miX8_in (k_in σ (r).toInt64 0 3 d (by omega)) rfl rfl (Nat.le_of_ble_eq_true rfl) (Nat.le_of_ble_eq_true rfl) (fun r_26 σ_26 h_26 => ?_)
      obtain ⟨b_26, e_26⟩ := h_26
      obtain rfl := e_26.symm
      have b_26 := b_26.iff in03
      refine tq_if_eq (tgt := 43) (dget dX8_worth 15 rfl) (by decide) (fun c_29 => ?_) (fun c_29 => ?_)
      · refine mq_Sl (As := []) (rest := []) (dget dX8_worth 22 rfl) lX8_77 miX8_lost (k_lost σ d (by omega)) rfl rfl (Nat.le_of_ble_eq_true rfl) (Nat.le_of_ble_eq_true rfl) (fun r_43 σ_43 h_43 => ?_)
        obtain ⟨a_43, e_43⟩ := h_43
        obtain rfl := a_43.symm
        obtain rfl := e_43.symm
        exact tq_lret rfl (dget dX8_worth 23 rfl) ⟨_, rfl, by simp only [cnd_t (P := hMm σ x) (Classical.not_not.mp (b_2.f c_5)), cnd_f (P := 1 ≤ n ∧ n ≤ 4 ∧ 0 ≤ r ∧ r ≤ 3 ∧ (z = 0 ∨ z = 1)) (fun q => b_26.f c_29 ⟨q.2.2.1, q.2.2.2.1⟩)], rfl⟩
      · refine tq_iload 4 (dget dX8_worth 16 rfl) rfl ?_
        refine tq_i2l (dget dX8_worth 17 rfl) ?_
        refine tq_lconst (v := 0) (dget dX8_worth 18 rfl) rfl ?_
        refine tq_lconst (v := 1) (dget dX8_worth 19 rfl) rfl ?_
        refine mq_Si (As := [.long (z).toInt64, .long 0, .long 1]) (rest := []) (dget dX8_worth 20 rfl) lX8_84 miX8_in (k_in σ (z).toInt64 0 1 d (by omega)) rfl rfl (Nat.le_of_ble_eq_true rfl) (Nat.le_of_ble_eq_true rfl) (fun r_37 σ_37 h_37 => ?_)
        obtain ⟨b_37, e_37⟩ := h_37
        obtain rfl := e_37.symm
        have b_37 := b_37.iff in01
        refine tq_if_ne (tgt := 47) (dget dX8_worth 21 rfl) (by decide) (fun c_40 => ?_) (fun c_40 => ?_)
        · refine tq_lconst (v := 0) (dget dX8_worth 24 rfl) rfl ?_
          refine tq_lstore (ls2 := [(5, .long 0), (0, .ref 42), (1, .int x), (2, .int n), (3, .int r), (4, .int z)]) (dget dX8_worth 25 rfl) (by decide) rfl ?_
          refine tq_lconst (v := 1) (dget dX8_worth 26 rfl) rfl ?_
          refine tq_lstore (ls2 := [(7, .long 1), (5, .long 0), (0, .ref 42), (1, .int x), (2, .int n), (3, .int r), (4, .int z)]) (dget dX8_worth 27 rfl) (by decide) rfl ?_
          refine tq_iconst (v := 1) (dget dX8_worth 28 rfl) rfl ?_
          refine tq_istore (ls2 := [(9, .int 1), (7, .long 1), (5, .long 0), (0, .ref 42), (1, .int x), (2, .int n), (3, .int r), (4, .int z)]) (dget dX8_worth 29 rfl) (by decide) rfl ?_
          refine tq_sub [0, 1, 2, 3, 4, 5, 6, 7] (ls' := [(9, .int 1), (7, .long 1), (5, .long 0), (0, .ref 42), (1, .int x), (2, .int n), (3, .int r), (4, .int z)]) rfl ?_
          obtain ⟨m, e_m, hm, hm4⟩ := hMm_n hV (Classical.not_not.mp (b_2.f c_5))
          subst e_m
          obtain ⟨N, e_N, hN1, hN5⟩ := dig (a := 1) (b := 5) (c := n) (by decide) (by decide) (b_14.t c_17).1 (Int32.lt_of_le_of_lt (b_14.t c_17).2 (by decide))
          subst e_N
          obtain ⟨q, e_q, hq0, hq4⟩ := dig (a := 0) (b := 4) (c := r) (by decide) (by decide) (b_26.t c_29).1 (Int32.lt_of_le_of_lt (b_26.t c_29).2 (by decide))
          subst e_q
          simp only [cnd_t (P := hMm σ (nI m)) (Classical.not_not.mp (b_2.f c_5)), cnd_t (P := 1 ≤ nI N ∧ nI N ≤ 4 ∧ 0 ≤ nI q ∧ nI q ≤ 3 ∧ (z = 0 ∨ z = 1)) ⟨(b_14.t c_17).1, (b_14.t c_17).2, (b_26.t c_29).1, (b_26.t c_29).2, b_37.t c_40⟩, nI_clamp (show m < 2 ^ 31 by omega), nI_clamp (show N < 2 ^ 31 by omega), nI_clamp (show q < 2 ^ 31 by omega)]
          exact k_worth_outer σ S M m N q (herM σ m) z hV hm4 (herM_ok hL hm) (by omega) (by omega) (hSp (by omega)) (d + 1) (by omega) (N + 1) 0 (by omega) (by omega)
        · refine mq_Sl (As := []) (rest := []) (dget dX8_worth 22 rfl) lX8_77 miX8_lost (k_lost σ d (by omega)) rfl rfl (Nat.le_of_ble_eq_true rfl) (Nat.le_of_ble_eq_true rfl) (fun r_43 σ_43 h_43 => ?_)
          obtain ⟨a_43, e_43⟩ := h_43
          obtain rfl := a_43.symm
          obtain rfl := e_43.symm
          exact tq_lret rfl (dget dX8_worth 23 rfl) ⟨_, rfl, by simp only [cnd_t (P := hMm σ x) (Classical.not_not.mp (b_2.f c_5)), cnd_f (P := 1 ≤ n ∧ n ≤ 4 ∧ 0 ≤ r ∧ r ≤ 3 ∧ (z = 0 ∨ z = 1)) (fun q => b_37.f c_40 q.2.2.2.2)], rfl⟩
set_option maxHeartbeats 4000000 in
set_option maxRecDepth 20000 in
theorem k_reading (σ : Mem) (S M R : Nat) (hV : VM σ S M) (hR : σ 42 20 = nI R) (hR8 : R ≤ 8) (x y r t : Int32) (d : Nat) (hd : 2 ≤ d) : PMet d mX8_reading [.ref 42, .int x, .int y, .int r, .int t] σ (Pi (fun v σ2 => v = cnd (hMm σ x) (cnd (hSm σ y) (cnd (0 ≤ r ∧ r ≤ 9) (cnd (R = 8) (-4) (nI R)) (-2)) (-1)) (-1) ∧ σ2 = cnd (hMm σ x) (cnd (hSm σ y) (cnd (0 ≤ r ∧ r ≤ 9) (cnd (R = 8) σ (up (up (up (up (up σ 55 R (nI (cl x))) 56 R (nI (cl y))) 57 R r) 58 R (vp_nar .boolean t)) 42 20 (nI (R + 1)))) σ) σ) σ)) := by
  obtain ⟨d, rfl⟩ : ∃ e, d = e + 1 := ⟨d - 1, by omega⟩
  refine PMet.start (ls0 := [(0, .ref 42), (1, .int x), (2, .int y), (3, .int r), (4, .int t)]) miX8_reading.1 (Nat.le_of_ble_eq_true rfl) rfl ?_
  refine tq_aload_n 0 (dget dX8_reading 0 rfl) rfl rfl ?_
  refine tq_iload_n 1 (dget dX8_reading 1 rfl) rfl rfl ?_
  refine mq_Vi (As := [.int x]) (rest := []) (dget dX8_reading 2 rfl) lX8_152 miX8_noMaid (k_noMaid σ S M hV x d (by omega)) rfl rfl rfl rfl (Nat.le_of_ble_eq_true rfl) (Nat.le_of_ble_eq_true rfl) (fun r_2 σ_2 h_2 => ?_)
  obtain ⟨b_2, e_2⟩ := h_2
  obtain rfl := e_2.symm
  refine tq_if_ne (tgt := 16) (dget dX8_reading 3 rfl) (by decide) (fun c_5 => ?_) (fun c_5 => ?_)
  · refine tq_iconst (v := (-1)) (dget dX8_reading 8 rfl) rfl ?_
    exact tq_iret rfl (dget dX8_reading 9 rfl) ⟨_, rfl, by simp only [cnd_f (P := hMm σ x) (b_2.t c_5)], by simp only [cnd_f (P := hMm σ x) (b_2.t c_5)]⟩
  · refine tq_aload_n 0 (dget dX8_reading 4 rfl) rfl rfl ?_
    refine tq_iload_n 2 (dget dX8_reading 5 rfl) rfl rfl ?_
    refine mq_Vi (As := [.int y]) (rest := []) (dget dX8_reading 6 rfl) lX8_155 miX8_noSuitor (k_noSuitor σ S M hV y d (by omega)) rfl rfl rfl rfl (Nat.le_of_ble_eq_true rfl) (Nat.le_of_ble_eq_true rfl) (fun r_10 σ_10 h_10 => ?_)
    obtain ⟨b_10, e_10⟩ := h_10
    obtain rfl := e_10.symm
    refine tq_if_eq (tgt := 18) (dget dX8_reading 7 rfl) (by decide) (fun c_13 => ?_) (fun c_13 => ?_)
    · obtain ⟨m, e_m, hm, hm4⟩ := hMm_n hV (Classical.not_not.mp (b_2.f c_5))
      subst e_m
      obtain ⟨s, e_s, hs, hs6⟩ := hSm_n hV (Classical.not_not.mp (b_10.f c_13))
      subst e_s
      refine tq_iload_n 3 (dget dX8_reading 10 rfl) rfl rfl ?_
      refine tq_i2l (dget dX8_reading 11 rfl) ?_
      refine tq_lconst (v := 0) (dget dX8_reading 12 rfl) rfl ?_
      refine tq_ldc2 (v := 9) (dget dX8_reading 13 rfl) (tblG_4 38 rfl rfl) ?_
      refine mq_Si (As := [.long (r).toInt64, .long 0, .long 9]) (rest := []) (dget dX8_reading 14 rfl) lX8_84 miX8_in (k_in σ (r).toInt64 0 9 d (by omega)) rfl rfl (Nat.le_of_ble_eq_true rfl) (Nat.le_of_ble_eq_true rfl) (fun r_24 σ_24 h_24 => ?_)
      obtain ⟨b_24, e_24⟩ := h_24
      obtain rfl := e_24.symm
      have b_24 := b_24.iff in9
      refine tq_if_ne (tgt := 33) (dget dX8_reading 15 rfl) (by decide) (fun c_27 => ?_) (fun c_27 => ?_)
      · refine tq_aload_n 0 (dget dX8_reading 18 rfl) rfl rfl ?_
        refine tq_getI (dget dX8_reading 19 rfl) fX8_149 rfl rfl ?_
        refine tq_eqi (y := (nI R)) hR ?_
        refine tq_bipush (v := 8) (dget dX8_reading 20 rfl) rfl ?_
        refine tq_icmp_ne (tgt := 45) (dget dX8_reading 21 rfl) (by decide) (fun c_39 => ?_) (fun c_39 => ?_)
        · have g_39 : ¬ R = 8 := fun e => c_39 (by rw [e]; rfl)
          refine tq_aload_n 0 (dget dX8_reading 24 rfl) rfl rfl ?_
          refine tq_getR (dget dX8_reading 25 rfl) fX8_46 rfl rfl ?_
          refine tq_aload_n 0 (dget dX8_reading 26 rfl) rfl rfl ?_
          refine tq_getI (dget dX8_reading 27 rfl) fX8_149 rfl rfl ?_
          refine tq_eqi (y := (nI R)) hR ?_
          refine tq_iload_n 1 (dget dX8_reading 28 rfl) rfl rfl ?_
          refine tq_iastN R (dget dX8_reading 29 rfl) rfl (by decide) rfl (by omega) ?_
          refine tq_aload_n 0 (dget dX8_reading 30 rfl) rfl rfl ?_
          refine tq_getR (dget dX8_reading 31 rfl) fX8_49 rfl rfl ?_
          refine tq_aload_n 0 (dget dX8_reading 32 rfl) rfl rfl ?_
          refine tq_getI (dget dX8_reading 33 rfl) fX8_149 rfl rfl ?_
          refine tq_eqi (y := (nI R)) hR ?_
          refine tq_iload_n 2 (dget dX8_reading 34 rfl) rfl rfl ?_
          refine tq_iastN R (dget dX8_reading 35 rfl) rfl (by decide) rfl (by omega) ?_
          refine tq_aload_n 0 (dget dX8_reading 36 rfl) rfl rfl ?_
          refine tq_getR (dget dX8_reading 37 rfl) fX8_52 rfl rfl ?_
          refine tq_aload_n 0 (dget dX8_reading 38 rfl) rfl rfl ?_
          refine tq_getI (dget dX8_reading 39 rfl) fX8_149 rfl rfl ?_
          refine tq_eqi (y := (nI R)) hR ?_
          refine tq_iload_n 3 (dget dX8_reading 40 rfl) rfl rfl ?_
          refine tq_iastN R (dget dX8_reading 41 rfl) rfl (by decide) rfl (by omega) ?_
          refine tq_aload_n 0 (dget dX8_reading 42 rfl) rfl rfl ?_
          refine tq_getR (dget dX8_reading 43 rfl) fX8_55 rfl rfl ?_
          refine tq_aload_n 0 (dget dX8_reading 44 rfl) rfl rfl ?_
          refine tq_getI (dget dX8_reading 45 rfl) fX8_149 rfl rfl ?_
          refine tq_eqi (y := (nI R)) hR ?_
          refine tq_iload 4 (dget dX8_reading 46 rfl) rfl ?_
          refine tq_zastN R (dget dX8_reading 47 rfl) rfl (by decide) rfl (by omega) ?_
          refine tq_aload_n 0 (dget dX8_reading 48 rfl) rfl rfl ?_
          refine tq_dup (dget dX8_reading 49 rfl) rfl ?_
          refine tq_getI (dget dX8_reading 50 rfl) fX8_149 rfl rfl ?_
          refine tq_eqi (y := (nI R)) hR ?_
          refine tq_iconst (v := 1) (dget dX8_reading 51 rfl) rfl ?_
          refine tq_iadd (dget dX8_reading 52 rfl) ?_
          refine tq_eqi (y := (nI (R + 1))) (nI_1 R) ?_
          refine tq_putI (dget dX8_reading 53 rfl) fX8_149 rfl rfl rfl rfl ?_
          refine tq_aload_n 0 (dget dX8_reading 54 rfl) rfl rfl ?_
          refine tq_getI (dget dX8_reading 55 rfl) fX8_149 rfl rfl ?_
          refine tq_eqi (y := (nI (R + 1))) up_s ?_
          refine tq_iconst (v := 1) (dget dX8_reading 56 rfl) rfl ?_
          refine tq_isub (dget dX8_reading 57 rfl) ?_
          refine tq_eqi (y := (nI R)) (nI_pred R) ?_
          exact tq_iret rfl (dget dX8_reading 58 rfl) ⟨_, rfl, by simp only [cnd_t (P := hMm σ (nI m)) (Classical.not_not.mp (b_2.f c_5)), cnd_t (P := hSm σ (nI s)) (Classical.not_not.mp (b_10.f c_13)), nI_clamp (show m < 2 ^ 31 by omega), nI_clamp (show s < 2 ^ 31 by omega), cnd_t (P := 0 ≤ r ∧ r ≤ 9) (b_24.t c_27), cnd_f (P := R = 8) g_39], by simp only [cnd_t (P := hMm σ (nI m)) (Classical.not_not.mp (b_2.f c_5)), cnd_t (P := hSm σ (nI s)) (Classical.not_not.mp (b_10.f c_13)), nI_clamp (show m < 2 ^ 31 by omega), nI_clamp (show s < 2 ^ 31 by omega), cnd_t (P := 0 ≤ r ∧ r ≤ 9) (b_24.t c_27), cnd_f (P := R = 8) g_39]⟩
        · have g_39 : R = 8 := n_eq (b := 8) (by omega) (by decide) c_39
          refine tq_bipush (v := (-4)) (dget dX8_reading 22 rfl) rfl ?_
          exact tq_iret rfl (dget dX8_reading 23 rfl) ⟨_, rfl, by simp only [cnd_t (P := hMm σ (nI m)) (Classical.not_not.mp (b_2.f c_5)), cnd_t (P := hSm σ (nI s)) (Classical.not_not.mp (b_10.f c_13)), nI_clamp (show m < 2 ^ 31 by omega), nI_clamp (show s < 2 ^ 31 by omega), cnd_t (P := 0 ≤ r ∧ r ≤ 9) (b_24.t c_27), cnd_t (P := R = 8) g_39], by simp only [cnd_t (P := hMm σ (nI m)) (Classical.not_not.mp (b_2.f c_5)), cnd_t (P := hSm σ (nI s)) (Classical.not_not.mp (b_10.f c_13)), nI_clamp (show m < 2 ^ 31 by omega), nI_clamp (show s < 2 ^ 31 by omega), cnd_t (P := 0 ≤ r ∧ r ≤ 9) (b_24.t c_27), cnd_t (P := R = 8) g_39]⟩
      · refine tq_bipush (v := (-2)) (dget dX8_reading 16 rfl) rfl ?_
        exact tq_iret rfl (dget dX8_reading 17 rfl) ⟨_, rfl, by simp only [cnd_t (P := hMm σ (nI m)) (Classical.not_not.mp (b_2.f c_5)), cnd_t (P := hSm σ (nI s)) (Classical.not_not.mp (b_10.f c_13)), nI_clamp (show m < 2 ^ 31 by omega), nI_clamp (show s < 2 ^ 31 by omega), cnd_f (P := 0 ≤ r ∧ r ≤ 9) (b_24.f c_27)], by simp only [cnd_t (P := hMm σ (nI m)) (Classical.not_not.mp (b_2.f c_5)), cnd_t (P := hSm σ (nI s)) (Classical.not_not.mp (b_10.f c_13)), nI_clamp (show m < 2 ^ 31 by omega), nI_clamp (show s < 2 ^ 31 by omega), cnd_f (P := 0 ≤ r ∧ r ≤ 9) (b_24.f c_27)]⟩
    · refine tq_iconst (v := (-1)) (dget dX8_reading 8 rfl) rfl ?_
      exact tq_iret rfl (dget dX8_reading 9 rfl) ⟨_, rfl, by simp only [cnd_t (P := hMm σ x) (Classical.not_not.mp (b_2.f c_5)), cnd_f (P := hSm σ y) (b_10.t c_13)], by simp only [cnd_t (P := hMm σ x) (Classical.not_not.mp (b_2.f c_5)), cnd_f (P := hSm σ y) (b_10.t c_13)]⟩
set_option maxHeartbeats 4000000 in
set_option maxRecDepth 20000 in
theorem k_back (σ : Mem) (S M R : Nat) (hV : VM σ S M) (hR : σ 42 20 = nI R) (hR8 : R ≤ 8) (x : Int32) (d : Nat) (hd : 1 ≤ d) : PMet d mX8_back [.ref 42, .int x] σ (Pi (fun r σ2 => r = cnd (0 ≤ x ∧ x ≤ nI R) (nI (R - cl x)) (-2) ∧ σ2 = cnd (0 ≤ x ∧ x ≤ nI R) (up σ 42 20 (nI (R - cl x))) σ)) := by
  obtain ⟨d, rfl⟩ : ∃ e, d = e + 1 := ⟨d - 1, by omega⟩
  refine PMet.start (ls0 := [(0, .ref 42), (1, .int x)]) miX8_back.1 (Nat.le_of_ble_eq_true rfl) rfl ?_
  have hE : ((0 : Int64) ≤ x.toInt64 ∧ x.toInt64 ≤ (σ 42 20).toInt64) ↔ (0 ≤ x ∧ x ≤ nI R) := by rw [hR, w_0, w_le]
  refine tq_iload_n 1 (dget dX8_back 0 rfl) rfl rfl ?_
  refine tq_i2l (dget dX8_back 1 rfl) ?_
  refine tq_lconst (v := 0) (dget dX8_back 2 rfl) rfl ?_
  refine tq_aload_n 0 (dget dX8_back 3 rfl) rfl rfl ?_
  refine tq_getI (dget dX8_back 4 rfl) fX8_149 rfl rfl ?_
  refine tq_i2l (dget dX8_back 5 rfl) ?_
  refine mq_Si (As := [.long (x).toInt64, .long 0, .long ((σ 42 20)).toInt64]) (rest := []) (dget dX8_back 6 rfl) lX8_84 miX8_in (k_in σ (x).toInt64 0 ((σ 42 20)).toInt64 d (by omega)) rfl rfl (Nat.le_of_ble_eq_true rfl) (Nat.le_of_ble_eq_true rfl) (fun r_8 σ_8 h_8 => ?_)
  obtain ⟨b_8, e_8⟩ := h_8
  obtain rfl := e_8.symm
  have b_8 := b_8.iff hE
  refine tq_if_ne (tgt := 17) (dget dX8_back 7 rfl) (by decide) (fun c_11 => ?_) (fun c_11 => ?_)
  · obtain ⟨k, e_k, hk⟩ := kC_n2 (C := R) (by omega) (b_8.t c_11).1 (b_8.t c_11).2
    subst e_k
    refine tq_aload_n 0 (dget dX8_back 10 rfl) rfl rfl ?_
    refine tq_dup (dget dX8_back 11 rfl) rfl ?_
    refine tq_getI (dget dX8_back 12 rfl) fX8_149 rfl rfl ?_
    refine tq_iload_n 1 (dget dX8_back 13 rfl) rfl rfl ?_
    refine tq_isub (dget dX8_back 14 rfl) ?_
    refine tq_eqi (y := (nI (R - k))) (by rw [hR]; exact nI_subN hk) ?_
    refine tq_putI (dget dX8_back 15 rfl) fX8_149 rfl rfl rfl rfl ?_
    refine tq_aload_n 0 (dget dX8_back 16 rfl) rfl rfl ?_
    refine tq_getI (dget dX8_back 17 rfl) fX8_149 rfl rfl ?_
    refine tq_eqi (y := (nI (R - k))) up_s ?_
    exact tq_iret rfl (dget dX8_back 18 rfl) ⟨_, rfl, by simp only [cnd_t (P := 0 ≤ nI k ∧ nI k ≤ nI R) (b_8.t c_11), nI_clamp (show k < 2 ^ 31 by omega)], by simp only [cnd_t (P := 0 ≤ nI k ∧ nI k ≤ nI R) (b_8.t c_11), nI_clamp (show k < 2 ^ 31 by omega)]⟩
  · refine tq_bipush (v := (-2)) (dget dX8_back 8 rfl) rfl ?_
    exact tq_iret rfl (dget dX8_back 9 rfl) ⟨_, rfl, by simp only [cnd_f (P := 0 ≤ x ∧ x ≤ nI R) (b_8.f c_11)], by simp only [cnd_f (P := 0 ≤ x ∧ x ≤ nI R) (b_8.f c_11)]⟩

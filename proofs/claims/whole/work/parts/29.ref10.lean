/-! ===== the reference (10): a row asked ===== -/
def ceM (σ : Mem) (k i : Int32) (j : Nat) : Int32 := σ 61 (100 * cl k + cl i + j)
def aqPm (σ : Mem) (x k i : Int32) : Nat → Prop := fun j => ¬ ansF (σ 42 6) (σ 43 (cl x)) (σ 44 (6 * cl x + cl (ceM σ k i j))) (nI j) = 3
def aqFm (σ : Mem) (x k i : Int32) : Nat → Int32 := fun j => σ 44 (6 * cl x + cl (ceM σ k i j))
/-- how far she has come by her mind -/
def mdI (P : Nat → Prop) (f : Nat → Int32) (m y : Nat) (free minded : Int32) (τ : Mem) : Prop := (free = 1 ∧ minded = 0 ∧ (∀ j, j < y → ¬ P j) ∧ τ 52 m = nI y) ∨ (free = 0 ∧ ∃ j, j < y ∧ P j ∧ (∀ i, i < j → ¬ P i) ∧ minded = f j)
theorem mdI_end {P : Nat → Prop} {f : Nat → Int32} {m N : Nat} {free minded : Int32} {τ : Mem} (h : mdI P f m N free minded τ) : minded = mndR P f N 0 := by
  refine mnd_eq ?_
  rcases h with ⟨_, h1, h2, _⟩ | ⟨_, j, h1, h2, h3, h4⟩
  · exact Or.inr ⟨h2, h1⟩
  · exact Or.inl ⟨j, h1, h2, h3, h4⟩

set_option maxHeartbeats 4000000 in
set_option maxRecDepth 20000 in
theorem k_asked_a (σ : Mem) (S M kk a N m : Nat) (hV : VM σ S M) (hkk : kk < 4) (haN : a + N ≤ 100) (hN8 : N ≤ 8) (hm4 : m < 4) (Q1 : Int32 → Mem → Prop) (l z : Int32) (d : Nat) (hd : 2 ≤ d) : ∀ (n : Nat) (y : Nat) (hm : N < y + n) (hy : y ≤ N) (hI : ∀ j, j < y → hSm σ (σ 61 (100 * kk + a + j))) (hbad : ¬ (∀ j, j < N → hSm σ (σ 61 (100 * kk + a + j))) → Q1 (-1) (up σ 42 0 0)) (hout : (∀ j, j < N → hSm σ (σ 61 (100 * kk + a + j))) → PAt (EM d (Pi Q1)) mX8_asked 136 [(0, .ref 42), (1, .int (nI m)), (2, .int (nI kk)), (3, .int l), (4, .int (nI a)), (5, .int (nI N)), (6, .int z)] [] σ), PAt (EM d (Pi Q1)) mX8_asked 95 [(8, .int (nI y)), (0, .ref 42), (1, .int (nI m)), (2, .int (nI kk)), (3, .int l), (4, .int (nI a)), (5, .int (nI N)), (6, .int z)] [] σ := by
  obtain ⟨d, rfl⟩ : ∃ e, d = e + 1 := ⟨d - 1, by omega⟩
  intro n
  induction n with
  | zero => intro y hm hy hI hbad hout; exact absurd hm (by omega)
  | succ n ih =>
    intro y hm hy hI hbad hout
    refine tq_iload 0 (dget dX8_asked 51 rfl) rfl ?_
    refine tq_iload 6 (dget dX8_asked 52 rfl) rfl ?_
    refine tq_icmp_ge (tgt := 136) (dget dX8_asked 53 rfl) (by decide) (fun c_99 => ?_) (fun c_99 => ?_)
    · have g_99 := kle (by omega) (by omega) c_99
      have g_100 : y = N := by omega
      refine tq_sub [1, 2, 3, 4, 5, 6, 7] (ls' := [(0, .ref 42), (1, .int (nI m)), (2, .int (nI kk)), (3, .int l), (4, .int (nI a)), (5, .int (nI N)), (6, .int z)]) rfl ?_
      exact hout (fun j hj => hI j (by omega))
    · have g_99 := knle (by omega) (by omega) c_99
      refine tq_aload_n 1 (dget dX8_asked 54 rfl) rfl rfl ?_
      refine tq_aload_n 1 (dget dX8_asked 55 rfl) rfl rfl ?_
      refine tq_getR (dget dX8_asked 56 rfl) fX8_65 rfl rfl ?_
      refine tq_bipush (v := 100) (dget dX8_asked 57 rfl) rfl ?_
      refine tq_iload_n 3 (dget dX8_asked 58 rfl) rfl rfl ?_
      refine tq_imul (dget dX8_asked 59 rfl) ?_
      refine tq_eqi (y := (nI (100 * kk))) (nI_mulN (100) (kk)) ?_
      refine tq_iload 5 (dget dX8_asked 60 rfl) rfl ?_
      refine tq_iadd (dget dX8_asked 61 rfl) ?_
      refine tq_eqi (y := (nI ((100 * kk) + a))) (nI_add ((100 * kk)) (a)) ?_
      refine tq_iload 0 (dget dX8_asked 62 rfl) rfl ?_
      refine tq_iadd (dget dX8_asked 63 rfl) ?_
      refine tq_eqi (y := (nI (((100 * kk) + a) + y))) (nI_add (((100 * kk) + a)) (y)) ?_
      refine tq_ialdN (((100 * kk) + a) + y) (dget dX8_asked 64 rfl) rfl (by decide) rfl (by omega) ?_
      refine mq_Vi (As := [.int (σ 61 (((100 * kk) + a) + y))]) (rest := []) (dget dX8_asked 65 rfl) lX8_155 miX8_noSuitor (k_noSuitor σ S M hV (σ 61 (((100 * kk) + a) + y)) d (by omega)) rfl rfl rfl rfl (Nat.le_of_ble_eq_true rfl) (Nat.le_of_ble_eq_true rfl) (fun r_118 σ_118 h_118 => ?_)
      obtain ⟨b_118, e_118⟩ := h_118
      obtain rfl := e_118.symm
      refine tq_if_eq (tgt := 130) (dget dX8_asked 66 rfl) (by decide) (fun c_121 => ?_) (fun c_121 => ?_)
      · refine tq_iinc (v := (nI (y + 1))) (ls2 := [(8, .int (nI (y + 1))), (0, .ref 42), (1, .int (nI m)), (2, .int (nI kk)), (3, .int l), (4, .int (nI a)), (5, .int (nI N)), (6, .int z)]) 0 (dget dX8_asked 71 rfl) rfl (nI_1 y) (by decide) rfl ?_
        refine tq_goto (tgt := 95) (dget dX8_asked 72 rfl) (by decide) ?_
        refine tq_sub [0, 1, 2, 3, 4, 5, 6, 7] (ls' := [(8, .int (nI (y + 1))), (0, .ref 42), (1, .int (nI m)), (2, .int (nI kk)), (3, .int l), (4, .int (nI a)), (5, .int (nI N)), (6, .int z)]) rfl ?_
        exact ih (y + 1) (by omega) (by omega) (fun j hj => if e : j = y then e ▸ Classical.not_not.mp (b_118.f c_121) else hI j (by omega)) hbad hout
      · refine tq_aload_n 1 (dget dX8_asked 67 rfl) rfl rfl ?_
        refine tq_iconst (v := (-1)) (dget dX8_asked 68 rfl) rfl ?_
        refine mq_Vi (As := [.int (-1)]) (rest := []) (dget dX8_asked 69 rfl) lX8_131 miX8_refused (k_refused σ (-1) d (by omega)) rfl rfl rfl rfl (Nat.le_of_ble_eq_true rfl) (Nat.le_of_ble_eq_true rfl) (fun r_126 σ_126 h_126 => ?_)
        obtain ⟨a_126, e_126⟩ := h_126
        rw [a_126]
        obtain rfl := e_126.symm
        exact tq_iret rfl (dget dX8_asked 70 rfl) ⟨_, rfl, hbad (fun q => b_118.t c_121 (q y g_99))⟩
set_option maxHeartbeats 4000000 in
set_option maxRecDepth 20000 in
theorem k_asked_b (σ : Mem) (S M kk a N m : Nat) (hV : VM σ S M) (hkk : kk < 4) (haN : a + N ≤ 100) (hN8 : N ≤ 8) (hm4 : m < 4) (Q1 : Int32 → Mem → Prop) (l z : Int32) (w : Nat → Nat) (hw : ∀ j, j < N → σ 61 (100 * kk + a + j) = nI (w j) ∧ w j < 6) (j : Nat) (hk : σ 43 m = nI j) (hj : j < 3) (d : Nat) (hd : 2 ≤ d) : ∀ (n : Nat) (y : Nat) (md : Int32) (free : Int32) (τ : Mem) (hm : N < y + n) (hy : y ≤ N) (hT : SC σ τ) (hF : mdI (fun j => ¬ ansF (σ 42 6) (σ 43 m) (σ 44 (6 * m + w j)) (nI j) = 3) (fun j => σ 44 (6 * m + w j)) m y free md τ) (hQ : ∀ τ2, SC σ τ2 → Q1 (cnd (z = 0) (bestF (σ 42 6) (fun j => σ 44 (6 * m + w j)) N) (mndR (fun j => ¬ ansF (σ 42 6) (σ 43 m) (σ 44 (6 * m + w j)) (nI j) = 3) (fun j => σ 44 (6 * m + w j)) N 0)) (up τ2 42 0 0)), PAt (EM d (Pi Q1)) mX8_asked 152 [(11, .int (nI y)), (8, .int (bestF (σ 42 6) (fun j => σ 44 (6 * m + w j)) y)), (9, .int md), (10, .int free), (0, .ref 42), (1, .int (nI m)), (2, .int (nI kk)), (3, .int l), (4, .int (nI a)), (5, .int (nI N)), (6, .int z)] [] τ := by
  obtain ⟨d, rfl⟩ : ∃ e, d = e + 1 := ⟨d - 1, by omega⟩
  intro n
  induction n with
  | zero => intro y md free τ hm hy hT hF hQ; exact absurd hm (by omega)
  | succ n ih =>
    intro y md free τ hm hy hT hF hQ
    refine tq_iload 0 (dget dX8_asked 83 rfl) rfl ?_
    refine tq_iload 9 (dget dX8_asked 84 rfl) rfl ?_
    refine tq_icmp_ge (tgt := 263) (dget dX8_asked 85 rfl) (by decide) (fun c_156 => ?_) (fun c_156 => ?_)
    · have g_156 := kle (by omega) (by omega) c_156
      have g_157 : y = N := by omega
      refine tq_aload_n 4 (dget dX8_asked 143 rfl) rfl rfl ?_
      refine tq_iload 10 (dget dX8_asked 144 rfl) rfl ?_
      refine tq_if_ne (tgt := 274) (dget dX8_asked 145 rfl) (by decide) (fun c_266 => ?_) (fun c_266 => ?_)
      · refine tq_iload 2 (dget dX8_asked 148 rfl) rfl ?_
        refine mq_Vi (As := [.int md]) (rest := []) (dget dX8_asked 149 rfl) lX8_131 miX8_refused (k_refused τ md d (by omega)) rfl rfl rfl rfl (Nat.le_of_ble_eq_true rfl) (Nat.le_of_ble_eq_true rfl) (fun r_276 σ_276 h_276 => ?_)
        obtain ⟨a_276, e_276⟩ := h_276
        rw [a_276]
        obtain rfl := e_276.symm
        exact tq_iret rfl (dget dX8_asked 150 rfl) ⟨_, rfl, by have hq := hQ τ hT; rw [cnd_f c_266] at hq; rw [g_157] at hF; rw [mdI_end hF]; exact hq⟩
      · refine tq_iload 1 (dget dX8_asked 146 rfl) rfl ?_
        refine tq_goto (tgt := 276) (dget dX8_asked 147 rfl) (by decide) ?_
        refine mq_Vi (As := [.int (bestF (σ 42 6) (fun j => σ 44 (6 * m + w j)) y)]) (rest := []) (dget dX8_asked 149 rfl) lX8_131 miX8_refused (k_refused τ (bestF (σ 42 6) (fun j => σ 44 (6 * m + w j)) y) d (by omega)) rfl rfl rfl rfl (Nat.le_of_ble_eq_true rfl) (Nat.le_of_ble_eq_true rfl) (fun r_276 σ_276 h_276 => ?_)
        obtain ⟨a_276, e_276⟩ := h_276
        rw [a_276]
        obtain rfl := e_276.symm
        exact tq_iret rfl (dget dX8_asked 150 rfl) ⟨_, rfl, by have hq := hQ τ hT; rw [cnd_t c_266] at hq; rw [g_157]; exact hq⟩
    · have g_156 := knle (by omega) (by omega) c_156
      have hw6 := (hw y g_156).2
      rcases hF with ⟨f0, fm, f1, f2⟩ | ⟨f0, j0, fj, f1, f2, f3⟩
      · subst f0
        subst fm
        refine tq_aload_n 4 (dget dX8_asked 86 rfl) rfl rfl ?_
        refine tq_getR (dget dX8_asked 87 rfl) fX8_65 rfl rfl ?_
        refine tq_bipush (v := 100) (dget dX8_asked 88 rfl) rfl ?_
        refine tq_iload_n 6 (dget dX8_asked 89 rfl) rfl rfl ?_
        refine tq_imul (dget dX8_asked 90 rfl) ?_
        refine tq_eqi (y := (nI (100 * kk))) (nI_mulN (100) (kk)) ?_
        refine tq_iload 8 (dget dX8_asked 91 rfl) rfl ?_
        refine tq_iadd (dget dX8_asked 92 rfl) ?_
        refine tq_eqi (y := (nI ((100 * kk) + a))) (nI_add ((100 * kk)) (a)) ?_
        refine tq_iload 0 (dget dX8_asked 93 rfl) rfl ?_
        refine tq_iadd (dget dX8_asked 94 rfl) ?_
        refine tq_eqi (y := (nI (((100 * kk) + a) + y))) (nI_add (((100 * kk) + a)) (y)) ?_
        refine tq_ialdN (((100 * kk) + a) + y) (dget dX8_asked 95 rfl) rfl (by decide) rfl (by omega) ?_
        refine tq_eqi (y := (nI (w y))) ((congrFun (hT.1 61 (by decide) (by decide) (by decide)) (100 * kk + a + y)).trans (hw y g_156).1) ?_
        refine tq_istore (ls2 := [(12, .int (nI (w y))), (11, .int (nI y)), (8, .int (bestF (σ 42 6) (fun j => σ 44 (6 * m + w j)) y)), (9, .int 0), (10, .int 1), (0, .ref 42), (1, .int (nI m)), (2, .int (nI kk)), (3, .int l), (4, .int (nI a)), (5, .int (nI N)), (6, .int z)]) (dget dX8_asked 96 rfl) (by decide) rfl ?_
        refine tq_aload_n 5 (dget dX8_asked 97 rfl) rfl rfl ?_
        refine tq_getR (dget dX8_asked 98 rfl) fX8_13 rfl rfl ?_
        refine tq_bipush (v := 6) (dget dX8_asked 99 rfl) rfl ?_
        refine tq_iload_n 6 (dget dX8_asked 100 rfl) rfl rfl ?_
        refine tq_imul (dget dX8_asked 101 rfl) ?_
        refine tq_eqi (y := (nI (6 * m))) (nI_mulN (6) (m)) ?_
        refine tq_iload 0 (dget dX8_asked 102 rfl) rfl ?_
        refine tq_iadd (dget dX8_asked 103 rfl) ?_
        refine tq_eqi (y := (nI ((6 * m) + (w y)))) (nI_add ((6 * m)) ((w y))) ?_
        refine tq_ialdN ((6 * m) + (w y)) (dget dX8_asked 104 rfl) rfl (by decide) rfl (by omega) ?_
        refine tq_eqi (y := (σ 44 (6 * m + w y))) (congrFun (hT.1 44 (by decide) (by decide) (by decide)) (6 * m + w y)) ?_
        refine tq_istore (ls2 := [(13, .int (σ 44 (6 * m + w y))), (12, .int (nI (w y))), (11, .int (nI y)), (8, .int (bestF (σ 42 6) (fun j => σ 44 (6 * m + w j)) y)), (9, .int 0), (10, .int 1), (0, .ref 42), (1, .int (nI m)), (2, .int (nI kk)), (3, .int l), (4, .int (nI a)), (5, .int (nI N)), (6, .int z)]) (dget dX8_asked 105 rfl) (by decide) rfl ?_
        refine tq_iload 2 (dget dX8_asked 106 rfl) rfl ?_
        refine tq_aload_n 6 (dget dX8_asked 107 rfl) rfl rfl ?_
        refine tq_getI (dget dX8_asked 108 rfl) fX8_143 rfl rfl ?_
        refine tq_eqi (y := (σ 42 6)) (congrFun (hT.1 42 (by decide) (by decide) (by decide)) 6) ?_
        refine tq_icmp_gt (tgt := 211) (dget dX8_asked 109 rfl) (by decide) (fun c_196 => ?_) (fun c_196 => ?_)
        · refine tq_iload 3 (dget dX8_asked 115 rfl) rfl ?_
          refine tq_istore (ls2 := [(8, .int (bestF (σ 42 6) (fun j => σ 44 (6 * m + w j)) y)), (13, .int (σ 44 (6 * m + w y))), (12, .int (nI (w y))), (11, .int (nI y)), (9, .int 0), (10, .int 1), (0, .ref 42), (1, .int (nI m)), (2, .int (nI kk)), (3, .int l), (4, .int (nI a)), (5, .int (nI N)), (6, .int z)]) (dget dX8_asked 116 rfl) (by decide) rfl ?_
          refine tq_iload 5 (dget dX8_asked 117 rfl) rfl ?_
          refine tq_if_eq (tgt := 238) (dget dX8_asked 118 rfl) (by decide) (fun c_217 => ?_) (fun c_217 => ?_)
          · exact absurd c_217 (by decide)
          · refine tq_aload_n 6 (dget dX8_asked 119 rfl) rfl rfl ?_
            refine tq_iload_n 7 (dget dX8_asked 120 rfl) rfl rfl ?_
            refine tq_iload 2 (dget dX8_asked 121 rfl) rfl ?_
            refine mq_Vi (As := [.int (nI m), .int (nI (w y))]) (rest := []) (dget dX8_asked 122 rfl) lX8_166 miX8_doesWith (k_doesWith τ m (w y) hm4 (by omega) j ((congrFun (hT.1 43 (by decide) (by decide) (by decide)) m).trans hk) hj d (by omega)) rfl rfl rfl rfl (Nat.le_of_ble_eq_true rfl) (Nat.le_of_ble_eq_true rfl) (fun r_224 σ_224 h_224 => ?_)
            obtain ⟨a_224, e_224⟩ := h_224
            obtain rfl := a_224.symm
            obtain rfl := e_224.symm
            rw [show ansM τ m (w y) = ansF (σ 42 6) (σ 43 m) (σ 44 (6 * m + w y)) (nI y) by unfold ansM; rw [hT.1 42 (by decide) (by decide) (by decide), hT.1 43 (by decide) (by decide) (by decide), hT.1 44 (by decide) (by decide) (by decide), f2]]
            refine tq_iconst (v := 3) (dget dX8_asked 123 rfl) rfl ?_
            refine tq_icmp_eq (tgt := 238) (dget dX8_asked 124 rfl) (by decide) (fun c_228 => ?_) (fun c_228 => ?_)
            · refine tq_aload_n 6 (dget dX8_asked 129 rfl) rfl rfl ?_
              refine tq_getR (dget dX8_asked 130 rfl) fX8_37 rfl rfl ?_
              refine tq_iload_n 7 (dget dX8_asked 131 rfl) rfl rfl ?_
              refine tq_dup2 (dget dX8_asked 132 rfl) rfl rfl ?_
              refine tq_ialdN m (dget dX8_asked 133 rfl) rfl (by decide) rfl (by omega) ?_
              refine tq_iload 5 (dget dX8_asked 134 rfl) rfl ?_
              refine tq_if_eq (tgt := 254) (dget dX8_asked 135 rfl) (by decide) (fun c_247 => ?_) (fun c_247 => ?_)
              · exact absurd c_247 (by decide)
              · refine tq_iconst (v := 1) (dget dX8_asked 136 rfl) rfl ?_
                refine tq_goto (tgt := 255) (dget dX8_asked 137 rfl) (by decide) ?_
                refine tq_iadd (dget dX8_asked 139 rfl) ?_
                refine tq_iastN m (dget dX8_asked 140 rfl) rfl (by decide) rfl (by omega) ?_
                refine tq_iinc (v := (nI (y + 1))) (ls2 := [(11, .int (nI (y + 1))), (8, .int (bestF (σ 42 6) (fun j => σ 44 (6 * m + w j)) y)), (13, .int (σ 44 (6 * m + w y))), (12, .int (nI (w y))), (9, .int 0), (10, .int 1), (0, .ref 42), (1, .int (nI m)), (2, .int (nI kk)), (3, .int l), (4, .int (nI a)), (5, .int (nI N)), (6, .int z)]) 3 (dget dX8_asked 141 rfl) rfl (nI_1 y) (by decide) rfl ?_
                refine tq_goto (tgt := 152) (dget dX8_asked 142 rfl) (by decide) ?_
                refine tq_sub [0, 1, 4, 5, 6, 7, 8, 9, 10, 11, 12] (ls' := [(11, .int (nI (y + 1))), (8, .int (bestF (σ 42 6) (fun j => σ 44 (6 * m + w j)) y)), (9, .int 0), (10, .int 1), (0, .ref 42), (1, .int (nI m)), (2, .int (nI kk)), (3, .int l), (4, .int (nI a)), (5, .int (nI N)), (6, .int z)]) rfl ?_
                rw [show (bestF (σ 42 6) (fun j => σ 44 (6 * m + w j)) y) = bestF (σ 42 6) (fun j => σ 44 (6 * m + w j)) (y + 1) by rw [bestF, if_neg (Int32.not_le.mpr c_196)]]
                exact ih (y + 1) 0 1 _ (by omega) (by omega) (hT.up52 hm4 _) (Or.inl ⟨rfl, rfl, fun j hj => if e : j = y then e ▸ (fun q => q c_228) else f1 j (by omega), by rw [up_s, f2]; exact nI_1 y⟩) hQ
            · refine tq_iload 1 (dget dX8_asked 125 rfl) rfl ?_
              refine tq_istore (ls2 := [(9, .int (σ 44 (6 * m + w y))), (8, .int (bestF (σ 42 6) (fun j => σ 44 (6 * m + w j)) y)), (13, .int (σ 44 (6 * m + w y))), (12, .int (nI (w y))), (11, .int (nI y)), (10, .int 1), (0, .ref 42), (1, .int (nI m)), (2, .int (nI kk)), (3, .int l), (4, .int (nI a)), (5, .int (nI N)), (6, .int z)]) (dget dX8_asked 126 rfl) (by decide) rfl ?_
              refine tq_iconst (v := 0) (dget dX8_asked 127 rfl) rfl ?_
              refine tq_istore (ls2 := [(10, .int 0), (9, .int (σ 44 (6 * m + w y))), (8, .int (bestF (σ 42 6) (fun j => σ 44 (6 * m + w j)) y)), (13, .int (σ 44 (6 * m + w y))), (12, .int (nI (w y))), (11, .int (nI y)), (0, .ref 42), (1, .int (nI m)), (2, .int (nI kk)), (3, .int l), (4, .int (nI a)), (5, .int (nI N)), (6, .int z)]) (dget dX8_asked 128 rfl) (by decide) rfl ?_
              refine tq_aload_n 6 (dget dX8_asked 129 rfl) rfl rfl ?_
              refine tq_getR (dget dX8_asked 130 rfl) fX8_37 rfl rfl ?_
              refine tq_iload_n 7 (dget dX8_asked 131 rfl) rfl rfl ?_
              refine tq_dup2 (dget dX8_asked 132 rfl) rfl rfl ?_
              refine tq_ialdN m (dget dX8_asked 133 rfl) rfl (by decide) rfl (by omega) ?_
              refine tq_iload 0 (dget dX8_asked 134 rfl) rfl ?_
              refine tq_if_eq (tgt := 254) (dget dX8_asked 135 rfl) (by decide) (fun c_247 => ?_) (fun c_247 => ?_)
              · refine tq_iconst (v := 0) (dget dX8_asked 138 rfl) rfl ?_
                refine tq_iadd (dget dX8_asked 139 rfl) ?_
                refine tq_iastN m (dget dX8_asked 140 rfl) rfl (by decide) rfl (by omega) ?_
                refine tq_iinc (v := (nI (y + 1))) (ls2 := [(11, .int (nI (y + 1))), (10, .int 0), (9, .int (σ 44 (6 * m + w y))), (8, .int (bestF (σ 42 6) (fun j => σ 44 (6 * m + w j)) y)), (13, .int (σ 44 (6 * m + w y))), (12, .int (nI (w y))), (0, .ref 42), (1, .int (nI m)), (2, .int (nI kk)), (3, .int l), (4, .int (nI a)), (5, .int (nI N)), (6, .int z)]) 5 (dget dX8_asked 141 rfl) rfl (nI_1 y) (by decide) rfl ?_
                refine tq_goto (tgt := 152) (dget dX8_asked 142 rfl) (by decide) ?_
                refine tq_sub [0, 3, 2, 1, 6, 7, 8, 9, 10, 11, 12] (ls' := [(11, .int (nI (y + 1))), (8, .int (bestF (σ 42 6) (fun j => σ 44 (6 * m + w j)) y)), (9, .int (σ 44 (6 * m + w y))), (10, .int 0), (0, .ref 42), (1, .int (nI m)), (2, .int (nI kk)), (3, .int l), (4, .int (nI a)), (5, .int (nI N)), (6, .int z)]) rfl ?_
                rw [show (bestF (σ 42 6) (fun j => σ 44 (6 * m + w j)) y) = bestF (σ 42 6) (fun j => σ 44 (6 * m + w j)) (y + 1) by rw [bestF, if_neg (Int32.not_le.mpr c_196)]]
                exact ih (y + 1) (σ 44 (6 * m + w y)) 0 _ (by omega) (by omega) (hT.up52 hm4 _) (Or.inr ⟨rfl, y, by omega, c_228, f1, rfl⟩) hQ
              · exact absurd c_247 (by decide)
        · refine tq_iload 0 (dget dX8_asked 110 rfl) rfl ?_
          refine tq_iload 3 (dget dX8_asked 111 rfl) rfl ?_
          refine tq_icmp_le (tgt := 211) (dget dX8_asked 112 rfl) (by decide) (fun c_203 => ?_) (fun c_203 => ?_)
          · refine tq_iload 3 (dget dX8_asked 115 rfl) rfl ?_
            refine tq_istore (ls2 := [(8, .int (bestF (σ 42 6) (fun j => σ 44 (6 * m + w j)) y)), (13, .int (σ 44 (6 * m + w y))), (12, .int (nI (w y))), (11, .int (nI y)), (9, .int 0), (10, .int 1), (0, .ref 42), (1, .int (nI m)), (2, .int (nI kk)), (3, .int l), (4, .int (nI a)), (5, .int (nI N)), (6, .int z)]) (dget dX8_asked 116 rfl) (by decide) rfl ?_
            refine tq_iload 5 (dget dX8_asked 117 rfl) rfl ?_
            refine tq_if_eq (tgt := 238) (dget dX8_asked 118 rfl) (by decide) (fun c_217 => ?_) (fun c_217 => ?_)
            · exact absurd c_217 (by decide)
            · refine tq_aload_n 6 (dget dX8_asked 119 rfl) rfl rfl ?_
              refine tq_iload_n 7 (dget dX8_asked 120 rfl) rfl rfl ?_
              refine tq_iload 2 (dget dX8_asked 121 rfl) rfl ?_
              refine mq_Vi (As := [.int (nI m), .int (nI (w y))]) (rest := []) (dget dX8_asked 122 rfl) lX8_166 miX8_doesWith (k_doesWith τ m (w y) hm4 (by omega) j ((congrFun (hT.1 43 (by decide) (by decide) (by decide)) m).trans hk) hj d (by omega)) rfl rfl rfl rfl (Nat.le_of_ble_eq_true rfl) (Nat.le_of_ble_eq_true rfl) (fun r_224 σ_224 h_224 => ?_)
              obtain ⟨a_224, e_224⟩ := h_224
              obtain rfl := a_224.symm
              obtain rfl := e_224.symm
              rw [show ansM τ m (w y) = ansF (σ 42 6) (σ 43 m) (σ 44 (6 * m + w y)) (nI y) by unfold ansM; rw [hT.1 42 (by decide) (by decide) (by decide), hT.1 43 (by decide) (by decide) (by decide), hT.1 44 (by decide) (by decide) (by decide), f2]]
              refine tq_iconst (v := 3) (dget dX8_asked 123 rfl) rfl ?_
              refine tq_icmp_eq (tgt := 238) (dget dX8_asked 124 rfl) (by decide) (fun c_228 => ?_) (fun c_228 => ?_)
              · refine tq_aload_n 6 (dget dX8_asked 129 rfl) rfl rfl ?_
                refine tq_getR (dget dX8_asked 130 rfl) fX8_37 rfl rfl ?_
                refine tq_iload_n 7 (dget dX8_asked 131 rfl) rfl rfl ?_
                refine tq_dup2 (dget dX8_asked 132 rfl) rfl rfl ?_
                refine tq_ialdN m (dget dX8_asked 133 rfl) rfl (by decide) rfl (by omega) ?_
                refine tq_iload 5 (dget dX8_asked 134 rfl) rfl ?_
                refine tq_if_eq (tgt := 254) (dget dX8_asked 135 rfl) (by decide) (fun c_247 => ?_) (fun c_247 => ?_)
                · exact absurd c_247 (by decide)
                · refine tq_iconst (v := 1) (dget dX8_asked 136 rfl) rfl ?_
                  refine tq_goto (tgt := 255) (dget dX8_asked 137 rfl) (by decide) ?_
                  refine tq_iadd (dget dX8_asked 139 rfl) ?_
                  refine tq_iastN m (dget dX8_asked 140 rfl) rfl (by decide) rfl (by omega) ?_
                  refine tq_iinc (v := (nI (y + 1))) (ls2 := [(11, .int (nI (y + 1))), (8, .int (bestF (σ 42 6) (fun j => σ 44 (6 * m + w j)) y)), (13, .int (σ 44 (6 * m + w y))), (12, .int (nI (w y))), (9, .int 0), (10, .int 1), (0, .ref 42), (1, .int (nI m)), (2, .int (nI kk)), (3, .int l), (4, .int (nI a)), (5, .int (nI N)), (6, .int z)]) 3 (dget dX8_asked 141 rfl) rfl (nI_1 y) (by decide) rfl ?_
                  refine tq_goto (tgt := 152) (dget dX8_asked 142 rfl) (by decide) ?_
                  refine tq_sub [0, 1, 4, 5, 6, 7, 8, 9, 10, 11, 12] (ls' := [(11, .int (nI (y + 1))), (8, .int (bestF (σ 42 6) (fun j => σ 44 (6 * m + w j)) y)), (9, .int 0), (10, .int 1), (0, .ref 42), (1, .int (nI m)), (2, .int (nI kk)), (3, .int l), (4, .int (nI a)), (5, .int (nI N)), (6, .int z)]) rfl ?_
                  rw [show (bestF (σ 42 6) (fun j => σ 44 (6 * m + w j)) y) = bestF (σ 42 6) (fun j => σ 44 (6 * m + w j)) (y + 1) by rw [bestF, if_pos (Int32.not_lt.mp c_196), if_neg (Int32.not_lt.mpr c_203)]]
                  exact ih (y + 1) 0 1 _ (by omega) (by omega) (hT.up52 hm4 _) (Or.inl ⟨rfl, rfl, fun j hj => if e : j = y then e ▸ (fun q => q c_228) else f1 j (by omega), by rw [up_s, f2]; exact nI_1 y⟩) hQ
              · refine tq_iload 1 (dget dX8_asked 125 rfl) rfl ?_
                refine tq_istore (ls2 := [(9, .int (σ 44 (6 * m + w y))), (8, .int (bestF (σ 42 6) (fun j => σ 44 (6 * m + w j)) y)), (13, .int (σ 44 (6 * m + w y))), (12, .int (nI (w y))), (11, .int (nI y)), (10, .int 1), (0, .ref 42), (1, .int (nI m)), (2, .int (nI kk)), (3, .int l), (4, .int (nI a)), (5, .int (nI N)), (6, .int z)]) (dget dX8_asked 126 rfl) (by decide) rfl ?_
                refine tq_iconst (v := 0) (dget dX8_asked 127 rfl) rfl ?_
                refine tq_istore (ls2 := [(10, .int 0), (9, .int (σ 44 (6 * m + w y))), (8, .int (bestF (σ 42 6) (fun j => σ 44 (6 * m + w j)) y)), (13, .int (σ 44 (6 * m + w y))), (12, .int (nI (w y))), (11, .int (nI y)), (0, .ref 42), (1, .int (nI m)), (2, .int (nI kk)), (3, .int l), (4, .int (nI a)), (5, .int (nI N)), (6, .int z)]) (dget dX8_asked 128 rfl) (by decide) rfl ?_
                refine tq_aload_n 6 (dget dX8_asked 129 rfl) rfl rfl ?_
                refine tq_getR (dget dX8_asked 130 rfl) fX8_37 rfl rfl ?_
                refine tq_iload_n 7 (dget dX8_asked 131 rfl) rfl rfl ?_
                refine tq_dup2 (dget dX8_asked 132 rfl) rfl rfl ?_
                refine tq_ialdN m (dget dX8_asked 133 rfl) rfl (by decide) rfl (by omega) ?_
                refine tq_iload 0 (dget dX8_asked 134 rfl) rfl ?_
                refine tq_if_eq (tgt := 254) (dget dX8_asked 135 rfl) (by decide) (fun c_247 => ?_) (fun c_247 => ?_)
                · refine tq_iconst (v := 0) (dget dX8_asked 138 rfl) rfl ?_
                  refine tq_iadd (dget dX8_asked 139 rfl) ?_
                  refine tq_iastN m (dget dX8_asked 140 rfl) rfl (by decide) rfl (by omega) ?_
                  refine tq_iinc (v := (nI (y + 1))) (ls2 := [(11, .int (nI (y + 1))), (10, .int 0), (9, .int (σ 44 (6 * m + w y))), (8, .int (bestF (σ 42 6) (fun j => σ 44 (6 * m + w j)) y)), (13, .int (σ 44 (6 * m + w y))), (12, .int (nI (w y))), (0, .ref 42), (1, .int (nI m)), (2, .int (nI kk)), (3, .int l), (4, .int (nI a)), (5, .int (nI N)), (6, .int z)]) 5 (dget dX8_asked 141 rfl) rfl (nI_1 y) (by decide) rfl ?_
                  refine tq_goto (tgt := 152) (dget dX8_asked 142 rfl) (by decide) ?_
                  refine tq_sub [0, 3, 2, 1, 6, 7, 8, 9, 10, 11, 12] (ls' := [(11, .int (nI (y + 1))), (8, .int (bestF (σ 42 6) (fun j => σ 44 (6 * m + w j)) y)), (9, .int (σ 44 (6 * m + w y))), (10, .int 0), (0, .ref 42), (1, .int (nI m)), (2, .int (nI kk)), (3, .int l), (4, .int (nI a)), (5, .int (nI N)), (6, .int z)]) rfl ?_
                  rw [show (bestF (σ 42 6) (fun j => σ 44 (6 * m + w j)) y) = bestF (σ 42 6) (fun j => σ 44 (6 * m + w j)) (y + 1) by rw [bestF, if_pos (Int32.not_lt.mp c_196), if_neg (Int32.not_lt.mpr c_203)]]
                  exact ih (y + 1) (σ 44 (6 * m + w y)) 0 _ (by omega) (by omega) (hT.up52 hm4 _) (Or.inr ⟨rfl, y, by omega, c_228, f1, rfl⟩) hQ
                · exact absurd c_247 (by decide)
          · refine tq_iload 0 (dget dX8_asked 113 rfl) rfl ?_
            refine tq_goto (tgt := 213) (dget dX8_asked 114 rfl) (by decide) ?_
            refine tq_istore (ls2 := [(8, .int (σ 44 (6 * m + w y))), (13, .int (σ 44 (6 * m + w y))), (12, .int (nI (w y))), (11, .int (nI y)), (9, .int 0), (10, .int 1), (0, .ref 42), (1, .int (nI m)), (2, .int (nI kk)), (3, .int l), (4, .int (nI a)), (5, .int (nI N)), (6, .int z)]) (dget dX8_asked 116 rfl) (by decide) rfl ?_
            refine tq_iload 5 (dget dX8_asked 117 rfl) rfl ?_
            refine tq_if_eq (tgt := 238) (dget dX8_asked 118 rfl) (by decide) (fun c_217 => ?_) (fun c_217 => ?_)
            · exact absurd c_217 (by decide)
            · refine tq_aload_n 6 (dget dX8_asked 119 rfl) rfl rfl ?_
              refine tq_iload_n 7 (dget dX8_asked 120 rfl) rfl rfl ?_
              refine tq_iload 2 (dget dX8_asked 121 rfl) rfl ?_
              refine mq_Vi (As := [.int (nI m), .int (nI (w y))]) (rest := []) (dget dX8_asked 122 rfl) lX8_166 miX8_doesWith (k_doesWith τ m (w y) hm4 (by omega) j ((congrFun (hT.1 43 (by decide) (by decide) (by decide)) m).trans hk) hj d (by omega)) rfl rfl rfl rfl (Nat.le_of_ble_eq_true rfl) (Nat.le_of_ble_eq_true rfl) (fun r_224 σ_224 h_224 => ?_)
              obtain ⟨a_224, e_224⟩ := h_224
              obtain rfl := a_224.symm
              obtain rfl := e_224.symm
              rw [show ansM τ m (w y) = ansF (σ 42 6) (σ 43 m) (σ 44 (6 * m + w y)) (nI y) by unfold ansM; rw [hT.1 42 (by decide) (by decide) (by decide), hT.1 43 (by decide) (by decide) (by decide), hT.1 44 (by decide) (by decide) (by decide), f2]]
              refine tq_iconst (v := 3) (dget dX8_asked 123 rfl) rfl ?_
              refine tq_icmp_eq (tgt := 238) (dget dX8_asked 124 rfl) (by decide) (fun c_228 => ?_) (fun c_228 => ?_)
              · refine tq_aload_n 6 (dget dX8_asked 129 rfl) rfl rfl ?_
                refine tq_getR (dget dX8_asked 130 rfl) fX8_37 rfl rfl ?_
                refine tq_iload_n 7 (dget dX8_asked 131 rfl) rfl rfl ?_
                refine tq_dup2 (dget dX8_asked 132 rfl) rfl rfl ?_
                refine tq_ialdN m (dget dX8_asked 133 rfl) rfl (by decide) rfl (by omega) ?_
                refine tq_iload 5 (dget dX8_asked 134 rfl) rfl ?_
                refine tq_if_eq (tgt := 254) (dget dX8_asked 135 rfl) (by decide) (fun c_247 => ?_) (fun c_247 => ?_)
                · exact absurd c_247 (by decide)
                · refine tq_iconst (v := 1) (dget dX8_asked 136 rfl) rfl ?_
                  refine tq_goto (tgt := 255) (dget dX8_asked 137 rfl) (by decide) ?_
                  refine tq_iadd (dget dX8_asked 139 rfl) ?_
                  refine tq_iastN m (dget dX8_asked 140 rfl) rfl (by decide) rfl (by omega) ?_
                  refine tq_iinc (v := (nI (y + 1))) (ls2 := [(11, .int (nI (y + 1))), (8, .int (σ 44 (6 * m + w y))), (13, .int (σ 44 (6 * m + w y))), (12, .int (nI (w y))), (9, .int 0), (10, .int 1), (0, .ref 42), (1, .int (nI m)), (2, .int (nI kk)), (3, .int l), (4, .int (nI a)), (5, .int (nI N)), (6, .int z)]) 3 (dget dX8_asked 141 rfl) rfl (nI_1 y) (by decide) rfl ?_
                  refine tq_goto (tgt := 152) (dget dX8_asked 142 rfl) (by decide) ?_
                  refine tq_sub [0, 1, 4, 5, 6, 7, 8, 9, 10, 11, 12] (ls' := [(11, .int (nI (y + 1))), (8, .int (σ 44 (6 * m + w y))), (9, .int 0), (10, .int 1), (0, .ref 42), (1, .int (nI m)), (2, .int (nI kk)), (3, .int l), (4, .int (nI a)), (5, .int (nI N)), (6, .int z)]) rfl ?_
                  rw [show (σ 44 (6 * m + w y)) = bestF (σ 42 6) (fun j => σ 44 (6 * m + w j)) (y + 1) by rw [bestF, if_pos (Int32.not_lt.mp c_196), if_pos (Int32.not_le.mp c_203)]]
                  exact ih (y + 1) 0 1 _ (by omega) (by omega) (hT.up52 hm4 _) (Or.inl ⟨rfl, rfl, fun j hj => if e : j = y then e ▸ (fun q => q c_228) else f1 j (by omega), by rw [up_s, f2]; exact nI_1 y⟩) hQ
              · refine tq_iload 1 (dget dX8_asked 125 rfl) rfl ?_
                refine tq_istore (ls2 := [(9, .int (σ 44 (6 * m + w y))), (8, .int (σ 44 (6 * m + w y))), (13, .int (σ 44 (6 * m + w y))), (12, .int (nI (w y))), (11, .int (nI y)), (10, .int 1), (0, .ref 42), (1, .int (nI m)), (2, .int (nI kk)), (3, .int l), (4, .int (nI a)), (5, .int (nI N)), (6, .int z)]) (dget dX8_asked 126 rfl) (by decide) rfl ?_
                refine tq_iconst (v := 0) (dget dX8_asked 127 rfl) rfl ?_
                refine tq_istore (ls2 := [(10, .int 0), (9, .int (σ 44 (6 * m + w y))), (8, .int (σ 44 (6 * m + w y))), (13, .int (σ 44 (6 * m + w y))), (12, .int (nI (w y))), (11, .int (nI y)), (0, .ref 42), (1, .int (nI m)), (2, .int (nI kk)), (3, .int l), (4, .int (nI a)), (5, .int (nI N)), (6, .int z)]) (dget dX8_asked 128 rfl) (by decide) rfl ?_
                refine tq_aload_n 6 (dget dX8_asked 129 rfl) rfl rfl ?_
                refine tq_getR (dget dX8_asked 130 rfl) fX8_37 rfl rfl ?_
                refine tq_iload_n 7 (dget dX8_asked 131 rfl) rfl rfl ?_
                refine tq_dup2 (dget dX8_asked 132 rfl) rfl rfl ?_
                refine tq_ialdN m (dget dX8_asked 133 rfl) rfl (by decide) rfl (by omega) ?_
                refine tq_iload 0 (dget dX8_asked 134 rfl) rfl ?_
                refine tq_if_eq (tgt := 254) (dget dX8_asked 135 rfl) (by decide) (fun c_247 => ?_) (fun c_247 => ?_)
                · refine tq_iconst (v := 0) (dget dX8_asked 138 rfl) rfl ?_
                  refine tq_iadd (dget dX8_asked 139 rfl) ?_
                  refine tq_iastN m (dget dX8_asked 140 rfl) rfl (by decide) rfl (by omega) ?_
                  refine tq_iinc (v := (nI (y + 1))) (ls2 := [(11, .int (nI (y + 1))), (10, .int 0), (9, .int (σ 44 (6 * m + w y))), (8, .int (σ 44 (6 * m + w y))), (13, .int (σ 44 (6 * m + w y))), (12, .int (nI (w y))), (0, .ref 42), (1, .int (nI m)), (2, .int (nI kk)), (3, .int l), (4, .int (nI a)), (5, .int (nI N)), (6, .int z)]) 5 (dget dX8_asked 141 rfl) rfl (nI_1 y) (by decide) rfl ?_
                  refine tq_goto (tgt := 152) (dget dX8_asked 142 rfl) (by decide) ?_
                  refine tq_sub [0, 3, 2, 1, 6, 7, 8, 9, 10, 11, 12] (ls' := [(11, .int (nI (y + 1))), (8, .int (σ 44 (6 * m + w y))), (9, .int (σ 44 (6 * m + w y))), (10, .int 0), (0, .ref 42), (1, .int (nI m)), (2, .int (nI kk)), (3, .int l), (4, .int (nI a)), (5, .int (nI N)), (6, .int z)]) rfl ?_
                  rw [show (σ 44 (6 * m + w y)) = bestF (σ 42 6) (fun j => σ 44 (6 * m + w j)) (y + 1) by rw [bestF, if_pos (Int32.not_lt.mp c_196), if_pos (Int32.not_le.mp c_203)]]
                  exact ih (y + 1) (bestF (σ 42 6) (fun j => σ 44 (6 * m + w j)) (y + 1)) 0 _ (by omega) (by omega) (hT.up52 hm4 _) (Or.inr ⟨rfl, y, by omega, c_228, f1, by rw [bestF, if_pos (Int32.not_lt.mp c_196), if_pos (Int32.not_le.mp c_203)]⟩) hQ
                · exact absurd c_247 (by decide)
      · subst f0
        refine tq_aload_n 4 (dget dX8_asked 86 rfl) rfl rfl ?_
        refine tq_getR (dget dX8_asked 87 rfl) fX8_65 rfl rfl ?_
        refine tq_bipush (v := 100) (dget dX8_asked 88 rfl) rfl ?_
        refine tq_iload_n 6 (dget dX8_asked 89 rfl) rfl rfl ?_
        refine tq_imul (dget dX8_asked 90 rfl) ?_
        refine tq_eqi (y := (nI (100 * kk))) (nI_mulN (100) (kk)) ?_
        refine tq_iload 8 (dget dX8_asked 91 rfl) rfl ?_
        refine tq_iadd (dget dX8_asked 92 rfl) ?_
        refine tq_eqi (y := (nI ((100 * kk) + a))) (nI_add ((100 * kk)) (a)) ?_
        refine tq_iload 0 (dget dX8_asked 93 rfl) rfl ?_
        refine tq_iadd (dget dX8_asked 94 rfl) ?_
        refine tq_eqi (y := (nI (((100 * kk) + a) + y))) (nI_add (((100 * kk) + a)) (y)) ?_
        refine tq_ialdN (((100 * kk) + a) + y) (dget dX8_asked 95 rfl) rfl (by decide) rfl (by omega) ?_
        refine tq_eqi (y := (nI (w y))) ((congrFun (hT.1 61 (by decide) (by decide) (by decide)) (100 * kk + a + y)).trans (hw y g_156).1) ?_
        refine tq_istore (ls2 := [(12, .int (nI (w y))), (11, .int (nI y)), (8, .int (bestF (σ 42 6) (fun j => σ 44 (6 * m + w j)) y)), (9, .int md), (10, .int 0), (0, .ref 42), (1, .int (nI m)), (2, .int (nI kk)), (3, .int l), (4, .int (nI a)), (5, .int (nI N)), (6, .int z)]) (dget dX8_asked 96 rfl) (by decide) rfl ?_
        refine tq_aload_n 5 (dget dX8_asked 97 rfl) rfl rfl ?_
        refine tq_getR (dget dX8_asked 98 rfl) fX8_13 rfl rfl ?_
        refine tq_bipush (v := 6) (dget dX8_asked 99 rfl) rfl ?_
        refine tq_iload_n 6 (dget dX8_asked 100 rfl) rfl rfl ?_
        refine tq_imul (dget dX8_asked 101 rfl) ?_
        refine tq_eqi (y := (nI (6 * m))) (nI_mulN (6) (m)) ?_
        refine tq_iload 0 (dget dX8_asked 102 rfl) rfl ?_
        refine tq_iadd (dget dX8_asked 103 rfl) ?_
        refine tq_eqi (y := (nI ((6 * m) + (w y)))) (nI_add ((6 * m)) ((w y))) ?_
        refine tq_ialdN ((6 * m) + (w y)) (dget dX8_asked 104 rfl) rfl (by decide) rfl (by omega) ?_
        refine tq_eqi (y := (σ 44 (6 * m + w y))) (congrFun (hT.1 44 (by decide) (by decide) (by decide)) (6 * m + w y)) ?_
        refine tq_istore (ls2 := [(13, .int (σ 44 (6 * m + w y))), (12, .int (nI (w y))), (11, .int (nI y)), (8, .int (bestF (σ 42 6) (fun j => σ 44 (6 * m + w j)) y)), (9, .int md), (10, .int 0), (0, .ref 42), (1, .int (nI m)), (2, .int (nI kk)), (3, .int l), (4, .int (nI a)), (5, .int (nI N)), (6, .int z)]) (dget dX8_asked 105 rfl) (by decide) rfl ?_
        refine tq_iload 2 (dget dX8_asked 106 rfl) rfl ?_
        refine tq_aload_n 6 (dget dX8_asked 107 rfl) rfl rfl ?_
        refine tq_getI (dget dX8_asked 108 rfl) fX8_143 rfl rfl ?_
        refine tq_eqi (y := (σ 42 6)) (congrFun (hT.1 42 (by decide) (by decide) (by decide)) 6) ?_
        refine tq_icmp_gt (tgt := 211) (dget dX8_asked 109 rfl) (by decide) (fun c_196 => ?_) (fun c_196 => ?_)
        · refine tq_iload 3 (dget dX8_asked 115 rfl) rfl ?_
          refine tq_istore (ls2 := [(8, .int (bestF (σ 42 6) (fun j => σ 44 (6 * m + w j)) y)), (13, .int (σ 44 (6 * m + w y))), (12, .int (nI (w y))), (11, .int (nI y)), (9, .int md), (10, .int 0), (0, .ref 42), (1, .int (nI m)), (2, .int (nI kk)), (3, .int l), (4, .int (nI a)), (5, .int (nI N)), (6, .int z)]) (dget dX8_asked 116 rfl) (by decide) rfl ?_
          refine tq_iload 5 (dget dX8_asked 117 rfl) rfl ?_
          refine tq_if_eq (tgt := 238) (dget dX8_asked 118 rfl) (by decide) (fun c_217 => ?_) (fun c_217 => ?_)
          · refine tq_aload_n 6 (dget dX8_asked 129 rfl) rfl rfl ?_
            refine tq_getR (dget dX8_asked 130 rfl) fX8_37 rfl rfl ?_
            refine tq_iload_n 7 (dget dX8_asked 131 rfl) rfl rfl ?_
            refine tq_dup2 (dget dX8_asked 132 rfl) rfl rfl ?_
            refine tq_ialdN m (dget dX8_asked 133 rfl) rfl (by decide) rfl (by omega) ?_
            refine tq_iload 5 (dget dX8_asked 134 rfl) rfl ?_
            refine tq_if_eq (tgt := 254) (dget dX8_asked 135 rfl) (by decide) (fun c_247 => ?_) (fun c_247 => ?_)
            · refine tq_iconst (v := 0) (dget dX8_asked 138 rfl) rfl ?_
              refine tq_iadd (dget dX8_asked 139 rfl) ?_
              refine tq_iastN m (dget dX8_asked 140 rfl) rfl (by decide) rfl (by omega) ?_
              refine tq_iinc (v := (nI (y + 1))) (ls2 := [(11, .int (nI (y + 1))), (8, .int (bestF (σ 42 6) (fun j => σ 44 (6 * m + w j)) y)), (13, .int (σ 44 (6 * m + w y))), (12, .int (nI (w y))), (9, .int md), (10, .int 0), (0, .ref 42), (1, .int (nI m)), (2, .int (nI kk)), (3, .int l), (4, .int (nI a)), (5, .int (nI N)), (6, .int z)]) 3 (dget dX8_asked 141 rfl) rfl (nI_1 y) (by decide) rfl ?_
              refine tq_goto (tgt := 152) (dget dX8_asked 142 rfl) (by decide) ?_
              refine tq_sub [0, 1, 4, 5, 6, 7, 8, 9, 10, 11, 12] (ls' := [(11, .int (nI (y + 1))), (8, .int (bestF (σ 42 6) (fun j => σ 44 (6 * m + w j)) y)), (9, .int md), (10, .int 0), (0, .ref 42), (1, .int (nI m)), (2, .int (nI kk)), (3, .int l), (4, .int (nI a)), (5, .int (nI N)), (6, .int z)]) rfl ?_
              rw [show (bestF (σ 42 6) (fun j => σ 44 (6 * m + w j)) y) = bestF (σ 42 6) (fun j => σ 44 (6 * m + w j)) (y + 1) by rw [bestF, if_neg (Int32.not_le.mpr c_196)]]
              exact ih (y + 1) md 0 _ (by omega) (by omega) (hT.up52 hm4 _) (Or.inr ⟨rfl, j0, by omega, f1, f2, f3⟩) hQ
            · exact absurd c_247 (by decide)
          · exact absurd c_217 (by decide)
        · refine tq_iload 0 (dget dX8_asked 110 rfl) rfl ?_
          refine tq_iload 3 (dget dX8_asked 111 rfl) rfl ?_
          refine tq_icmp_le (tgt := 211) (dget dX8_asked 112 rfl) (by decide) (fun c_203 => ?_) (fun c_203 => ?_)
          · refine tq_iload 3 (dget dX8_asked 115 rfl) rfl ?_
            refine tq_istore (ls2 := [(8, .int (bestF (σ 42 6) (fun j => σ 44 (6 * m + w j)) y)), (13, .int (σ 44 (6 * m + w y))), (12, .int (nI (w y))), (11, .int (nI y)), (9, .int md), (10, .int 0), (0, .ref 42), (1, .int (nI m)), (2, .int (nI kk)), (3, .int l), (4, .int (nI a)), (5, .int (nI N)), (6, .int z)]) (dget dX8_asked 116 rfl) (by decide) rfl ?_
            refine tq_iload 5 (dget dX8_asked 117 rfl) rfl ?_
            refine tq_if_eq (tgt := 238) (dget dX8_asked 118 rfl) (by decide) (fun c_217 => ?_) (fun c_217 => ?_)
            · refine tq_aload_n 6 (dget dX8_asked 129 rfl) rfl rfl ?_
              refine tq_getR (dget dX8_asked 130 rfl) fX8_37 rfl rfl ?_
              refine tq_iload_n 7 (dget dX8_asked 131 rfl) rfl rfl ?_
              refine tq_dup2 (dget dX8_asked 132 rfl) rfl rfl ?_
              refine tq_ialdN m (dget dX8_asked 133 rfl) rfl (by decide) rfl (by omega) ?_
              refine tq_iload 5 (dget dX8_asked 134 rfl) rfl ?_
              refine tq_if_eq (tgt := 254) (dget dX8_asked 135 rfl) (by decide) (fun c_247 => ?_) (fun c_247 => ?_)
              · refine tq_iconst (v := 0) (dget dX8_asked 138 rfl) rfl ?_
                refine tq_iadd (dget dX8_asked 139 rfl) ?_
                refine tq_iastN m (dget dX8_asked 140 rfl) rfl (by decide) rfl (by omega) ?_
                refine tq_iinc (v := (nI (y + 1))) (ls2 := [(11, .int (nI (y + 1))), (8, .int (bestF (σ 42 6) (fun j => σ 44 (6 * m + w j)) y)), (13, .int (σ 44 (6 * m + w y))), (12, .int (nI (w y))), (9, .int md), (10, .int 0), (0, .ref 42), (1, .int (nI m)), (2, .int (nI kk)), (3, .int l), (4, .int (nI a)), (5, .int (nI N)), (6, .int z)]) 3 (dget dX8_asked 141 rfl) rfl (nI_1 y) (by decide) rfl ?_
                refine tq_goto (tgt := 152) (dget dX8_asked 142 rfl) (by decide) ?_
                refine tq_sub [0, 1, 4, 5, 6, 7, 8, 9, 10, 11, 12] (ls' := [(11, .int (nI (y + 1))), (8, .int (bestF (σ 42 6) (fun j => σ 44 (6 * m + w j)) y)), (9, .int md), (10, .int 0), (0, .ref 42), (1, .int (nI m)), (2, .int (nI kk)), (3, .int l), (4, .int (nI a)), (5, .int (nI N)), (6, .int z)]) rfl ?_
                rw [show (bestF (σ 42 6) (fun j => σ 44 (6 * m + w j)) y) = bestF (σ 42 6) (fun j => σ 44 (6 * m + w j)) (y + 1) by rw [bestF, if_pos (Int32.not_lt.mp c_196), if_neg (Int32.not_lt.mpr c_203)]]
                exact ih (y + 1) md 0 _ (by omega) (by omega) (hT.up52 hm4 _) (Or.inr ⟨rfl, j0, by omega, f1, f2, f3⟩) hQ
              · exact absurd c_247 (by decide)
            · exact absurd c_217 (by decide)
          · refine tq_iload 0 (dget dX8_asked 113 rfl) rfl ?_
            refine tq_goto (tgt := 213) (dget dX8_asked 114 rfl) (by decide) ?_
            refine tq_istore (ls2 := [(8, .int (σ 44 (6 * m + w y))), (13, .int (σ 44 (6 * m + w y))), (12, .int (nI (w y))), (11, .int (nI y)), (9, .int md), (10, .int 0), (0, .ref 42), (1, .int (nI m)), (2, .int (nI kk)), (3, .int l), (4, .int (nI a)), (5, .int (nI N)), (6, .int z)]) (dget dX8_asked 116 rfl) (by decide) rfl ?_
            refine tq_iload 5 (dget dX8_asked 117 rfl) rfl ?_
            refine tq_if_eq (tgt := 238) (dget dX8_asked 118 rfl) (by decide) (fun c_217 => ?_) (fun c_217 => ?_)
            · refine tq_aload_n 6 (dget dX8_asked 129 rfl) rfl rfl ?_
              refine tq_getR (dget dX8_asked 130 rfl) fX8_37 rfl rfl ?_
              refine tq_iload_n 7 (dget dX8_asked 131 rfl) rfl rfl ?_
              refine tq_dup2 (dget dX8_asked 132 rfl) rfl rfl ?_
              refine tq_ialdN m (dget dX8_asked 133 rfl) rfl (by decide) rfl (by omega) ?_
              refine tq_iload 5 (dget dX8_asked 134 rfl) rfl ?_
              refine tq_if_eq (tgt := 254) (dget dX8_asked 135 rfl) (by decide) (fun c_247 => ?_) (fun c_247 => ?_)
              · refine tq_iconst (v := 0) (dget dX8_asked 138 rfl) rfl ?_
                refine tq_iadd (dget dX8_asked 139 rfl) ?_
                refine tq_iastN m (dget dX8_asked 140 rfl) rfl (by decide) rfl (by omega) ?_
                refine tq_iinc (v := (nI (y + 1))) (ls2 := [(11, .int (nI (y + 1))), (8, .int (σ 44 (6 * m + w y))), (13, .int (σ 44 (6 * m + w y))), (12, .int (nI (w y))), (9, .int md), (10, .int 0), (0, .ref 42), (1, .int (nI m)), (2, .int (nI kk)), (3, .int l), (4, .int (nI a)), (5, .int (nI N)), (6, .int z)]) 3 (dget dX8_asked 141 rfl) rfl (nI_1 y) (by decide) rfl ?_
                refine tq_goto (tgt := 152) (dget dX8_asked 142 rfl) (by decide) ?_
                refine tq_sub [0, 1, 4, 5, 6, 7, 8, 9, 10, 11, 12] (ls' := [(11, .int (nI (y + 1))), (8, .int (σ 44 (6 * m + w y))), (9, .int md), (10, .int 0), (0, .ref 42), (1, .int (nI m)), (2, .int (nI kk)), (3, .int l), (4, .int (nI a)), (5, .int (nI N)), (6, .int z)]) rfl ?_
                rw [show (σ 44 (6 * m + w y)) = bestF (σ 42 6) (fun j => σ 44 (6 * m + w j)) (y + 1) by rw [bestF, if_pos (Int32.not_lt.mp c_196), if_pos (Int32.not_le.mp c_203)]]
                exact ih (y + 1) md 0 _ (by omega) (by omega) (hT.up52 hm4 _) (Or.inr ⟨rfl, j0, by omega, f1, f2, f3⟩) hQ
              · exact absurd c_247 (by decide)
            · exact absurd c_217 (by decide)
set_option maxHeartbeats 4000000 in
set_option maxRecDepth 20000 in
theorem k_asked (σ : Mem) (S M : Nat) (hV : VM σ S M) (hz : szOK σ) (hkd : kOK σ M) (x k l i n z : Int32) (d : Nat) (hd : 2 ≤ d) : PMet d mX8_asked [.ref 42, .int x, .int k, .int l, .int i, .int n, .int z] σ (Pi (fun v σ2 => v = cnd (hMm σ x) (cnd (isSh k) (cnd (isLn l) (cnd (z = 0 ∨ z = 1) (cnd (fcM σ k l i n = 0) (cnd (1 ≤ n ∧ n ≤ 8) (cnd (∀ j, j < cl n → hSm σ (ceM σ k i j)) (cnd (z = 0) (bestF (σ 42 6) (aqFm σ x k i) (cl n)) (mndR (aqPm σ x k i) (aqFm σ x k i) (cl n) 0)) (-1)) (-2)) (-10 - fcM σ k l i n)) (-2)) (-2)) (-1)) (-1) ∧ ∃ τ, SC σ τ ∧ σ2 = up τ 42 0 (cnd (hMm σ x) (cnd (isSh k) (cnd (isLn l) (cnd (z = 0 ∨ z = 1) (fcM σ k l i n) 0) 0) 0) 0))) := by
  obtain ⟨d, rfl⟩ : ∃ e, d = e + 1 := ⟨d - 1, by omega⟩
  refine PMet.start (ls0 := [(0, .ref 42), (1, .int x), (2, .int k), (3, .int l), (4, .int i), (5, .int n), (6, .int z)]) miX8_asked.1 (Nat.le_of_ble_eq_true rfl) rfl ?_
  refine tq_aload_n 0 (dget dX8_asked 0 rfl) rfl rfl ?_
  refine tq_iload_n 1 (dget dX8_asked 1 rfl) rfl rfl ?_
  refine mq_Vi (As := [.int x]) (rest := []) (dget dX8_asked 2 rfl) lX8_152 miX8_noMaid (k_noMaid σ S M hV x d (by omega)) rfl rfl rfl rfl (Nat.le_of_ble_eq_true rfl) (Nat.le_of_ble_eq_true rfl) (fun r_2 σ_2 h_2 => ?_)
  obtain ⟨b_2, e_2⟩ := h_2
  obtain rfl := e_2.symm
  refine tq_if_ne (tgt := 15) (dget dX8_asked 3 rfl) (by decide) (fun c_5 => ?_) (fun c_5 => ?_)
  · refine tq_aload_n 0 (dget dX8_asked 7 rfl) rfl rfl ?_
    refine tq_iconst (v := (-1)) (dget dX8_asked 8 rfl) rfl ?_
    refine mq_Vi (As := [.int (-1)]) (rest := []) (dget dX8_asked 9 rfl) lX8_131 miX8_refused (k_refused σ (-1) d (by omega)) rfl rfl rfl rfl (Nat.le_of_ble_eq_true rfl) (Nat.le_of_ble_eq_true rfl) (fun r_17 σ_17 h_17 => ?_)
    obtain ⟨a_17, e_17⟩ := h_17
    rw [a_17]
    obtain rfl := e_17.symm
    exact tq_iret rfl (dget dX8_asked 10 rfl) ⟨_, rfl, by simp only [cnd_f (P := hMm σ x) (b_2.t c_5)], σ, SC.rf σ, by simp only [cnd_f (P := hMm σ x) (b_2.t c_5)]⟩
  · refine tq_iload_n 2 (dget dX8_asked 4 rfl) rfl rfl ?_
    refine mq_Si (As := [.int k]) (rest := []) (dget dX8_asked 5 rfl) lX8_127 miX8_noSheet (k_noSheet σ k d (by omega)) rfl rfl (Nat.le_of_ble_eq_true rfl) (Nat.le_of_ble_eq_true rfl) (fun r_9 σ_9 h_9 => ?_)
    obtain ⟨b_9, e_9⟩ := h_9
    obtain rfl := e_9.symm
    refine tq_if_eq (tgt := 21) (dget dX8_asked 6 rfl) (by decide) (fun c_12 => ?_) (fun c_12 => ?_)
    · obtain ⟨m, e_m, hm, hm4⟩ := hMm_n hV (Classical.not_not.mp (b_2.f c_5))
      subst e_m
      obtain ⟨kk, e_kk, hkk⟩ := isSh_n (Classical.not_not.mp (b_9.f c_12))
      subst e_kk
      obtain ⟨j, hj, hk⟩ := hkd m hm
      refine tq_iload_n 3 (dget dX8_asked 11 rfl) rfl rfl ?_
      refine tq_i2l (dget dX8_asked 12 rfl) ?_
      refine tq_lconst (v := 0) (dget dX8_asked 13 rfl) rfl ?_
      refine tq_ldc2 (v := 2) (dget dX8_asked 14 rfl) (tblG_3 226 rfl rfl) ?_
      refine mq_Si (As := [.long (l).toInt64, .long 0, .long 2]) (rest := []) (dget dX8_asked 15 rfl) lX8_84 miX8_in (k_in σ (l).toInt64 0 2 d (by omega)) rfl rfl (Nat.le_of_ble_eq_true rfl) (Nat.le_of_ble_eq_true rfl) (fun r_27 σ_27 h_27 => ?_)
      obtain ⟨b_27, e_27⟩ := h_27
      obtain rfl := e_27.symm
      have b_27 := b_27.iff in2
      refine tq_if_eq (tgt := 44) (dget dX8_asked 16 rfl) (by decide) (fun c_30 => ?_) (fun c_30 => ?_)
      · refine tq_aload_n 0 (dget dX8_asked 23 rfl) rfl rfl ?_
        refine tq_bipush (v := (-2)) (dget dX8_asked 24 rfl) rfl ?_
        refine mq_Vi (As := [.int (-2)]) (rest := []) (dget dX8_asked 25 rfl) lX8_131 miX8_refused (k_refused σ (-2) d (by omega)) rfl rfl rfl rfl (Nat.le_of_ble_eq_true rfl) (Nat.le_of_ble_eq_true rfl) (fun r_47 σ_47 h_47 => ?_)
        obtain ⟨a_47, e_47⟩ := h_47
        rw [a_47]
        obtain rfl := e_47.symm
        exact tq_iret rfl (dget dX8_asked 26 rfl) ⟨_, rfl, by simp only [cnd_t (P := hMm σ (nI m)) (Classical.not_not.mp (b_2.f c_5)), cnd_t (P := isSh (nI kk)) (Classical.not_not.mp (b_9.f c_12)), cnd_f (P := isLn l) (b_27.f c_30)], σ, SC.rf σ, by simp only [cnd_t (P := hMm σ (nI m)) (Classical.not_not.mp (b_2.f c_5)), cnd_t (P := isSh (nI kk)) (Classical.not_not.mp (b_9.f c_12)), cnd_f (P := isLn l) (b_27.f c_30)]⟩
      · refine tq_iload 6 (dget dX8_asked 17 rfl) rfl ?_
        refine tq_i2l (dget dX8_asked 18 rfl) ?_
        refine tq_lconst (v := 0) (dget dX8_asked 19 rfl) rfl ?_
        refine tq_lconst (v := 1) (dget dX8_asked 20 rfl) rfl ?_
        refine mq_Si (As := [.long (z).toInt64, .long 0, .long 1]) (rest := []) (dget dX8_asked 21 rfl) lX8_84 miX8_in (k_in σ (z).toInt64 0 1 d (by omega)) rfl rfl (Nat.le_of_ble_eq_true rfl) (Nat.le_of_ble_eq_true rfl) (fun r_38 σ_38 h_38 => ?_)
        obtain ⟨b_38, e_38⟩ := h_38
        obtain rfl := e_38.symm
        have b_38 := b_38.iff in01
        refine tq_if_ne (tgt := 51) (dget dX8_asked 22 rfl) (by decide) (fun c_41 => ?_) (fun c_41 => ?_)
        · refine tq_aload_n 0 (dget dX8_asked 27 rfl) rfl rfl ?_
          refine tq_iload_n 2 (dget dX8_asked 28 rfl) rfl rfl ?_
          refine tq_iload_n 3 (dget dX8_asked 29 rfl) rfl rfl ?_
          refine tq_iload 4 (dget dX8_asked 30 rfl) rfl ?_
          refine tq_iload 5 (dget dX8_asked 31 rfl) rfl ?_
          refine tq_i2l (dget dX8_asked 32 rfl) ?_
          refine mq_Vi (As := [.int (nI kk), .int l, .int i, .long (n).toInt64]) (rest := []) (dget dX8_asked 33 rfl) lX8_136 miX8_cellsBarred (k_cellsBarred σ hz kk hkk l i n d (by omega)) rfl rfl rfl rfl (Nat.le_of_ble_eq_true rfl) (Nat.le_of_ble_eq_true rfl) (fun r_59 σ_59 h_59 => ?_)
          obtain ⟨a_59, e_59⟩ := h_59
          rw [a_59]
          obtain rfl := e_59.symm
          refine tq_istore (ls2 := [(7, .int (cnd (fcM σ (nI kk) l i n = 0) 0 (-10 - fcM σ (nI kk) l i n))), (0, .ref 42), (1, .int (nI m)), (2, .int (nI kk)), (3, .int l), (4, .int i), (5, .int n), (6, .int z)]) (dget dX8_asked 34 rfl) (by decide) rfl ?_
          refine tq_iload 0 (dget dX8_asked 35 rfl) rfl ?_
          refine tq_if_ge (tgt := 72) (dget dX8_asked 36 rfl) (by decide) (fun c_66 => ?_) (fun c_66 => ?_)
          · have gF : fcM σ (nI kk) l i n = 0 := Classical.not_not.mp (fun q => absurd ((cb_neg _ (fc_range _ _ _ _ _ _)).mpr q) (Int32.not_lt.mpr c_66))
            refine tq_mem (cnd_t gF _ _) ?_
            refine tq_iload 6 (dget dX8_asked 39 rfl) rfl ?_
            refine tq_i2l (dget dX8_asked 40 rfl) ?_
            refine tq_lconst (v := 1) (dget dX8_asked 41 rfl) rfl ?_
            refine tq_ldc2 (v := 8) (dget dX8_asked 42 rfl) (tblG_4 91 rfl rfl) ?_
            refine mq_Si (As := [.long (n).toInt64, .long 1, .long 8]) (rest := []) (dget dX8_asked 43 rfl) lX8_84 miX8_in (k_in σ (n).toInt64 1 8 d (by omega)) rfl rfl (Nat.le_of_ble_eq_true rfl) (Nat.le_of_ble_eq_true rfl) (fun r_79 σ_79 h_79 => ?_)
            obtain ⟨b_79, e_79⟩ := h_79
            obtain rfl := e_79.symm
            have b_79 := b_79.iff in18
            refine tq_if_ne (tgt := 92) (dget dX8_asked 44 rfl) (by decide) (fun c_82 => ?_) (fun c_82 => ?_)
            · have g0 := fcM_n gF
              rw [show cl (nI kk) = kk from nI_clamp (by omega)] at g0
              obtain ⟨L, hL, eL⟩ := (hz kk hkk).resolve_left (fun e => by rw [e] at g0; exact absurd (Int32.le_trans g0.1 g0.2.1) (by decide))
              obtain ⟨a, N, e_a, e_N, haN⟩ := cells_n g0 eL hL
              subst e_a
              subst e_N
              have hN8 : N ≤ 8 := kle (b := 8) (by omega) (by decide) (b_79.t c_82).2
              have hcm : cl (nI m) = m := nI_clamp (by omega)
              have hck : cl (nI kk) = kk := nI_clamp (by omega)
              have hca : cl (nI a) = a := nI_clamp (by omega)
              have hcN : cl (nI N) = N := nI_clamp (by omega)
              refine tq_iconst (v := 0) (dget dX8_asked 49 rfl) rfl ?_
              refine tq_istore (ls2 := [(8, .int 0), (7, .int (cnd (fcM σ (nI kk) l (nI a) (nI N) = 0) 0 (-10 - fcM σ (nI kk) l (nI a) (nI N)))), (0, .ref 42), (1, .int (nI m)), (2, .int (nI kk)), (3, .int l), (4, .int (nI a)), (5, .int (nI N)), (6, .int z)]) (dget dX8_asked 50 rfl) (by decide) rfl ?_
              refine tq_sub [0, 2, 3, 4, 5, 6, 7, 8] (ls' := [(8, .int (nI 0)), (0, .ref 42), (1, .int (nI m)), (2, .int (nI kk)), (3, .int l), (4, .int (nI a)), (5, .int (nI N)), (6, .int z)]) rfl ?_
              simp only [cnd_t (P := hMm σ (nI m)) (Classical.not_not.mp (b_2.f c_5)), cnd_t (P := isSh (nI kk)) (Classical.not_not.mp (b_9.f c_12)), cnd_t (P := isLn l) (b_27.t c_30), cnd_t (P := z = 0 ∨ z = 1) (b_38.t c_41), cnd_t (P := fcM σ (nI kk) l (nI a) (nI N) = 0) gF, cnd_t (P := 1 ≤ nI N ∧ nI N ≤ 8) (b_79.t c_82), gF, hcN, ceM, aqPm, aqFm, hcm, hck, hca]
              refine k_asked_a σ S M kk a N m hV hkk (by omega) hN8 hm4 _ l z (d + 1) (by omega) (N + 1) 0 (by omega) (by omega) (fun j hj => absurd hj (by omega)) (fun hb => ⟨by rw [cnd_f hb]; exact (cnd_t trivial _ _).symm, σ, SC.rf σ, rfl⟩) (fun hg => ?_)
              have hw : ∀ j2, j2 < N → σ 61 (100 * kk + a + j2) = nI (cl (σ 61 (100 * kk + a + j2))) ∧ cl (σ 61 (100 * kk + a + j2)) < 6 := fun j2 h2 => by
                obtain ⟨s, e1, e2, e3⟩ := hSm_n hV (hg j2 h2)
                rw [e1, show cl (nI s) = s from nI_clamp (by omega)]
                exact ⟨rfl, e3⟩
              refine tq_iconst (v := 0) (dget dX8_asked 73 rfl) rfl ?_
              refine tq_istore (ls2 := [(8, .int 0), (0, .ref 42), (1, .int (nI m)), (2, .int (nI kk)), (3, .int l), (4, .int (nI a)), (5, .int (nI N)), (6, .int z)]) (dget dX8_asked 74 rfl) (by decide) rfl ?_
              refine tq_iconst (v := 0) (dget dX8_asked 75 rfl) rfl ?_
              refine tq_istore (ls2 := [(9, .int 0), (8, .int 0), (0, .ref 42), (1, .int (nI m)), (2, .int (nI kk)), (3, .int l), (4, .int (nI a)), (5, .int (nI N)), (6, .int z)]) (dget dX8_asked 76 rfl) (by decide) rfl ?_
              refine tq_iconst (v := 1) (dget dX8_asked 77 rfl) rfl ?_
              refine tq_istore (ls2 := [(10, .int 1), (9, .int 0), (8, .int 0), (0, .ref 42), (1, .int (nI m)), (2, .int (nI kk)), (3, .int l), (4, .int (nI a)), (5, .int (nI N)), (6, .int z)]) (dget dX8_asked 78 rfl) (by decide) rfl ?_
              refine tq_aload_n 3 (dget dX8_asked 79 rfl) rfl rfl ?_
              refine mq_Vv (As := []) (rest := []) (dget dX8_asked 80 rfl) lX8_169 miX8_begin (k_begin σ d (by omega)) rfl rfl rfl rfl (Nat.le_of_ble_eq_true rfl) (Nat.le_of_ble_eq_true rfl) (fun σ_146 h_146 => ?_)
              obtain rfl := Eq.symm h_146
              refine tq_iconst (v := 0) (dget dX8_asked 81 rfl) rfl ?_
              refine tq_istore (ls2 := [(11, .int 0), (10, .int 1), (9, .int 0), (8, .int 0), (0, .ref 42), (1, .int (nI m)), (2, .int (nI kk)), (3, .int l), (4, .int (nI a)), (5, .int (nI N)), (6, .int z)]) (dget dX8_asked 82 rfl) (by decide) rfl ?_
              refine tq_sub [0, 3, 2, 1, 4, 5, 6, 7, 8, 9, 10] (ls' := [(11, .int 0), (8, .int 0), (9, .int 0), (10, .int 1), (0, .ref 42), (1, .int (nI m)), (2, .int (nI kk)), (3, .int l), (4, .int (nI a)), (5, .int (nI N)), (6, .int z)]) rfl ?_
              have ef : (fun j => σ 44 (6 * m + cl (σ 61 (100 * kk + a + j)))) = aqFm σ (nI m) (nI kk) (nI a) := by
                funext j2; show _ = σ 44 (6 * cl (nI m) + cl (σ 61 (100 * cl (nI kk) + cl (nI a) + j2))); rw [hcm, hck, hca]
              have ep : (fun j => ¬ansF (σ 42 6) (σ 43 m) (σ 44 (6 * m + cl (σ 61 (100 * kk + a + j)))) (nI j) = 3) = aqPm σ (nI m) (nI kk) (nI a) := by
                funext j2; show _ = (¬ansF (σ 42 6) (σ 43 (cl (nI m))) (σ 44 (6 * cl (nI m) + cl (σ 61 (100 * cl (nI kk) + cl (nI a) + j2)))) (nI j2) = 3); rw [hcm, hck, hca]
              exact k_asked_b σ S M kk a N m hV hkk (by omega) hN8 hm4 _ l z (fun j2 => cl (σ 61 (100 * kk + a + j2))) hw j hk hj (d + 1) (by omega) (N + 1) 0 0 1 (begM σ) (by omega) (by omega) (SC.beg σ) (Or.inl ⟨rfl, rfl, fun j2 h2 => absurd h2 (by omega), by rw [begM_52]; exact if_pos hm4⟩) (fun τ2 h2 => ⟨by rw [cnd_t hg, cnd_t trivial, ef, ep], τ2, h2, rfl⟩)
            · refine tq_aload_n 1 (dget dX8_asked 45 rfl) rfl rfl ?_
              refine tq_bipush (v := (-2)) (dget dX8_asked 46 rfl) rfl ?_
              refine mq_Vi (As := [.int (-2)]) (rest := []) (dget dX8_asked 47 rfl) lX8_131 miX8_refused (k_refused σ (-2) d (by omega)) rfl rfl rfl rfl (Nat.le_of_ble_eq_true rfl) (Nat.le_of_ble_eq_true rfl) (fun r_88 σ_88 h_88 => ?_)
              obtain ⟨a_88, e_88⟩ := h_88
              rw [a_88]
              obtain rfl := e_88.symm
              exact tq_iret rfl (dget dX8_asked 48 rfl) ⟨_, rfl, by simp only [cnd_t (P := hMm σ (nI m)) (Classical.not_not.mp (b_2.f c_5)), cnd_t (P := isSh (nI kk)) (Classical.not_not.mp (b_9.f c_12)), cnd_t (P := isLn l) (b_27.t c_30), cnd_t (P := z = 0 ∨ z = 1) (b_38.t c_41), cnd_t (P := fcM σ (nI kk) l i n = 0) gF, cnd_f (P := 1 ≤ n ∧ n ≤ 8) (b_79.f c_82), gF, cnd_t (P := True) trivial], σ, SC.rf σ, by simp only [cnd_t (P := hMm σ (nI m)) (Classical.not_not.mp (b_2.f c_5)), cnd_t (P := isSh (nI kk)) (Classical.not_not.mp (b_9.f c_12)), cnd_t (P := isLn l) (b_27.t c_30), cnd_t (P := z = 0 ∨ z = 1) (b_38.t c_41), cnd_t (P := fcM σ (nI kk) l i n = 0) gF, cnd_f (P := 1 ≤ n ∧ n ≤ 8) (b_79.f c_82), gF, cnd_t (P := True) trivial]⟩
          · have gF : ¬ fcM σ (nI kk) l i n = 0 := (cb_neg _ (fc_range _ _ _ _ _ _)).mp (Int32.not_le.mp c_66)
            rw [show cnd (fcM σ (nI kk) l i n = 0) 0 (-10 - fcM σ (nI kk) l i n) = -10 - fcM σ (nI kk) l i n from cnd_f gF _ _]
            refine tq_mem (cnd_f gF _ _) ?_
            refine tq_iload 0 (dget dX8_asked 37 rfl) rfl ?_
            exact tq_iret rfl (dget dX8_asked 38 rfl) ⟨_, rfl, by simp only [cnd_t (P := hMm σ (nI m)) (Classical.not_not.mp (b_2.f c_5)), cnd_t (P := isSh (nI kk)) (Classical.not_not.mp (b_9.f c_12)), cnd_t (P := isLn l) (b_27.t c_30), cnd_t (P := z = 0 ∨ z = 1) (b_38.t c_41), cnd_f (P := fcM σ (nI kk) l i n = 0) gF], σ, SC.rf σ, by simp only [cnd_t (P := hMm σ (nI m)) (Classical.not_not.mp (b_2.f c_5)), cnd_t (P := isSh (nI kk)) (Classical.not_not.mp (b_9.f c_12)), cnd_t (P := isLn l) (b_27.t c_30), cnd_t (P := z = 0 ∨ z = 1) (b_38.t c_41), cnd_f (P := fcM σ (nI kk) l i n = 0) gF]⟩
        · refine tq_aload_n 0 (dget dX8_asked 23 rfl) rfl rfl ?_
          refine tq_bipush (v := (-2)) (dget dX8_asked 24 rfl) rfl ?_
          refine mq_Vi (As := [.int (-2)]) (rest := []) (dget dX8_asked 25 rfl) lX8_131 miX8_refused (k_refused σ (-2) d (by omega)) rfl rfl rfl rfl (Nat.le_of_ble_eq_true rfl) (Nat.le_of_ble_eq_true rfl) (fun r_47 σ_47 h_47 => ?_)
          obtain ⟨a_47, e_47⟩ := h_47
          rw [a_47]
          obtain rfl := e_47.symm
          exact tq_iret rfl (dget dX8_asked 26 rfl) ⟨_, rfl, by simp only [cnd_t (P := hMm σ (nI m)) (Classical.not_not.mp (b_2.f c_5)), cnd_t (P := isSh (nI kk)) (Classical.not_not.mp (b_9.f c_12)), cnd_t (P := isLn l) (b_27.t c_30), cnd_f (P := z = 0 ∨ z = 1) (b_38.f c_41)], σ, SC.rf σ, by simp only [cnd_t (P := hMm σ (nI m)) (Classical.not_not.mp (b_2.f c_5)), cnd_t (P := isSh (nI kk)) (Classical.not_not.mp (b_9.f c_12)), cnd_t (P := isLn l) (b_27.t c_30), cnd_f (P := z = 0 ∨ z = 1) (b_38.f c_41)]⟩
    · refine tq_aload_n 0 (dget dX8_asked 7 rfl) rfl rfl ?_
      refine tq_iconst (v := (-1)) (dget dX8_asked 8 rfl) rfl ?_
      refine mq_Vi (As := [.int (-1)]) (rest := []) (dget dX8_asked 9 rfl) lX8_131 miX8_refused (k_refused σ (-1) d (by omega)) rfl rfl rfl rfl (Nat.le_of_ble_eq_true rfl) (Nat.le_of_ble_eq_true rfl) (fun r_17 σ_17 h_17 => ?_)
      obtain ⟨a_17, e_17⟩ := h_17
      rw [a_17]
      obtain rfl := e_17.symm
      exact tq_iret rfl (dget dX8_asked 10 rfl) ⟨_, rfl, by simp only [cnd_t (P := hMm σ x) (Classical.not_not.mp (b_2.f c_5)), cnd_f (P := isSh k) (b_9.t c_12)], σ, SC.rf σ, by simp only [cnd_t (P := hMm σ x) (Classical.not_not.mp (b_2.f c_5)), cnd_f (P := isSh k) (b_9.t c_12)]⟩

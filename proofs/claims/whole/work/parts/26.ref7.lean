/-! ===== the reference (7): learnt, kinds, parts ===== -/
def soLm (σ : Mem) (C m s : Nat) (lk : Int32) : Prop := ∀ k, k < C → σ 55 k = nI m → σ 56 k = nI s → isoP (σ 58 k) (σ 43 m) (σ 57 k) lk
def soKm (σ : Mem) (C m : Nat) (w : Nat → Nat) (kind : Int32) : Prop := ∀ k, k < C → σ 55 k = nI m → isoP (σ 58 k) kind (σ 57 k) (σ 44 (6 * m + w k))
noncomputable def frR (P : Nat → Prop) : Nat → Int32
  | 0 => -9
  | k + 1 => cnd (P k ∧ frR P k < 0) (nI k) (frR P k)
theorem frR_cases (P : Nat → Prop) : ∀ k, k ≤ 10 → (frR P k = -9 ∧ ∀ i, i < k → ¬ P i) ∨ ∃ j, j < k ∧ frR P k = nI j ∧ P j ∧ ∀ i, i < j → ¬ P i
  | 0, _ => Or.inl ⟨rfl, fun i hi => absurd hi (by omega)⟩
  | k + 1, hk => by
    have ih := frR_cases P k (by omega)
    by_cases c : P k ∧ frR P k < 0
    · have e : frR P (k + 1) = nI k := cnd_t c _ _
      rcases ih with ⟨_, h⟩ | ⟨j, h1, h2, h3, h4⟩
      · exact Or.inr ⟨k, by omega, e, c.1, h⟩
      · rw [h2] at c
        exact absurd c.2 (nI_pos (by omega))
    · have e : frR P (k + 1) = frR P k := cnd_f c _ _
      rw [e]
      rcases ih with ⟨h1, h⟩ | ⟨j, h1, h2, h3, h4⟩
      · refine Or.inl ⟨h1, fun i hi => ?_⟩
        by_cases q : i = k
        · subst q; exact fun z => c ⟨z, by rw [h1]; decide⟩
        · exact h i (by omega)
      · exact Or.inr ⟨j, by omega, h2, h3, h4⟩
theorem frR_ls (P : Nat → Prop) : frR P 10 = lsR P 10 0 := by
  refine ll_eq ?_
  rcases frR_cases P 10 (Nat.le_refl _) with ⟨h1, h⟩ | ⟨j, h1, h2, h3, h4⟩
  · exact Or.inr ⟨h1, h⟩
  · exact Or.inl ⟨j, h1, h2, h3, h4⟩
theorem gsR_y {P : Nat → Prop} {k : Nat} (h : P k) : gsR P (k + 1) = nI k := cnd_t h _ _
theorem gsR_n {P : Nat → Prop} {k : Nat} (h : ¬ P k) : gsR P (k + 1) = gsR P k := cnd_f h _ _

set_option maxHeartbeats 4000000 in
set_option maxRecDepth 20000 in
theorem k_isSo (σ : Mem) (k : Nat) (kind lk : Int32) (hk : k < 8) (j : Nat) (hk2 : kind = nI j) (hj : j < 3) (d : Nat) (hd : 1 ≤ d) : PMet d mX8_isSo [.ref 42, .int (nI k), .int kind, .int lk] σ (Pi (fun v σ2 => BP (isoP (σ 58 k) kind (σ 57 k) lk) v ∧ σ2 = σ)) := by
  obtain ⟨d, rfl⟩ : ∃ e, d = e + 1 := ⟨d - 1, by omega⟩
  refine PMet.start (ls0 := [(0, .ref 42), (1, .int (nI k)), (2, .int kind), (3, .int lk)]) miX8_isSo.1 (Nat.le_of_ble_eq_true rfl) rfl ?_
  refine tq_iload_n 3 (dget dX8_isSo 0 rfl) rfl rfl ?_
  refine tq_iload_n 2 (dget dX8_isSo 1 rfl) rfl rfl ?_
  refine tq_aload_n 0 (dget dX8_isSo 2 rfl) rfl rfl ?_
  refine tq_getR (dget dX8_isSo 3 rfl) fX8_52 rfl rfl ?_
  refine tq_iload_n 1 (dget dX8_isSo 4 rfl) rfl rfl ?_
  refine tq_ialdN k (dget dX8_isSo 5 rfl) rfl (by decide) rfl (by omega) ?_
  refine mq_Si (As := [.int kind, .int (σ 57 k)]) (rest := [.int lk]) (dget dX8_isSo 6 rfl) lX8_163 miX8_mindOf (k_mindOf σ kind (σ 57 k) j hk2 hj d (by omega)) rfl rfl (Nat.le_of_ble_eq_true rfl) (Nat.le_of_ble_eq_true rfl) (fun r_8 σ_8 h_8 => ?_)
  obtain ⟨a_8, e_8⟩ := h_8
  obtain rfl := a_8.symm
  obtain rfl := e_8.symm
  refine tq_icmp_lt (tgt := 18) (dget dX8_isSo 7 rfl) (by decide) (fun c_11 => ?_) (fun c_11 => ?_)
  · refine tq_iconst (v := 0) (dget dX8_isSo 10 rfl) rfl ?_
    refine tq_aload_n 0 (dget dX8_isSo 11 rfl) rfl rfl ?_
    refine tq_getR (dget dX8_isSo 12 rfl) fX8_55 rfl rfl ?_
    refine tq_iload_n 1 (dget dX8_isSo 13 rfl) rfl rfl ?_
    refine tq_zaldN k (dget dX8_isSo 14 rfl) rfl (by decide) rfl (by omega) ?_
    refine tq_icmp_ne (tgt := 32) (dget dX8_isSo 15 rfl) (by decide) (fun c_25 => ?_) (fun c_25 => ?_)
    · refine tq_iconst (v := 0) (dget dX8_isSo 18 rfl) rfl ?_
      exact tq_zret rfl rfl (dget dX8_isSo 19 rfl) ⟨_, rfl, BP.n (by unfold isoP; rw [if_neg (Int32.not_le.mpr c_11)]; exact fun q => c_25 q.symm), rfl⟩
    · refine tq_iconst (v := 1) (dget dX8_isSo 16 rfl) rfl ?_
      refine tq_goto (tgt := 33) (dget dX8_isSo 17 rfl) (by decide) ?_
      exact tq_zret rfl rfl (dget dX8_isSo 19 rfl) ⟨_, rfl, BP.y (by unfold isoP; rw [if_neg (Int32.not_le.mpr c_11)]; exact c_25.symm), rfl⟩
  · refine tq_iconst (v := 1) (dget dX8_isSo 8 rfl) rfl ?_
    refine tq_goto (tgt := 19) (dget dX8_isSo 9 rfl) (by decide) ?_
    refine tq_aload_n 0 (dget dX8_isSo 11 rfl) rfl rfl ?_
    refine tq_getR (dget dX8_isSo 12 rfl) fX8_55 rfl rfl ?_
    refine tq_iload_n 1 (dget dX8_isSo 13 rfl) rfl rfl ?_
    refine tq_zaldN k (dget dX8_isSo 14 rfl) rfl (by decide) rfl (by omega) ?_
    refine tq_icmp_ne (tgt := 32) (dget dX8_isSo 15 rfl) (by decide) (fun c_25 => ?_) (fun c_25 => ?_)
    · refine tq_iconst (v := 0) (dget dX8_isSo 18 rfl) rfl ?_
      exact tq_zret rfl rfl (dget dX8_isSo 19 rfl) ⟨_, rfl, BP.n (by unfold isoP; rw [if_pos (Int32.not_lt.mp c_11)]; exact fun q => c_25 q.symm), rfl⟩
    · refine tq_iconst (v := 1) (dget dX8_isSo 16 rfl) rfl ?_
      refine tq_goto (tgt := 33) (dget dX8_isSo 17 rfl) (by decide) ?_
      exact tq_zret rfl rfl (dget dX8_isSo 19 rfl) ⟨_, rfl, BP.y (by unfold isoP; rw [if_pos (Int32.not_lt.mp c_11)]; exact c_25.symm), rfl⟩
set_option maxHeartbeats 4000000 in
set_option maxRecDepth 20000 in
theorem k_learnt_inner (σ : Mem) (S M R m s : Nat) (z : Int32) (hR : σ 42 20 = nI R) (hR8 : R ≤ 8) (hm4 : m < 4) (j : Nat) (hkd : σ 43 m = nI j) (hj : j < 3) (k : Nat) (hk9 : k < 10) (d : Nat) (hd : 2 ≤ d) : ∀ (n : Nat) (i : Nat) (so : Int32) (hm : R < i + n) (hi : i ≤ R) (hA : BP (soLm σ i m s (nI k)) so) (hout : ∀ so, BP (soLm σ R m s (nI k)) so → PAt (EM d (Pi (fun v σ2 => v = cnd (z = 0) (frR (fun v => soLm σ R m s (nI v)) 10) (gsR (fun v => soLm σ R m s (nI v)) 10) ∧ σ2 = σ))) mX8_learnt 121 [(7, .int so), (4, .int (frR (fun v => soLm σ R m s (nI v)) k)), (5, .int (gsR (fun v => soLm σ R m s (nI v)) k)), (6, .int (nI k)), (0, .ref 42), (1, .int (nI m)), (2, .int (nI s)), (3, .int z)] [] σ), PAt (EM d (Pi (fun v σ2 => v = cnd (z = 0) (frR (fun v => soLm σ R m s (nI v)) 10) (gsR (fun v => soLm σ R m s (nI v)) 10) ∧ σ2 = σ))) mX8_learnt 55 [(8, .int (nI i)), (7, .int so), (4, .int (frR (fun v => soLm σ R m s (nI v)) k)), (5, .int (gsR (fun v => soLm σ R m s (nI v)) k)), (6, .int (nI k)), (0, .ref 42), (1, .int (nI m)), (2, .int (nI s)), (3, .int z)] [] σ := by
  obtain ⟨d, rfl⟩ : ∃ e, d = e + 1 := ⟨d - 1, by omega⟩
  intro n
  induction n with
  | zero => intro i so hm hi hA hout; exact absurd hm (by omega)
  | succ n ih =>
    intro i so hm hi hA hout
    refine tq_iload 0 (dget dX8_learnt 31 rfl) rfl ?_
    refine tq_aload_n 5 (dget dX8_learnt 32 rfl) rfl rfl ?_
    refine tq_getI (dget dX8_learnt 33 rfl) fX8_149 rfl rfl ?_
    refine tq_icmp_ge (tgt := 121) (dget dX8_learnt 34 rfl) (by decide) (fun c_61 => ?_) (fun c_61 => ?_)
    · rw [hR] at c_61
      have g_61 := kle (by omega) (by omega) c_61
      have g_62 : i = R := by omega
      refine tq_sub [1, 2, 3, 4, 5, 6, 7, 8] (ls' := [(7, .int so), (4, .int (frR (fun v => soLm σ R m s (nI v)) k)), (5, .int (gsR (fun v => soLm σ R m s (nI v)) k)), (6, .int (nI k)), (0, .ref 42), (1, .int (nI m)), (2, .int (nI s)), (3, .int z)]) rfl ?_
      rw [g_62] at hA
      exact hout so hA
    · rw [hR] at c_61
      have g_61 := knle (by omega) (by omega) c_61
      refine tq_iload 1 (dget dX8_learnt 35 rfl) rfl ?_
      refine tq_if_eq (tgt := 112) (dget dX8_learnt 36 rfl) (by decide) (fun c_66 => ?_) (fun c_66 => ?_)
      · refine tq_iconst (v := 0) (dget dX8_learnt 60 rfl) rfl ?_
        refine tq_istore (ls2 := [(7, .int 0), (8, .int (nI i)), (4, .int (frR (fun v => soLm σ R m s (nI v)) k)), (5, .int (gsR (fun v => soLm σ R m s (nI v)) k)), (6, .int (nI k)), (0, .ref 42), (1, .int (nI m)), (2, .int (nI s)), (3, .int z)]) (dget dX8_learnt 61 rfl) (by decide) rfl ?_
        refine tq_iinc (v := (nI (i + 1))) (ls2 := [(8, .int (nI (i + 1))), (7, .int 0), (4, .int (frR (fun v => soLm σ R m s (nI v)) k)), (5, .int (gsR (fun v => soLm σ R m s (nI v)) k)), (6, .int (nI k)), (0, .ref 42), (1, .int (nI m)), (2, .int (nI s)), (3, .int z)]) 1 (dget dX8_learnt 62 rfl) rfl (nI_1 i) (by decide) rfl ?_
        refine tq_goto (tgt := 55) (dget dX8_learnt 63 rfl) (by decide) ?_
        refine tq_sub [0, 1, 2, 3, 4, 5, 6, 7, 8] (ls' := [(8, .int (nI (i + 1))), (7, .int 0), (4, .int (frR (fun v => soLm σ R m s (nI v)) k)), (5, .int (gsR (fun v => soLm σ R m s (nI v)) k)), (6, .int (nI k)), (0, .ref 42), (1, .int (nI m)), (2, .int (nI s)), (3, .int z)]) rfl ?_
        exact ih (i + 1) 0 (by omega) (by omega) (BP.n (fun q => hA.f c_66 (fun x hx => q x (by omega)))) hout
      · refine tq_aload_n 5 (dget dX8_learnt 37 rfl) rfl rfl ?_
        refine tq_getR (dget dX8_learnt 38 rfl) fX8_46 rfl rfl ?_
        refine tq_iload 0 (dget dX8_learnt 39 rfl) rfl ?_
        refine tq_ialdN i (dget dX8_learnt 40 rfl) rfl (by decide) rfl (by omega) ?_
        refine tq_iload_n 6 (dget dX8_learnt 41 rfl) rfl rfl ?_
        refine tq_icmp_ne (tgt := 108) (dget dX8_learnt 42 rfl) (by decide) (fun c_77 => ?_) (fun c_77 => ?_)
        · refine tq_iconst (v := 1) (dget dX8_learnt 58 rfl) rfl ?_
          refine tq_goto (tgt := 113) (dget dX8_learnt 59 rfl) (by decide) ?_
          refine tq_istore (ls2 := [(7, .int 1), (8, .int (nI i)), (4, .int (frR (fun v => soLm σ R m s (nI v)) k)), (5, .int (gsR (fun v => soLm σ R m s (nI v)) k)), (6, .int (nI k)), (0, .ref 42), (1, .int (nI m)), (2, .int (nI s)), (3, .int z)]) (dget dX8_learnt 61 rfl) (by decide) rfl ?_
          refine tq_iinc (v := (nI (i + 1))) (ls2 := [(8, .int (nI (i + 1))), (7, .int 1), (4, .int (frR (fun v => soLm σ R m s (nI v)) k)), (5, .int (gsR (fun v => soLm σ R m s (nI v)) k)), (6, .int (nI k)), (0, .ref 42), (1, .int (nI m)), (2, .int (nI s)), (3, .int z)]) 1 (dget dX8_learnt 62 rfl) rfl (nI_1 i) (by decide) rfl ?_
          refine tq_goto (tgt := 55) (dget dX8_learnt 63 rfl) (by decide) ?_
          refine tq_sub [0, 1, 2, 3, 4, 5, 6, 7, 8] (ls' := [(8, .int (nI (i + 1))), (7, .int 1), (4, .int (frR (fun v => soLm σ R m s (nI v)) k)), (5, .int (gsR (fun v => soLm σ R m s (nI v)) k)), (6, .int (nI k)), (0, .ref 42), (1, .int (nI m)), (2, .int (nI s)), (3, .int z)]) rfl ?_
          exact ih (i + 1) 1 (by omega) (by omega) (BP.y (fun x hx => if e : x = i then e ▸ (fun e1 e2 => absurd e1 c_77) else hA.t c_66 x (by omega))) hout
        · refine tq_aload_n 5 (dget dX8_learnt 43 rfl) rfl rfl ?_
          refine tq_getR (dget dX8_learnt 44 rfl) fX8_49 rfl rfl ?_
          refine tq_iload 0 (dget dX8_learnt 45 rfl) rfl ?_
          refine tq_ialdN i (dget dX8_learnt 46 rfl) rfl (by decide) rfl (by omega) ?_
          refine tq_iload_n 7 (dget dX8_learnt 47 rfl) rfl rfl ?_
          refine tq_icmp_ne (tgt := 108) (dget dX8_learnt 48 rfl) (by decide) (fun c_88 => ?_) (fun c_88 => ?_)
          · refine tq_iconst (v := 1) (dget dX8_learnt 58 rfl) rfl ?_
            refine tq_goto (tgt := 113) (dget dX8_learnt 59 rfl) (by decide) ?_
            refine tq_istore (ls2 := [(7, .int 1), (8, .int (nI i)), (4, .int (frR (fun v => soLm σ R m s (nI v)) k)), (5, .int (gsR (fun v => soLm σ R m s (nI v)) k)), (6, .int (nI k)), (0, .ref 42), (1, .int (nI m)), (2, .int (nI s)), (3, .int z)]) (dget dX8_learnt 61 rfl) (by decide) rfl ?_
            refine tq_iinc (v := (nI (i + 1))) (ls2 := [(8, .int (nI (i + 1))), (7, .int 1), (4, .int (frR (fun v => soLm σ R m s (nI v)) k)), (5, .int (gsR (fun v => soLm σ R m s (nI v)) k)), (6, .int (nI k)), (0, .ref 42), (1, .int (nI m)), (2, .int (nI s)), (3, .int z)]) 1 (dget dX8_learnt 62 rfl) rfl (nI_1 i) (by decide) rfl ?_
            refine tq_goto (tgt := 55) (dget dX8_learnt 63 rfl) (by decide) ?_
            refine tq_sub [0, 1, 2, 3, 4, 5, 6, 7, 8] (ls' := [(8, .int (nI (i + 1))), (7, .int 1), (4, .int (frR (fun v => soLm σ R m s (nI v)) k)), (5, .int (gsR (fun v => soLm σ R m s (nI v)) k)), (6, .int (nI k)), (0, .ref 42), (1, .int (nI m)), (2, .int (nI s)), (3, .int z)]) rfl ?_
            exact ih (i + 1) 1 (by omega) (by omega) (BP.y (fun x hx => if e : x = i then e ▸ (fun e1 e2 => absurd e2 c_88) else hA.t c_66 x (by omega))) hout
          · refine tq_aload_n 5 (dget dX8_learnt 49 rfl) rfl rfl ?_
            refine tq_iload 0 (dget dX8_learnt 50 rfl) rfl ?_
            refine tq_aload_n 5 (dget dX8_learnt 51 rfl) rfl rfl ?_
            refine tq_getR (dget dX8_learnt 52 rfl) fX8_7 rfl rfl ?_
            refine tq_iload_n 6 (dget dX8_learnt 53 rfl) rfl rfl ?_
            refine tq_ialdN m (dget dX8_learnt 54 rfl) rfl (by decide) rfl (by omega) ?_
            refine tq_iload 4 (dget dX8_learnt 55 rfl) rfl ?_
            refine mq_Vi (As := [.int (nI i), .int (σ 43 m), .int (nI k)]) (rest := []) (dget dX8_learnt 56 rfl) lX8_212 miX8_isSo (k_isSo σ i (σ 43 m) (nI k) (by omega) j hkd hj d (by omega)) rfl rfl rfl rfl (Nat.le_of_ble_eq_true rfl) (Nat.le_of_ble_eq_true rfl) (fun r_102 σ_102 h_102 => ?_)
            obtain ⟨b_102, e_102⟩ := h_102
            obtain rfl := e_102.symm
            refine tq_if_eq (tgt := 112) (dget dX8_learnt 57 rfl) (by decide) (fun c_105 => ?_) (fun c_105 => ?_)
            · refine tq_iconst (v := 0) (dget dX8_learnt 60 rfl) rfl ?_
              refine tq_istore (ls2 := [(7, .int 0), (8, .int (nI i)), (4, .int (frR (fun v => soLm σ R m s (nI v)) k)), (5, .int (gsR (fun v => soLm σ R m s (nI v)) k)), (6, .int (nI k)), (0, .ref 42), (1, .int (nI m)), (2, .int (nI s)), (3, .int z)]) (dget dX8_learnt 61 rfl) (by decide) rfl ?_
              refine tq_iinc (v := (nI (i + 1))) (ls2 := [(8, .int (nI (i + 1))), (7, .int 0), (4, .int (frR (fun v => soLm σ R m s (nI v)) k)), (5, .int (gsR (fun v => soLm σ R m s (nI v)) k)), (6, .int (nI k)), (0, .ref 42), (1, .int (nI m)), (2, .int (nI s)), (3, .int z)]) 1 (dget dX8_learnt 62 rfl) rfl (nI_1 i) (by decide) rfl ?_
              refine tq_goto (tgt := 55) (dget dX8_learnt 63 rfl) (by decide) ?_
              refine tq_sub [0, 1, 2, 3, 4, 5, 6, 7, 8] (ls' := [(8, .int (nI (i + 1))), (7, .int 0), (4, .int (frR (fun v => soLm σ R m s (nI v)) k)), (5, .int (gsR (fun v => soLm σ R m s (nI v)) k)), (6, .int (nI k)), (0, .ref 42), (1, .int (nI m)), (2, .int (nI s)), (3, .int z)]) rfl ?_
              exact ih (i + 1) 0 (by omega) (by omega) (BP.n (fun q => b_102.f c_105 (q i (by omega) c_77 c_88))) hout
            · refine tq_iconst (v := 1) (dget dX8_learnt 58 rfl) rfl ?_
              refine tq_goto (tgt := 113) (dget dX8_learnt 59 rfl) (by decide) ?_
              refine tq_istore (ls2 := [(7, .int 1), (8, .int (nI i)), (4, .int (frR (fun v => soLm σ R m s (nI v)) k)), (5, .int (gsR (fun v => soLm σ R m s (nI v)) k)), (6, .int (nI k)), (0, .ref 42), (1, .int (nI m)), (2, .int (nI s)), (3, .int z)]) (dget dX8_learnt 61 rfl) (by decide) rfl ?_
              refine tq_iinc (v := (nI (i + 1))) (ls2 := [(8, .int (nI (i + 1))), (7, .int 1), (4, .int (frR (fun v => soLm σ R m s (nI v)) k)), (5, .int (gsR (fun v => soLm σ R m s (nI v)) k)), (6, .int (nI k)), (0, .ref 42), (1, .int (nI m)), (2, .int (nI s)), (3, .int z)]) 1 (dget dX8_learnt 62 rfl) rfl (nI_1 i) (by decide) rfl ?_
              refine tq_goto (tgt := 55) (dget dX8_learnt 63 rfl) (by decide) ?_
              refine tq_sub [0, 1, 2, 3, 4, 5, 6, 7, 8] (ls' := [(8, .int (nI (i + 1))), (7, .int 1), (4, .int (frR (fun v => soLm σ R m s (nI v)) k)), (5, .int (gsR (fun v => soLm σ R m s (nI v)) k)), (6, .int (nI k)), (0, .ref 42), (1, .int (nI m)), (2, .int (nI s)), (3, .int z)]) rfl ?_
              exact ih (i + 1) 1 (by omega) (by omega) (BP.y (fun x hx => if e : x = i then e ▸ (fun _ _ => b_102.t c_105) else hA.t c_66 x (by omega))) hout
set_option maxHeartbeats 4000000 in
set_option maxRecDepth 20000 in
theorem k_learnt_outer (σ : Mem) (S M R m s : Nat) (z : Int32) (hR : σ 42 20 = nI R) (hR8 : R ≤ 8) (hm4 : m < 4) (j : Nat) (hkd : σ 43 m = nI j) (hj : j < 3) (d : Nat) (hd : 2 ≤ d) : ∀ (n : Nat) (k : Nat) (hm : 10 < k + n) (hk : k ≤ 10), PAt (EM d (Pi (fun v σ2 => v = cnd (z = 0) (frR (fun v => soLm σ R m s (nI v)) 10) (gsR (fun v => soLm σ R m s (nI v)) 10) ∧ σ2 = σ))) mX8_learnt 42 [(6, .int (nI k)), (4, .int (frR (fun v => soLm σ R m s (nI v)) k)), (5, .int (gsR (fun v => soLm σ R m s (nI v)) k)), (0, .ref 42), (1, .int (nI m)), (2, .int (nI s)), (3, .int z)] [] σ := by
  obtain ⟨d, rfl⟩ : ∃ e, d = e + 1 := ⟨d - 1, by omega⟩
  intro n
  induction n with
  | zero => intro k hm hk; exact absurd hm (by omega)
  | succ n ih =>
    intro k hm hk
    refine tq_iload 0 (dget dX8_learnt 24 rfl) rfl ?_
    refine tq_bipush (v := 10) (dget dX8_learnt 25 rfl) rfl ?_
    refine tq_icmp_ge (tgt := 160) (dget dX8_learnt 26 rfl) (by decide) (fun c_46 => ?_) (fun c_46 => ?_)
    · have g_46 := kle (a := 10) (b := k) (by omega) (by omega) c_46
      have g_47 : k = 10 := by omega
      refine tq_iload_n 6 (dget dX8_learnt 80 rfl) rfl rfl ?_
      refine tq_if_ne (tgt := 169) (dget dX8_learnt 81 rfl) (by decide) (fun c_161 => ?_) (fun c_161 => ?_)
      · refine tq_iload 2 (dget dX8_learnt 84 rfl) rfl ?_
        exact tq_iret rfl (dget dX8_learnt 85 rfl) ⟨_, rfl, by rw [g_47]; exact (cnd_f c_161 _ _).symm, rfl⟩
      · refine tq_iload 1 (dget dX8_learnt 82 rfl) rfl ?_
        refine tq_goto (tgt := 171) (dget dX8_learnt 83 rfl) (by decide) ?_
        exact tq_iret rfl (dget dX8_learnt 85 rfl) ⟨_, rfl, by rw [g_47]; exact (cnd_t c_161 _ _).symm, rfl⟩
    · have g_46 := knle (b := k) (a := 10) (by omega) (by omega) c_46
      refine tq_iconst (v := 1) (dget dX8_learnt 27 rfl) rfl ?_
      refine tq_istore (ls2 := [(7, .int 1), (6, .int (nI k)), (4, .int (frR (fun v => soLm σ R m s (nI v)) k)), (5, .int (gsR (fun v => soLm σ R m s (nI v)) k)), (0, .ref 42), (1, .int (nI m)), (2, .int (nI s)), (3, .int z)]) (dget dX8_learnt 28 rfl) (by decide) rfl ?_
      refine tq_iconst (v := 0) (dget dX8_learnt 29 rfl) rfl ?_
      refine tq_istore (ls2 := [(8, .int 0), (7, .int 1), (6, .int (nI k)), (4, .int (frR (fun v => soLm σ R m s (nI v)) k)), (5, .int (gsR (fun v => soLm σ R m s (nI v)) k)), (0, .ref 42), (1, .int (nI m)), (2, .int (nI s)), (3, .int z)]) (dget dX8_learnt 30 rfl) (by decide) rfl ?_
      have hout : ∀ so, BP (soLm σ R m s (nI k)) so → PAt (EM (d + 1) (Pi (fun v σ2 => v = cnd (z = 0) (frR (fun v => soLm σ R m s (nI v)) 10) (gsR (fun v => soLm σ R m s (nI v)) 10) ∧ σ2 = σ))) mX8_learnt 121 [(7, .int so), (4, .int (frR (fun v => soLm σ R m s (nI v)) k)), (5, .int (gsR (fun v => soLm σ R m s (nI v)) k)), (6, .int (nI k)), (0, .ref 42), (1, .int (nI m)), (2, .int (nI s)), (3, .int z)] [] σ := by
        intro so hs
        refine tq_iload 0 (dget dX8_learnt 64 rfl) rfl ?_
        refine tq_if_eq (tgt := 136) (dget dX8_learnt 65 rfl) (by decide) (fun c_123 => ?_) (fun c_123 => ?_)
        · refine tq_iload 1 (dget dX8_learnt 70 rfl) rfl ?_
          refine tq_istore (ls2 := [(4, .int (frR (fun v => soLm σ R m s (nI v)) k)), (7, .int so), (5, .int (gsR (fun v => soLm σ R m s (nI v)) k)), (6, .int (nI k)), (0, .ref 42), (1, .int (nI m)), (2, .int (nI s)), (3, .int z)]) (dget dX8_learnt 71 rfl) (by decide) rfl ?_
          refine tq_iload 1 (dget dX8_learnt 72 rfl) rfl ?_
          refine tq_if_eq (tgt := 150) (dget dX8_learnt 73 rfl) (by decide) (fun c_142 => ?_) (fun c_142 => ?_)
          · refine tq_iload 2 (dget dX8_learnt 76 rfl) rfl ?_
            refine tq_istore (ls2 := [(5, .int (gsR (fun v => soLm σ R m s (nI v)) k)), (4, .int (frR (fun v => soLm σ R m s (nI v)) k)), (7, .int so), (6, .int (nI k)), (0, .ref 42), (1, .int (nI m)), (2, .int (nI s)), (3, .int z)]) (dget dX8_learnt 77 rfl) (by decide) rfl ?_
            refine tq_iinc (v := (nI (k + 1))) (ls2 := [(6, .int (nI (k + 1))), (5, .int (gsR (fun v => soLm σ R m s (nI v)) k)), (4, .int (frR (fun v => soLm σ R m s (nI v)) k)), (7, .int so), (0, .ref 42), (1, .int (nI m)), (2, .int (nI s)), (3, .int z)]) 3 (dget dX8_learnt 78 rfl) rfl (nI_1 k) (by decide) rfl ?_
            refine tq_goto (tgt := 42) (dget dX8_learnt 79 rfl) (by decide) ?_
            refine tq_sub [0, 2, 1, 4, 5, 6, 7] (ls' := [(6, .int (nI (k + 1))), (4, .int (frR (fun v => soLm σ R m s (nI v)) k)), (5, .int (gsR (fun v => soLm σ R m s (nI v)) k)), (0, .ref 42), (1, .int (nI m)), (2, .int (nI s)), (3, .int z)]) rfl ?_
            have eg : gsR (fun v => soLm σ R m s (nI v)) (k + 1) = gsR (fun v => soLm σ R m s (nI v)) k := gsR_n (hs.f c_123)
            have ef : frR (fun v => soLm σ R m s (nI v)) (k + 1) = frR (fun v => soLm σ R m s (nI v)) k := cnd_f (fun q => hs.f c_123 q.1) _ _
            have hX := ih (k + 1) (by omega) (by omega)
            rw [eg, ef] at hX
            exact hX
          · exact absurd c_123 c_142
        · refine tq_iload 1 (dget dX8_learnt 66 rfl) rfl ?_
          refine tq_if_ge (tgt := 136) (dget dX8_learnt 67 rfl) (by decide) (fun c_128 => ?_) (fun c_128 => ?_)
          · refine tq_iload 1 (dget dX8_learnt 70 rfl) rfl ?_
            refine tq_istore (ls2 := [(4, .int (frR (fun v => soLm σ R m s (nI v)) k)), (7, .int so), (5, .int (gsR (fun v => soLm σ R m s (nI v)) k)), (6, .int (nI k)), (0, .ref 42), (1, .int (nI m)), (2, .int (nI s)), (3, .int z)]) (dget dX8_learnt 71 rfl) (by decide) rfl ?_
            refine tq_iload 1 (dget dX8_learnt 72 rfl) rfl ?_
            refine tq_if_eq (tgt := 150) (dget dX8_learnt 73 rfl) (by decide) (fun c_142 => ?_) (fun c_142 => ?_)
            · exact absurd c_142 c_123
            · refine tq_iload 3 (dget dX8_learnt 74 rfl) rfl ?_
              refine tq_goto (tgt := 152) (dget dX8_learnt 75 rfl) (by decide) ?_
              refine tq_istore (ls2 := [(5, .int (nI k)), (4, .int (frR (fun v => soLm σ R m s (nI v)) k)), (7, .int so), (6, .int (nI k)), (0, .ref 42), (1, .int (nI m)), (2, .int (nI s)), (3, .int z)]) (dget dX8_learnt 77 rfl) (by decide) rfl ?_
              refine tq_iinc (v := (nI (k + 1))) (ls2 := [(6, .int (nI (k + 1))), (5, .int (nI k)), (4, .int (frR (fun v => soLm σ R m s (nI v)) k)), (7, .int so), (0, .ref 42), (1, .int (nI m)), (2, .int (nI s)), (3, .int z)]) 3 (dget dX8_learnt 78 rfl) rfl (nI_1 k) (by decide) rfl ?_
              refine tq_goto (tgt := 42) (dget dX8_learnt 79 rfl) (by decide) ?_
              refine tq_sub [0, 2, 1, 4, 5, 6, 7] (ls' := [(6, .int (nI (k + 1))), (4, .int (frR (fun v => soLm σ R m s (nI v)) k)), (5, .int (nI k)), (0, .ref 42), (1, .int (nI m)), (2, .int (nI s)), (3, .int z)]) rfl ?_
              have eg : gsR (fun v => soLm σ R m s (nI v)) (k + 1) = nI k := gsR_y (hs.t c_123)
              have ef : frR (fun v => soLm σ R m s (nI v)) (k + 1) = frR (fun v => soLm σ R m s (nI v)) k := cnd_f (fun q => absurd q.2 (Int32.not_lt.mpr c_128)) _ _
              have hX := ih (k + 1) (by omega) (by omega)
              rw [eg, ef] at hX
              exact hX
          · refine tq_iload 3 (dget dX8_learnt 68 rfl) rfl ?_
            refine tq_goto (tgt := 138) (dget dX8_learnt 69 rfl) (by decide) ?_
            refine tq_istore (ls2 := [(4, .int (nI k)), (7, .int so), (5, .int (gsR (fun v => soLm σ R m s (nI v)) k)), (6, .int (nI k)), (0, .ref 42), (1, .int (nI m)), (2, .int (nI s)), (3, .int z)]) (dget dX8_learnt 71 rfl) (by decide) rfl ?_
            refine tq_iload 1 (dget dX8_learnt 72 rfl) rfl ?_
            refine tq_if_eq (tgt := 150) (dget dX8_learnt 73 rfl) (by decide) (fun c_142 => ?_) (fun c_142 => ?_)
            · exact absurd c_142 c_123
            · refine tq_iload 3 (dget dX8_learnt 74 rfl) rfl ?_
              refine tq_goto (tgt := 152) (dget dX8_learnt 75 rfl) (by decide) ?_
              refine tq_istore (ls2 := [(5, .int (nI k)), (4, .int (nI k)), (7, .int so), (6, .int (nI k)), (0, .ref 42), (1, .int (nI m)), (2, .int (nI s)), (3, .int z)]) (dget dX8_learnt 77 rfl) (by decide) rfl ?_
              refine tq_iinc (v := (nI (k + 1))) (ls2 := [(6, .int (nI (k + 1))), (5, .int (nI k)), (4, .int (nI k)), (7, .int so), (0, .ref 42), (1, .int (nI m)), (2, .int (nI s)), (3, .int z)]) 3 (dget dX8_learnt 78 rfl) rfl (nI_1 k) (by decide) rfl ?_
              refine tq_goto (tgt := 42) (dget dX8_learnt 79 rfl) (by decide) ?_
              refine tq_sub [0, 2, 1, 4, 5, 6, 7] (ls' := [(6, .int (nI (k + 1))), (4, .int (nI k)), (5, .int (nI k)), (0, .ref 42), (1, .int (nI m)), (2, .int (nI s)), (3, .int z)]) rfl ?_
              have eg : gsR (fun v => soLm σ R m s (nI v)) (k + 1) = nI k := gsR_y (hs.t c_123)
              have ef : frR (fun v => soLm σ R m s (nI v)) (k + 1) = nI k := cnd_t ⟨hs.t c_123, Int32.not_le.mp c_128⟩ _ _
              have hX := ih (k + 1) (by omega) (by omega)
              rw [eg, ef] at hX
              exact hX
      refine tq_sub [0, 1, 3, 4, 2, 5, 6, 7, 8] (ls' := [(8, .int 0), (7, .int 1), (4, .int (frR (fun v => soLm σ R m s (nI v)) k)), (5, .int (gsR (fun v => soLm σ R m s (nI v)) k)), (6, .int (nI k)), (0, .ref 42), (1, .int (nI m)), (2, .int (nI s)), (3, .int z)]) rfl ?_
      exact k_learnt_inner σ S M R m s z hR hR8 hm4 j hkd hj k (by omega) (d + 1) (by omega) (R + 1) 0 1 (by omega) (by omega) (BP.y (fun x hx => absurd hx (by omega))) hout
set_option maxHeartbeats 4000000 in
set_option maxRecDepth 20000 in
theorem k_learnt (σ : Mem) (S M : Nat) (hV : VM σ S M) (R : Nat) (hR : σ 42 20 = nI R) (hR8 : R ≤ 8) (hkd : kOK σ M) (x y z : Int32) (d : Nat) (hd : 2 ≤ d) : PMet d mX8_learnt [.ref 42, .int x, .int y, .int z] σ (Pi (fun v σ2 => v = cnd (hMm σ x) (cnd (hSm σ y) (cnd (z = 0 ∨ z = 1) (cnd (z = 0) (frR (fun v => soLm σ R (cl x) (cl y) (nI v)) 10) (gsR (fun v => soLm σ R (cl x) (cl y) (nI v)) 10)) (-2)) (-1)) (-1) ∧ σ2 = σ)) := by
  obtain ⟨d, rfl⟩ : ∃ e, d = e + 1 := ⟨d - 1, by omega⟩
  refine PMet.start (ls0 := [(0, .ref 42), (1, .int x), (2, .int y), (3, .int z)]) miX8_learnt.1 (Nat.le_of_ble_eq_true rfl) rfl ?_
  refine tq_aload_n 0 (dget dX8_learnt 0 rfl) rfl rfl ?_
  refine tq_iload_n 1 (dget dX8_learnt 1 rfl) rfl rfl ?_
  refine mq_Vi (As := [.int x]) (rest := []) (dget dX8_learnt 2 rfl) lX8_152 miX8_noMaid (k_noMaid σ S M hV x d (by omega)) rfl rfl rfl rfl (Nat.le_of_ble_eq_true rfl) (Nat.le_of_ble_eq_true rfl) (fun r_2 σ_2 h_2 => ?_)
  obtain ⟨b_2, e_2⟩ := h_2
  obtain rfl := e_2.symm
  refine tq_if_ne (tgt := 16) (dget dX8_learnt 3 rfl) (by decide) (fun c_5 => ?_) (fun c_5 => ?_)
  · refine tq_iconst (v := (-1)) (dget dX8_learnt 8 rfl) rfl ?_
    exact tq_iret rfl (dget dX8_learnt 9 rfl) ⟨_, rfl, by simp only [cnd_f (P := hMm σ x) (b_2.t c_5)], rfl⟩
  · refine tq_aload_n 0 (dget dX8_learnt 4 rfl) rfl rfl ?_
    refine tq_iload_n 2 (dget dX8_learnt 5 rfl) rfl rfl ?_
    refine mq_Vi (As := [.int y]) (rest := []) (dget dX8_learnt 6 rfl) lX8_155 miX8_noSuitor (k_noSuitor σ S M hV y d (by omega)) rfl rfl rfl rfl (Nat.le_of_ble_eq_true rfl) (Nat.le_of_ble_eq_true rfl) (fun r_10 σ_10 h_10 => ?_)
    obtain ⟨b_10, e_10⟩ := h_10
    obtain rfl := e_10.symm
    refine tq_if_eq (tgt := 18) (dget dX8_learnt 7 rfl) (by decide) (fun c_13 => ?_) (fun c_13 => ?_)
    · obtain ⟨m, e_m, hm, hm4⟩ := hMm_n hV (Classical.not_not.mp (b_2.f c_5))
      subst e_m
      obtain ⟨s, e_s, hs, hs6⟩ := hSm_n hV (Classical.not_not.mp (b_10.f c_13))
      subst e_s
      obtain ⟨j, hj, hk⟩ := hkd m hm
      refine tq_iload_n 3 (dget dX8_learnt 10 rfl) rfl rfl ?_
      refine tq_i2l (dget dX8_learnt 11 rfl) ?_
      refine tq_lconst (v := 0) (dget dX8_learnt 12 rfl) rfl ?_
      refine tq_lconst (v := 1) (dget dX8_learnt 13 rfl) rfl ?_
      refine mq_Si (As := [.long (z).toInt64, .long 0, .long 1]) (rest := []) (dget dX8_learnt 14 rfl) lX8_84 miX8_in (k_in σ (z).toInt64 0 1 d (by omega)) rfl rfl (Nat.le_of_ble_eq_true rfl) (Nat.le_of_ble_eq_true rfl) (fun r_22 σ_22 h_22 => ?_)
      obtain ⟨b_22, e_22⟩ := h_22
      obtain rfl := e_22.symm
      have b_22 := b_22.iff in01
      refine tq_if_ne (tgt := 31) (dget dX8_learnt 15 rfl) (by decide) (fun c_25 => ?_) (fun c_25 => ?_)
      · refine tq_bipush (v := (-9)) (dget dX8_learnt 18 rfl) rfl ?_
        refine tq_istore (ls2 := [(4, .int (-9)), (0, .ref 42), (1, .int (nI m)), (2, .int (nI s)), (3, .int z)]) (dget dX8_learnt 19 rfl) (by decide) rfl ?_
        refine tq_bipush (v := (-9)) (dget dX8_learnt 20 rfl) rfl ?_
        refine tq_istore (ls2 := [(5, .int (-9)), (4, .int (-9)), (0, .ref 42), (1, .int (nI m)), (2, .int (nI s)), (3, .int z)]) (dget dX8_learnt 21 rfl) (by decide) rfl ?_
        refine tq_iconst (v := 0) (dget dX8_learnt 22 rfl) rfl ?_
        refine tq_istore (ls2 := [(6, .int 0), (5, .int (-9)), (4, .int (-9)), (0, .ref 42), (1, .int (nI m)), (2, .int (nI s)), (3, .int z)]) (dget dX8_learnt 23 rfl) (by decide) rfl ?_
        refine tq_sub [0, 2, 1, 3, 4, 5, 6] (ls' := [(6, .int 0), (4, .int (-9)), (5, .int (-9)), (0, .ref 42), (1, .int (nI m)), (2, .int (nI s)), (3, .int z)]) rfl ?_
        simp only [cnd_t (P := hMm σ (nI m)) (Classical.not_not.mp (b_2.f c_5)), cnd_t (P := hSm σ (nI s)) (Classical.not_not.mp (b_10.f c_13)), cnd_t (P := z = 0 ∨ z = 1) (b_22.t c_25), nI_clamp (show m < 2 ^ 31 by omega), nI_clamp (show s < 2 ^ 31 by omega)]
        exact k_learnt_outer σ S M R m s z hR hR8 hm4 j hk hj (d + 1) (by omega) 11 0 (by omega) (by omega)
      · refine tq_bipush (v := (-2)) (dget dX8_learnt 16 rfl) rfl ?_
        exact tq_iret rfl (dget dX8_learnt 17 rfl) ⟨_, rfl, by simp only [cnd_t (P := hMm σ (nI m)) (Classical.not_not.mp (b_2.f c_5)), cnd_t (P := hSm σ (nI s)) (Classical.not_not.mp (b_10.f c_13)), nI_clamp (show m < 2 ^ 31 by omega), nI_clamp (show s < 2 ^ 31 by omega), cnd_f (P := z = 0 ∨ z = 1) (b_22.f c_25)], rfl⟩
    · refine tq_iconst (v := (-1)) (dget dX8_learnt 8 rfl) rfl ?_
      exact tq_iret rfl (dget dX8_learnt 9 rfl) ⟨_, rfl, by simp only [cnd_t (P := hMm σ x) (Classical.not_not.mp (b_2.f c_5)), cnd_f (P := hSm σ y) (b_10.t c_13)], rfl⟩
set_option maxHeartbeats 4000000 in
set_option maxRecDepth 20000 in
theorem k_kinds_inner (σ : Mem) (R m : Nat) (w : Nat → Nat) (hR : σ 42 20 = nI R) (hR8 : R ≤ 8) (hm4 : m < 4) (hw : ∀ k, k < R → σ 56 k = nI (w k) ∧ w k < 6) (k : Nat) (hk3 : k < 3) (d : Nat) (hd : 2 ≤ d) : ∀ (n : Nat) (i : Nat) (so : Int32) (hm : R < i + n) (hi : i ≤ R) (hA : BP (soKm σ i m w (nI k)) so) (hout : ∀ so, BP (soKm σ R m w (nI k)) so → PAt (EM d (Pi (fun v σ2 => v = ksF (fun v => soKm σ R m w (nI v)) 3 ∧ σ2 = σ))) mX8_kinds 90 [(4, .int so), (3, .int (nI k)), (2, .int (ksF (fun v => soKm σ R m w (nI v)) k)), (0, .ref 42), (1, .int (nI m))] [] σ), PAt (EM d (Pi (fun v σ2 => v = ksF (fun v => soKm σ R m w (nI v)) 3 ∧ σ2 = σ))) mX8_kinds 25 [(5, .int (nI i)), (4, .int so), (3, .int (nI k)), (2, .int (ksF (fun v => soKm σ R m w (nI v)) k)), (0, .ref 42), (1, .int (nI m))] [] σ := by
  obtain ⟨d, rfl⟩ : ∃ e, d = e + 1 := ⟨d - 1, by omega⟩
  intro n
  induction n with
  | zero => intro i so hm hi hA hout; exact absurd hm (by omega)
  | succ n ih =>
    intro i so hm hi hA hout
    refine tq_iload 0 (dget dX8_kinds 17 rfl) rfl ?_
    refine tq_aload_n 4 (dget dX8_kinds 18 rfl) rfl rfl ?_
    refine tq_getI (dget dX8_kinds 19 rfl) fX8_149 rfl rfl ?_
    refine tq_icmp_ge (tgt := 90) (dget dX8_kinds 20 rfl) (by decide) (fun c_31 => ?_) (fun c_31 => ?_)
    · rw [hR] at c_31
      have g_31 := kle (by omega) (by omega) c_31
      have g_32 : i = R := by omega
      refine tq_sub [1, 2, 3, 4, 5] (ls' := [(4, .int so), (3, .int (nI k)), (2, .int (ksF (fun v => soKm σ R m w (nI v)) k)), (0, .ref 42), (1, .int (nI m))]) rfl ?_
      rw [g_32] at hA
      exact hout so hA
    · rw [hR] at c_31
      have g_31 := knle (by omega) (by omega) c_31
      have hw6 := (hw i g_31).2
      refine tq_iload 1 (dget dX8_kinds 21 rfl) rfl ?_
      refine tq_if_eq (tgt := 81) (dget dX8_kinds 22 rfl) (by decide) (fun c_36 => ?_) (fun c_36 => ?_)
      · refine tq_iconst (v := 0) (dget dX8_kinds 47 rfl) rfl ?_
        refine tq_istore (ls2 := [(4, .int 0), (5, .int (nI i)), (3, .int (nI k)), (2, .int (ksF (fun v => soKm σ R m w (nI v)) k)), (0, .ref 42), (1, .int (nI m))]) (dget dX8_kinds 48 rfl) (by decide) rfl ?_
        refine tq_iinc (v := (nI (i + 1))) (ls2 := [(5, .int (nI (i + 1))), (4, .int 0), (3, .int (nI k)), (2, .int (ksF (fun v => soKm σ R m w (nI v)) k)), (0, .ref 42), (1, .int (nI m))]) 1 (dget dX8_kinds 49 rfl) rfl (nI_1 i) (by decide) rfl ?_
        refine tq_goto (tgt := 25) (dget dX8_kinds 50 rfl) (by decide) ?_
        refine tq_sub [0, 1, 2, 3, 4, 5] (ls' := [(5, .int (nI (i + 1))), (4, .int 0), (3, .int (nI k)), (2, .int (ksF (fun v => soKm σ R m w (nI v)) k)), (0, .ref 42), (1, .int (nI m))]) rfl ?_
        exact ih (i + 1) 0 (by omega) (by omega) (BP.n (fun q => hA.f c_36 (fun x hx => q x (by omega)))) hout
      · refine tq_aload_n 4 (dget dX8_kinds 23 rfl) rfl rfl ?_
        refine tq_getR (dget dX8_kinds 24 rfl) fX8_46 rfl rfl ?_
        refine tq_iload 0 (dget dX8_kinds 25 rfl) rfl ?_
        refine tq_ialdN i (dget dX8_kinds 26 rfl) rfl (by decide) rfl (by omega) ?_
        refine tq_iload_n 5 (dget dX8_kinds 27 rfl) rfl rfl ?_
        refine tq_icmp_ne (tgt := 77) (dget dX8_kinds 28 rfl) (by decide) (fun c_47 => ?_) (fun c_47 => ?_)
        · refine tq_iconst (v := 1) (dget dX8_kinds 45 rfl) rfl ?_
          refine tq_goto (tgt := 82) (dget dX8_kinds 46 rfl) (by decide) ?_
          refine tq_istore (ls2 := [(4, .int 1), (5, .int (nI i)), (3, .int (nI k)), (2, .int (ksF (fun v => soKm σ R m w (nI v)) k)), (0, .ref 42), (1, .int (nI m))]) (dget dX8_kinds 48 rfl) (by decide) rfl ?_
          refine tq_iinc (v := (nI (i + 1))) (ls2 := [(5, .int (nI (i + 1))), (4, .int 1), (3, .int (nI k)), (2, .int (ksF (fun v => soKm σ R m w (nI v)) k)), (0, .ref 42), (1, .int (nI m))]) 1 (dget dX8_kinds 49 rfl) rfl (nI_1 i) (by decide) rfl ?_
          refine tq_goto (tgt := 25) (dget dX8_kinds 50 rfl) (by decide) ?_
          refine tq_sub [0, 1, 2, 3, 4, 5] (ls' := [(5, .int (nI (i + 1))), (4, .int 1), (3, .int (nI k)), (2, .int (ksF (fun v => soKm σ R m w (nI v)) k)), (0, .ref 42), (1, .int (nI m))]) rfl ?_
          exact ih (i + 1) 1 (by omega) (by omega) (BP.y (fun x hx => if e : x = i then e ▸ (fun e1 => absurd e1 c_47) else hA.t c_36 x (by omega))) hout
        · refine tq_aload_n 4 (dget dX8_kinds 29 rfl) rfl rfl ?_
          refine tq_iload 0 (dget dX8_kinds 30 rfl) rfl ?_
          refine tq_iload_n 2 (dget dX8_kinds 31 rfl) rfl rfl ?_
          refine tq_aload_n 4 (dget dX8_kinds 32 rfl) rfl rfl ?_
          refine tq_getR (dget dX8_kinds 33 rfl) fX8_13 rfl rfl ?_
          refine tq_bipush (v := 6) (dget dX8_kinds 34 rfl) rfl ?_
          refine tq_iload_n 5 (dget dX8_kinds 35 rfl) rfl rfl ?_
          refine tq_imul (dget dX8_kinds 36 rfl) ?_
          refine tq_eqi (y := (nI (6 * m))) (nI_mulN (6) (m)) ?_
          refine tq_aload_n 4 (dget dX8_kinds 37 rfl) rfl rfl ?_
          refine tq_getR (dget dX8_kinds 38 rfl) fX8_49 rfl rfl ?_
          refine tq_iload 0 (dget dX8_kinds 39 rfl) rfl ?_
          refine tq_ialdN i (dget dX8_kinds 40 rfl) rfl (by decide) rfl (by omega) ?_
          refine tq_eqi (y := (nI (w i))) (hw i g_31).1 ?_
          refine tq_iadd (dget dX8_kinds 41 rfl) ?_
          refine tq_eqi (y := (nI ((6 * m) + (w i)))) (nI_add ((6 * m)) ((w i))) ?_
          refine tq_ialdN ((6 * m) + (w i)) (dget dX8_kinds 42 rfl) rfl (by decide) rfl (by omega) ?_
          refine mq_Vi (As := [.int (nI i), .int (nI k), .int (σ 44 ((6 * m) + (w i)))]) (rest := []) (dget dX8_kinds 43 rfl) lX8_212 miX8_isSo (k_isSo σ i (nI k) (σ 44 (6 * m + w i)) (by omega) k rfl hk3 d (by omega)) rfl rfl rfl rfl (Nat.le_of_ble_eq_true rfl) (Nat.le_of_ble_eq_true rfl) (fun r_71 σ_71 h_71 => ?_)
          obtain ⟨b_71, e_71⟩ := h_71
          obtain rfl := e_71.symm
          refine tq_if_eq (tgt := 81) (dget dX8_kinds 44 rfl) (by decide) (fun c_74 => ?_) (fun c_74 => ?_)
          · refine tq_iconst (v := 0) (dget dX8_kinds 47 rfl) rfl ?_
            refine tq_istore (ls2 := [(4, .int 0), (5, .int (nI i)), (3, .int (nI k)), (2, .int (ksF (fun v => soKm σ R m w (nI v)) k)), (0, .ref 42), (1, .int (nI m))]) (dget dX8_kinds 48 rfl) (by decide) rfl ?_
            refine tq_iinc (v := (nI (i + 1))) (ls2 := [(5, .int (nI (i + 1))), (4, .int 0), (3, .int (nI k)), (2, .int (ksF (fun v => soKm σ R m w (nI v)) k)), (0, .ref 42), (1, .int (nI m))]) 1 (dget dX8_kinds 49 rfl) rfl (nI_1 i) (by decide) rfl ?_
            refine tq_goto (tgt := 25) (dget dX8_kinds 50 rfl) (by decide) ?_
            refine tq_sub [0, 1, 2, 3, 4, 5] (ls' := [(5, .int (nI (i + 1))), (4, .int 0), (3, .int (nI k)), (2, .int (ksF (fun v => soKm σ R m w (nI v)) k)), (0, .ref 42), (1, .int (nI m))]) rfl ?_
            exact ih (i + 1) 0 (by omega) (by omega) (BP.n (fun q => b_71.f c_74 (q i (by omega) c_47))) hout
          · refine tq_iconst (v := 1) (dget dX8_kinds 45 rfl) rfl ?_
            refine tq_goto (tgt := 82) (dget dX8_kinds 46 rfl) (by decide) ?_
            refine tq_istore (ls2 := [(4, .int 1), (5, .int (nI i)), (3, .int (nI k)), (2, .int (ksF (fun v => soKm σ R m w (nI v)) k)), (0, .ref 42), (1, .int (nI m))]) (dget dX8_kinds 48 rfl) (by decide) rfl ?_
            refine tq_iinc (v := (nI (i + 1))) (ls2 := [(5, .int (nI (i + 1))), (4, .int 1), (3, .int (nI k)), (2, .int (ksF (fun v => soKm σ R m w (nI v)) k)), (0, .ref 42), (1, .int (nI m))]) 1 (dget dX8_kinds 49 rfl) rfl (nI_1 i) (by decide) rfl ?_
            refine tq_goto (tgt := 25) (dget dX8_kinds 50 rfl) (by decide) ?_
            refine tq_sub [0, 1, 2, 3, 4, 5] (ls' := [(5, .int (nI (i + 1))), (4, .int 1), (3, .int (nI k)), (2, .int (ksF (fun v => soKm σ R m w (nI v)) k)), (0, .ref 42), (1, .int (nI m))]) rfl ?_
            exact ih (i + 1) 1 (by omega) (by omega) (BP.y (fun x hx => if e : x = i then e ▸ (fun _ => b_71.t c_74) else hA.t c_36 x (by omega))) hout
set_option maxHeartbeats 4000000 in
set_option maxRecDepth 20000 in
theorem k_kinds_outer (σ : Mem) (R m : Nat) (w : Nat → Nat) (hR : σ 42 20 = nI R) (hR8 : R ≤ 8) (hm4 : m < 4) (hw : ∀ k, k < R → σ 56 k = nI (w k) ∧ w k < 6) (d : Nat) (hd : 2 ≤ d) : ∀ (n : Nat) (k : Nat) (hm : 3 < k + n) (hk : k ≤ 3), PAt (EM d (Pi (fun v σ2 => v = ksF (fun v => soKm σ R m w (nI v)) 3 ∧ σ2 = σ))) mX8_kinds 14 [(3, .int (nI k)), (2, .int (ksF (fun v => soKm σ R m w (nI v)) k)), (0, .ref 42), (1, .int (nI m))] [] σ := by
  obtain ⟨d, rfl⟩ : ∃ e, d = e + 1 := ⟨d - 1, by omega⟩
  intro n
  induction n with
  | zero => intro k hm hk; exact absurd hm (by omega)
  | succ n ih =>
    intro k hm hk
    refine tq_iload_n 0 (dget dX8_kinds 10 rfl) rfl rfl ?_
    refine tq_iconst (v := 3) (dget dX8_kinds 11 rfl) rfl ?_
    refine tq_icmp_ge (tgt := 111) (dget dX8_kinds 12 rfl) (by decide) (fun c_16 => ?_) (fun c_16 => ?_)
    · have g_16 := kle (a := 3) (b := k) (by omega) (by omega) c_16
      have g_17 : k = 3 := by omega
      refine tq_iload_n 1 (dget dX8_kinds 63 rfl) rfl rfl ?_
      exact tq_iret rfl (dget dX8_kinds 64 rfl) ⟨_, rfl, by rw [g_17], rfl⟩
    · have g_16 := knle (b := k) (a := 3) (by omega) (by omega) c_16
      refine tq_iconst (v := 1) (dget dX8_kinds 13 rfl) rfl ?_
      refine tq_istore (ls2 := [(4, .int 1), (3, .int (nI k)), (2, .int (ksF (fun v => soKm σ R m w (nI v)) k)), (0, .ref 42), (1, .int (nI m))]) (dget dX8_kinds 14 rfl) (by decide) rfl ?_
      refine tq_iconst (v := 0) (dget dX8_kinds 15 rfl) rfl ?_
      refine tq_istore (ls2 := [(5, .int 0), (4, .int 1), (3, .int (nI k)), (2, .int (ksF (fun v => soKm σ R m w (nI v)) k)), (0, .ref 42), (1, .int (nI m))]) (dget dX8_kinds 16 rfl) (by decide) rfl ?_
      have hout : ∀ so, BP (soKm σ R m w (nI k)) so → PAt (EM (d + 1) (Pi (fun v σ2 => v = ksF (fun v => soKm σ R m w (nI v)) 3 ∧ σ2 = σ))) mX8_kinds 90 [(4, .int so), (3, .int (nI k)), (2, .int (ksF (fun v => soKm σ R m w (nI v)) k)), (0, .ref 42), (1, .int (nI m))] [] σ := by
        intro so hs
        refine tq_iload_n 2 (dget dX8_kinds 51 rfl) rfl rfl ?_
        refine tq_iload 0 (dget dX8_kinds 52 rfl) rfl ?_
        refine tq_if_eq (tgt := 102) (dget dX8_kinds 53 rfl) (by decide) (fun c_93 => ?_) (fun c_93 => ?_)
        · refine tq_iconst (v := 0) (dget dX8_kinds 58 rfl) rfl ?_
          refine tq_ior (dget dX8_kinds 59 rfl) ?_
          refine tq_istore_n (ls2 := [(2, .int ((ksF (fun v => soKm σ R m w (nI v)) k) ||| 0)), (4, .int so), (3, .int (nI k)), (0, .ref 42), (1, .int (nI m))]) (dget dX8_kinds 60 rfl) rfl (by decide) rfl ?_
          refine tq_iinc (v := (nI (k + 1))) (ls2 := [(3, .int (nI (k + 1))), (2, .int ((ksF (fun v => soKm σ R m w (nI v)) k) ||| 0)), (4, .int so), (0, .ref 42), (1, .int (nI m))]) 2 (dget dX8_kinds 61 rfl) rfl (nI_1 k) (by decide) rfl ?_
          refine tq_goto (tgt := 14) (dget dX8_kinds 62 rfl) (by decide) ?_
          refine tq_sub [0, 1, 3, 4] (ls' := [(3, .int (nI (k + 1))), (2, .int ((ksF (fun v => soKm σ R m w (nI v)) k) ||| 0)), (0, .ref 42), (1, .int (nI m))]) rfl ?_
          rw [show (ksF (fun v => soKm σ R m w (nI v)) k ||| 0) = ksF (fun v => soKm σ R m w (nI v)) (k + 1) by rw [ksF_n (hs.f c_93)]; exact Int32.or_zero]
          exact ih (k + 1) (by omega) (by omega)
        · refine tq_iconst (v := 1) (dget dX8_kinds 54 rfl) rfl ?_
          refine tq_iload_n 1 (dget dX8_kinds 55 rfl) rfl rfl ?_
          refine tq_ishl (dget dX8_kinds 56 rfl) ?_
          refine tq_goto (tgt := 103) (dget dX8_kinds 57 rfl) (by decide) ?_
          refine tq_ior (dget dX8_kinds 59 rfl) ?_
          refine tq_istore_n (ls2 := [(2, .int ((ksF (fun v => soKm σ R m w (nI v)) k) ||| (1 <<< ((nI k) &&& 31)))), (4, .int so), (3, .int (nI k)), (0, .ref 42), (1, .int (nI m))]) (dget dX8_kinds 60 rfl) rfl (by decide) rfl ?_
          refine tq_iinc (v := (nI (k + 1))) (ls2 := [(3, .int (nI (k + 1))), (2, .int ((ksF (fun v => soKm σ R m w (nI v)) k) ||| (1 <<< ((nI k) &&& 31)))), (4, .int so), (0, .ref 42), (1, .int (nI m))]) 2 (dget dX8_kinds 61 rfl) rfl (nI_1 k) (by decide) rfl ?_
          refine tq_goto (tgt := 14) (dget dX8_kinds 62 rfl) (by decide) ?_
          refine tq_sub [0, 1, 3, 4] (ls' := [(3, .int (nI (k + 1))), (2, .int ((ksF (fun v => soKm σ R m w (nI v)) k) ||| (1 <<< ((nI k) &&& 31)))), (0, .ref 42), (1, .int (nI m))]) rfl ?_
          rw [show (ksF (fun v => soKm σ R m w (nI v)) k ||| (1 <<< (nI k &&& 31))) = ksF (fun v => soKm σ R m w (nI v)) (k + 1) from (ksF_y (hs.t c_93)).symm]
          exact ih (k + 1) (by omega) (by omega)
      refine tq_sub [0, 1, 2, 3, 4, 5] (ls' := [(5, .int 0), (4, .int 1), (3, .int (nI k)), (2, .int (ksF (fun v => soKm σ R m w (nI v)) k)), (0, .ref 42), (1, .int (nI m))]) rfl ?_
      exact k_kinds_inner σ R m w hR hR8 hm4 hw k (by omega) (d + 1) (by omega) (R + 1) 0 1 (by omega) (by omega) (BP.y (fun x hx => absurd hx (by omega))) hout
set_option maxHeartbeats 4000000 in
set_option maxRecDepth 20000 in
theorem k_kinds (σ : Mem) (S M : Nat) (hV : VM σ S M) (R : Nat) (w : Nat → Nat) (hR : σ 42 20 = nI R) (hR8 : R ≤ 8) (hw : ∀ k, k < R → σ 56 k = nI (w k) ∧ w k < 6) (x : Int32) (d : Nat) (hd : 2 ≤ d) : PMet d mX8_kinds [.ref 42, .int x] σ (Pi (fun v σ2 => v = cnd (hMm σ x) (ksF (fun v => soKm σ R (cl x) w (nI v)) 3) (-1) ∧ σ2 = σ)) := by
  obtain ⟨d, rfl⟩ : ∃ e, d = e + 1 := ⟨d - 1, by omega⟩
  refine PMet.start (ls0 := [(0, .ref 42), (1, .int x)]) miX8_kinds.1 (Nat.le_of_ble_eq_true rfl) rfl ?_
  refine tq_aload_n 0 (dget dX8_kinds 0 rfl) rfl rfl ?_
  refine tq_iload_n 1 (dget dX8_kinds 1 rfl) rfl rfl ?_
  refine mq_Vi (As := [.int x]) (rest := []) (dget dX8_kinds 2 rfl) lX8_152 miX8_noMaid (k_noMaid σ S M hV x d (by omega)) rfl rfl rfl rfl (Nat.le_of_ble_eq_true rfl) (Nat.le_of_ble_eq_true rfl) (fun r_2 σ_2 h_2 => ?_)
  obtain ⟨b_2, e_2⟩ := h_2
  obtain rfl := e_2.symm
  refine tq_if_eq (tgt := 10) (dget dX8_kinds 3 rfl) (by decide) (fun c_5 => ?_) (fun c_5 => ?_)
  · obtain ⟨m, e_m, hm, hm4⟩ := hMm_n hV (Classical.not_not.mp (b_2.f c_5))
    subst e_m
    refine tq_iconst (v := 0) (dget dX8_kinds 6 rfl) rfl ?_
    refine tq_istore_n (ls2 := [(2, .int 0), (0, .ref 42), (1, .int (nI m))]) (dget dX8_kinds 7 rfl) rfl (by decide) rfl ?_
    refine tq_iconst (v := 0) (dget dX8_kinds 8 rfl) rfl ?_
    refine tq_istore_n (ls2 := [(3, .int 0), (2, .int 0), (0, .ref 42), (1, .int (nI m))]) (dget dX8_kinds 9 rfl) rfl (by decide) rfl ?_
    refine tq_sub [0, 1, 2, 3] (ls' := [(3, .int 0), (2, .int 0), (0, .ref 42), (1, .int (nI m))]) rfl ?_
    simp only [cnd_t (P := hMm σ (nI m)) (Classical.not_not.mp (b_2.f c_5)), nI_clamp (show m < 2 ^ 31 by omega)]
    exact k_kinds_outer σ R m w hR hR8 hm4 hw (d + 1) (by omega) 4 0 (by omega) (by omega)
  · refine tq_iconst (v := (-1)) (dget dX8_kinds 4 rfl) rfl ?_
    exact tq_iret rfl (dget dX8_kinds 5 rfl) ⟨_, rfl, by simp only [cnd_f (P := hMm σ x) (b_2.t c_5)], rfl⟩
def mkM (σ : Mem) (b : Int32) : Mem := up σ 42 29 (31 * σ 42 29 + b)
set_option maxHeartbeats 4000000 in
set_option maxRecDepth 20000 in
theorem k_traced (σ : Mem) (b : Int32) (d : Nat) (hd : 0 ≤ d) : PMet d mX8_traced [.ref 42, .int b] σ (Pv (fun σ2 => σ2 = mkM σ b)) := by
  refine PMet.start (ls0 := [(0, .ref 42), (1, .int b)]) miX8_traced.1 (Nat.le_of_ble_eq_true rfl) rfl ?_
  refine tq_aload_n 0 (dget dX8_traced 0 rfl) rfl rfl ?_
  refine tq_bipush (v := 31) (dget dX8_traced 1 rfl) rfl ?_
  refine tq_aload_n 0 (dget dX8_traced 2 rfl) rfl rfl ?_
  refine tq_getI (dget dX8_traced 3 rfl) fX8_222 rfl rfl ?_
  refine tq_imul (dget dX8_traced 4 rfl) ?_
  refine tq_iload_n 1 (dget dX8_traced 5 rfl) rfl rfl ?_
  refine tq_iadd (dget dX8_traced 6 rfl) ?_
  refine tq_putI (dget dX8_traced 7 rfl) fX8_222 rfl rfl rfl rfl ?_
  exact tq_vret rfl (dget dX8_traced 8 rfl) ⟨rfl, rfl⟩

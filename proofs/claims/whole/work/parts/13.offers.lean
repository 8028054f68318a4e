/-! ===== what is broken; offers ===== -/
def brkA (t : Nat) (σ : Mem) (S k m : Nat) : Prop := (S ≤ k ∨ ¬ σ (t + 2) m = -1) ∧ ∃ s, s < k ∧ wbP t σ s m

set_option maxHeartbeats 4000000 in
set_option maxRecDepth 20000 in
theorem c_isBroken_inner (t : Nat) (hT : isD t) (σ : Mem) (S M K : Nat) (hV : VA σ S M) (hW : wfD t σ) (hK : K ≤ 6) (ov kn : Int32) (j : Nat) (hj : j < M) (Kn : Prop) (bk : BP Kn kn) (hKn : Kn → (S ≤ K ∨ ¬ σ (t + 2) j = -1)) (d : Nat) (hd : 2 ≤ d) : ∀ (n : Nat) (i : Nat) (hm : K < i + n) (hi : i ≤ K) (hI : ∀ s, s < i → ¬ wbP t σ s j) (hout : ¬ (Kn ∧ ∃ s, s < K ∧ wbP t σ s j) → PAt (EM d (Pi (fun v σ2 => BP (brkP t σ S M K) v ∧ σ2 = σ))) mX0_isBroken 82 [(4, .int (nI j)), (3, .int ov), (0, .ref t), (1, .ref 1), (2, .int (nI K))] [] σ), PAt (EM d (Pi (fun v σ2 => BP (brkP t σ S M K) v ∧ σ2 = σ))) mX0_isBroken 51 [(6, .int (nI i)), (5, .int kn), (4, .int (nI j)), (3, .int ov), (0, .ref t), (1, .ref 1), (2, .int (nI K))] [] σ := by
  obtain ⟨d, rfl⟩ : ∃ e, d = e + 1 := ⟨d - 1, by omega⟩
  intro n
  induction n with
  | zero => intro i hm hi hI hout; exact absurd hm (by omega)
  | succ n ih =>
    intro i hm hi hI hout
    have v4 := hV.2.2.2
    refine tq_iload 0 (dget dX0_isBroken 28 rfl) rfl ?_
    refine tq_iload_n 6 (dget dX0_isBroken 29 rfl) rfl rfl ?_
    refine tq_icmp_ge (tgt := 82) (dget dX0_isBroken 30 rfl) (by decide) (fun c_54 => ?_) (fun c_54 => ?_)
    · have g_54 := kle (by omega) (by omega) c_54
      refine tq_sub [2, 3, 4, 5, 6] (ls' := [(4, .int (nI j)), (3, .int ov), (0, .ref t), (1, .ref 1), (2, .int (nI K))]) rfl ?_
      exact hout (fun q => by obtain ⟨_, s, h1, h2⟩ := q; exact hI s (by omega) h2)
    · have g_54 := knle (by omega) (by omega) c_54
      refine tq_iload 1 (dget dX0_isBroken 31 rfl) rfl ?_
      refine tq_if_eq (tgt := 82) (dget dX0_isBroken 32 rfl) (by decide) (fun c_59 => ?_) (fun c_59 => ?_)
      · refine tq_sub [2, 3, 4, 5, 6] (ls' := [(4, .int (nI j)), (3, .int ov), (0, .ref t), (1, .ref 1), (2, .int (nI K))]) rfl ?_
        exact hout (fun q => bk.f c_59 q.1)
      · refine tq_aload_n 4 (dget dX0_isBroken 33 rfl) rfl rfl ?_
        refine tq_aload_n 5 (dget dX0_isBroken 34 rfl) rfl rfl ?_
        refine tq_iload 0 (dget dX0_isBroken 35 rfl) rfl ?_
        refine tq_iload 2 (dget dX0_isBroken 36 rfl) rfl ?_
        refine mq_Vi (As := [.ref 1, .int (nI i), .int (nI j)]) (rest := []) (dget dX0_isBroken 37 rfl) lX0_47 miX0_wouldBreak (c_wouldBreak t hT σ i j (by omega) (by omega) hW d (by omega)) hT.1 rfl rfl rfl (Nat.le_of_ble_eq_true rfl) (Nat.le_of_ble_eq_true rfl) (fun r_68 σ_68 h_68 => ?_)
        obtain ⟨b_68, e_68⟩ := h_68
        obtain rfl := e_68.symm
        refine tq_if_eq (tgt := 76) (dget dX0_isBroken 38 rfl) (by decide) (fun c_71 => ?_) (fun c_71 => ?_)
        · refine tq_iinc (v := (nI (i + 1))) (ls2 := [(6, .int (nI (i + 1))), (5, .int kn), (4, .int (nI j)), (3, .int ov), (0, .ref t), (1, .ref 1), (2, .int (nI K))]) 0 (dget dX0_isBroken 41 rfl) rfl (nI_1 i) (by decide) rfl ?_
          refine tq_goto (tgt := 51) (dget dX0_isBroken 42 rfl) (by decide) ?_
          refine tq_sub [0, 1, 2, 3, 4, 5, 6] (ls' := [(6, .int (nI (i + 1))), (5, .int kn), (4, .int (nI j)), (3, .int ov), (0, .ref t), (1, .ref 1), (2, .int (nI K))]) rfl ?_
          exact ih (i + 1) (by omega) (by omega) (fun s hs => if e : s = i then e ▸ b_68.f c_71 else hI s (by omega)) hout
        · refine tq_iconst (v := 1) (dget dX0_isBroken 39 rfl) rfl ?_
          exact tq_zret rfl rfl (dget dX0_isBroken 40 rfl) ⟨_, rfl, BP.y ⟨j, hj, hKn (bk.t c_59), i, g_54, b_68.t c_71⟩, rfl⟩
set_option maxHeartbeats 4000000 in
set_option maxRecDepth 20000 in
theorem c_isBroken_outer (t : Nat) (hT : isD t) (σ : Mem) (S M K : Nat) (hV : VA σ S M) (hW : wfD t σ) (hK : K ≤ 6) (ov : Int32) (bo : BP (S ≤ K) ov) (d : Nat) (hd : 2 ≤ d) : ∀ (n : Nat) (j : Nat) (hm : M < j + n) (hj : j ≤ M) (hI : ∀ m, m < j → ¬ brkA t σ S K m), PAt (EM d (Pi (fun v σ2 => BP (brkP t σ S M K) v ∧ σ2 = σ))) mX0_isBroken 17 [(4, .int (nI j)), (3, .int ov), (0, .ref t), (1, .ref 1), (2, .int (nI K))] [] σ := by
  obtain ⟨d, rfl⟩ : ∃ e, d = e + 1 := ⟨d - 1, by omega⟩
  intro n
  induction n with
  | zero => intro j hm hj hI; exact absurd hm (by omega)
  | succ n ih =>
    intro j hm hj hI
    have v2 := hV.2.1
    have v4 := hV.2.2.2
    refine tq_iload 0 (dget dX0_isBroken 10 rfl) rfl ?_
    refine tq_aload_n 3 (dget dX0_isBroken 11 rfl) rfl rfl ?_
    refine tq_getI (dget dX0_isBroken 12 rfl) fX0_44 rfl rfl ?_
    refine tq_icmp_ge (tgt := 88) (dget dX0_isBroken 13 rfl) (by decide) (fun c_23 => ?_) (fun c_23 => ?_)
    · rw [v2] at c_23
      have g_23 := kle (by omega) (by omega) c_23
      refine tq_iconst (v := 0) (dget dX0_isBroken 45 rfl) rfl ?_
      exact tq_zret rfl rfl (dget dX0_isBroken 46 rfl) ⟨_, rfl, BP.n (fun q => by obtain ⟨m, h1, h2⟩ := q; exact hI m (by omega) h2), rfl⟩
    · rw [v2] at c_23
      have g_23 := knle (by omega) (by omega) c_23
      have hnext : ¬ brkA t σ S K j → PAt (EM (d + 1) (Pi (fun v σ2 => BP (brkP t σ S M K) v ∧ σ2 = σ))) mX0_isBroken 82 [(4, .int (nI j)), (3, .int ov), (0, .ref t), (1, .ref 1), (2, .int (nI K))] [] σ := by
        intro hz
        refine tq_iinc (v := (nI (j + 1))) (ls2 := [(4, .int (nI (j + 1))), (3, .int ov), (0, .ref t), (1, .ref 1), (2, .int (nI K))]) 0 (dget dX0_isBroken 43 rfl) rfl (nI_1 j) (by decide) rfl ?_
        refine tq_goto (tgt := 17) (dget dX0_isBroken 44 rfl) (by decide) ?_
        refine tq_sub [0, 1, 2, 3, 4] (ls' := [(4, .int (nI (j + 1))), (3, .int ov), (0, .ref t), (1, .ref 1), (2, .int (nI K))]) rfl ?_
        exact ih (j + 1) (by omega) (by omega) (fun m hm9 => if e : m = j then e ▸ hz else hI m (by omega))
      refine tq_iload_n 1 (dget dX0_isBroken 14 rfl) rfl rfl ?_
      refine tq_if_ne (tgt := 41) (dget dX0_isBroken 15 rfl) (by decide) (fun c_27 => ?_) (fun c_27 => ?_)
      · refine tq_iconst (v := 1) (dget dX0_isBroken 22 rfl) rfl ?_
        refine tq_goto (tgt := 46) (dget dX0_isBroken 23 rfl) (by decide) ?_
        refine tq_istore (ls2 := [(5, .int 1), (4, .int (nI j)), (3, .int ov), (0, .ref t), (1, .ref 1), (2, .int (nI K))]) (dget dX0_isBroken 25 rfl) (by decide) rfl ?_
        refine tq_iconst (v := 0) (dget dX0_isBroken 26 rfl) rfl ?_
        refine tq_istore (ls2 := [(6, .int 0), (5, .int 1), (4, .int (nI j)), (3, .int ov), (0, .ref t), (1, .ref 1), (2, .int (nI K))]) (dget dX0_isBroken 27 rfl) (by decide) rfl ?_
        refine tq_sub [0, 1, 2, 3, 4, 5, 6] (ls' := [(6, .int 0), (5, .int 1), (4, .int (nI j)), (3, .int ov), (0, .ref t), (1, .ref 1), (2, .int (nI K))]) rfl ?_
        exact c_isBroken_inner t hT σ S M K hV hW hK ov 1 j g_23 (S ≤ K) (BP.y (bo.t c_27)) (fun q => Or.inl q) (d + 1) (by omega) (K + 1) 0 (by omega) (by omega) (fun s hs => absurd hs (by omega)) (fun hz => hnext (fun q => hz ⟨bo.t c_27, q.2⟩))
      · refine tq_aload_n 2 (dget dX0_isBroken 16 rfl) rfl rfl ?_
        refine tq_getR (dget dX0_isBroken 17 rfl) fX0_15 hT.1 rfl ?_
        refine tq_iload 0 (dget dX0_isBroken 18 rfl) rfl ?_
        refine tq_ialdN j (dget dX0_isBroken 19 rfl) hT.2.2.1 (by decide) rfl (by omega) ?_
        refine tq_iconst (v := (-1)) (dget dX0_isBroken 20 rfl) rfl ?_
        refine tq_icmp_eq (tgt := 45) (dget dX0_isBroken 21 rfl) (by decide) (fun c_38 => ?_) (fun c_38 => ?_)
        · refine tq_iconst (v := 0) (dget dX0_isBroken 24 rfl) rfl ?_
          refine tq_istore (ls2 := [(5, .int 0), (4, .int (nI j)), (3, .int ov), (0, .ref t), (1, .ref 1), (2, .int (nI K))]) (dget dX0_isBroken 25 rfl) (by decide) rfl ?_
          refine tq_iconst (v := 0) (dget dX0_isBroken 26 rfl) rfl ?_
          refine tq_istore (ls2 := [(6, .int 0), (5, .int 0), (4, .int (nI j)), (3, .int ov), (0, .ref t), (1, .ref 1), (2, .int (nI K))]) (dget dX0_isBroken 27 rfl) (by decide) rfl ?_
          refine tq_sub [0, 1, 2, 3, 4, 5, 6] (ls' := [(6, .int 0), (5, .int 0), (4, .int (nI j)), (3, .int ov), (0, .ref t), (1, .ref 1), (2, .int (nI K))]) rfl ?_
          exact c_isBroken_inner t hT σ S M K hV hW hK ov 0 j g_23 False (BP.n id) (fun q => absurd q id) (d + 1) (by omega) (K + 1) 0 (by omega) (by omega) (fun s hs => absurd hs (by omega)) (fun hz => hnext (fun q => q.1.elim (fun z => bo.f c_27 z) (fun z => z c_38)))
        · refine tq_iconst (v := 1) (dget dX0_isBroken 22 rfl) rfl ?_
          refine tq_goto (tgt := 46) (dget dX0_isBroken 23 rfl) (by decide) ?_
          refine tq_istore (ls2 := [(5, .int 1), (4, .int (nI j)), (3, .int ov), (0, .ref t), (1, .ref 1), (2, .int (nI K))]) (dget dX0_isBroken 25 rfl) (by decide) rfl ?_
          refine tq_iconst (v := 0) (dget dX0_isBroken 26 rfl) rfl ?_
          refine tq_istore (ls2 := [(6, .int 0), (5, .int 1), (4, .int (nI j)), (3, .int ov), (0, .ref t), (1, .ref 1), (2, .int (nI K))]) (dget dX0_isBroken 27 rfl) (by decide) rfl ?_
          refine tq_sub [0, 1, 2, 3, 4, 5, 6] (ls' := [(6, .int 0), (5, .int 1), (4, .int (nI j)), (3, .int ov), (0, .ref t), (1, .ref 1), (2, .int (nI K))]) rfl ?_
          exact c_isBroken_inner t hT σ S M K hV hW hK ov 1 j g_23 (¬ σ (t + 2) j = -1) (BP.y c_38) (fun q => Or.inr q) (d + 1) (by omega) (K + 1) 0 (by omega) (by omega) (fun s hs => absurd hs (by omega)) (fun hz => hnext (fun q => hz ⟨c_38, q.2⟩))
set_option maxHeartbeats 4000000 in
set_option maxRecDepth 20000 in
theorem c_isBroken (t : Nat) (hT : isD t) (σ : Mem) (S M K : Nat) (hV : VA σ S M) (hW : wfD t σ) (hK : K ≤ 6) (d : Nat) (hd : 2 ≤ d) : PMet d mX0_isBroken [.ref t, .ref 1, .int (nI K)] σ (Pi (fun v σ2 => BP (brkP t σ S M K) v ∧ σ2 = σ)) := by
  obtain ⟨d, rfl⟩ : ∃ e, d = e + 1 := ⟨d - 1, by omega⟩
  refine PMet.start (ls0 := [(0, .ref t), (1, .ref 1), (2, .int (nI K))]) miX0_isBroken.1 (Nat.le_of_ble_eq_true rfl) rfl ?_
  have v1 := hV.1
  have v3 := hV.2.2.1
  refine tq_iload_n 2 (dget dX0_isBroken 0 rfl) rfl rfl ?_
  refine tq_aload_n 1 (dget dX0_isBroken 1 rfl) rfl rfl ?_
  refine tq_getI (dget dX0_isBroken 2 rfl) fX0_40 rfl rfl ?_
  refine tq_icmp_lt (tgt := 12) (dget dX0_isBroken 3 rfl) (by decide) (fun c_5 => ?_) (fun c_5 => ?_)
  · rw [v1] at c_5
    have g_5 : ¬ S ≤ K := Nat.not_le.mpr (klt (by omega) (by omega) c_5)
    refine tq_iconst (v := 0) (dget dX0_isBroken 6 rfl) rfl ?_
    refine tq_istore_n (ls2 := [(3, .int 0), (0, .ref t), (1, .ref 1), (2, .int (nI K))]) (dget dX0_isBroken 7 rfl) rfl (by decide) rfl ?_
    refine tq_iconst (v := 0) (dget dX0_isBroken 8 rfl) rfl ?_
    refine tq_istore (ls2 := [(4, .int 0), (3, .int 0), (0, .ref t), (1, .ref 1), (2, .int (nI K))]) (dget dX0_isBroken 9 rfl) (by decide) rfl ?_
    refine tq_sub [0, 1, 2, 3, 4] (ls' := [(4, .int 0), (3, .int 0), (0, .ref t), (1, .ref 1), (2, .int (nI K))]) rfl ?_
    exact c_isBroken_outer t hT σ S M K hV hW hK 0 (BP.n g_5) (d + 1) (by omega) (M + 1) 0 (by omega) (by omega) (fun m hm9 => absurd hm9 (by omega))
  · rw [v1] at c_5
    have g_5 : S ≤ K := knlt (by omega) (by omega) c_5
    refine tq_iconst (v := 1) (dget dX0_isBroken 4 rfl) rfl ?_
    refine tq_goto (tgt := 13) (dget dX0_isBroken 5 rfl) (by decide) ?_
    refine tq_istore_n (ls2 := [(3, .int 1), (0, .ref t), (1, .ref 1), (2, .int (nI K))]) (dget dX0_isBroken 7 rfl) rfl (by decide) rfl ?_
    refine tq_iconst (v := 0) (dget dX0_isBroken 8 rfl) rfl ?_
    refine tq_istore (ls2 := [(4, .int 0), (3, .int 1), (0, .ref t), (1, .ref 1), (2, .int (nI K))]) (dget dX0_isBroken 9 rfl) (by decide) rfl ?_
    refine tq_sub [0, 1, 2, 3, 4] (ls' := [(4, .int 0), (3, .int 1), (0, .ref t), (1, .ref 1), (2, .int (nI K))]) rfl ?_
    exact c_isBroken_outer t hT σ S M K hV hW hK 1 (BP.y g_5) (d + 1) (by omega) (M + 1) 0 (by omega) (by omega) (fun m hm9 => absurd hm9 (by omega))
def forgF (σ : Mem) : Mem := begF 17 (up σ 13 4 0)
def addO (σ : Mem) (C s m : Nat) : Mem := up (up σ 14 C (nI s)) 15 C (nI m)
def addF (σ : Mem) (C s m : Nat) : Mem := up (up (askM 17 (addO σ C s m) s m) 16 C (askV 17 (addO σ C s m) s m)) 13 4 (nI (C + 1))
def goF (σ : Mem) (s m : Nat → Nat) : Nat → Mem
  | 0 => begF 17 σ
  | k + 1 => up (askM 17 (goF σ s m k) (s k) (m k)) 16 k (askV 17 (goF σ s m k) (s k) (m k))
theorem askM_row {t : Nat} {σ : Mem} {s m a : Nat} (h1 : a ≠ t + 1) (h2 : a ≠ t + 2) (h3 : a ≠ t + 3) : askM t σ s m a = σ a := by
  unfold askM wedF
  split
  · split
    · exact upR_n h1
    · exact (upR_n h2).trans (upR_n h3)
  · rfl
theorem begF_row {t : Nat} {σ : Mem} {a : Nat} (h1 : a ≠ t + 1) (h2 : a ≠ t + 2) (h3 : a ≠ t + 3) : begF t σ a = σ a := (upR_n h3).trans ((upR_n h2).trans (upR_n h1))
theorem goF_row (σ : Mem) (s m : Nat → Nat) {a : Nat} (h1 : a ≠ 18) (h2 : a ≠ 19) (h3 : a ≠ 20) (h4 : a ≠ 16) : ∀ k, goF σ s m k a = σ a
  | 0 => begF_row h1 h2 h3
  | k + 1 => (upR_n h4).trans ((askM_row h1 h2 h3).trans (goF_row σ s m h1 h2 h3 h4 k))

set_option maxHeartbeats 4000000 in
set_option maxRecDepth 20000 in
theorem c_forget (σ : Mem) (d : Nat) (hd : 2 ≤ d) : PMet d mX2_forget [.ref 13] σ (Pv (fun σ2 => σ2 = forgF σ)) := by
  obtain ⟨d, rfl⟩ : ∃ e, d = e + 1 := ⟨d - 1, by omega⟩
  refine PMet.start (ls0 := [(0, .ref 13)]) miX2_forget.1 (Nat.le_of_ble_eq_true rfl) rfl ?_
  refine tq_aload_n 0 (dget dX2_forget 0 rfl) rfl rfl ?_
  refine tq_iconst (v := 0) (dget dX2_forget 1 rfl) rfl ?_
  refine tq_putI (dget dX2_forget 2 rfl) fX2_28 rfl rfl rfl rfl ?_
  refine tq_aload_n 0 (dget dX2_forget 3 rfl) rfl rfl ?_
  refine tq_getR (dget dX2_forget 4 rfl) fX2_24 rfl rfl ?_
  refine mq_Vv (As := []) (rest := []) (dget dX2_forget 5 rfl) lX2_32 miX0_begin (c_begin 17 isD_17 (up σ 13 4 0) d (by omega)) rfl rfl rfl rfl (Nat.le_of_ble_eq_true rfl) (Nat.le_of_ble_eq_true rfl) (fun σ_9 h_9 => ?_)
  obtain rfl := Eq.symm h_9
  exact tq_vret rfl (dget dX2_forget 6 rfl) ⟨rfl, rfl⟩
set_option maxHeartbeats 4000000 in
set_option maxRecDepth 20000 in
theorem c_Oadd (σ : Mem) (C s m : Nat) (hC : σ 13 4 = nI C) (hC8 : C < 24) (hs6 : s < 6) (hm4 : m < 4) (d : Nat) (hd : 3 ≤ d) : PMet d mX2_add [.ref 13, .ref 1, .int (nI s), .int (nI m)] σ (Pi (fun v σ2 => v = nI C ∧ σ2 = addF σ C s m)) := by
  obtain ⟨d, rfl⟩ : ∃ e, d = e + 1 := ⟨d - 1, by omega⟩
  refine PMet.start (ls0 := [(0, .ref 13), (1, .ref 1), (2, .int (nI s)), (3, .int (nI m))]) miX2_add.1 (Nat.le_of_ble_eq_true rfl) rfl ?_
  refine tq_aload_n 0 (dget dX2_add 0 rfl) rfl rfl ?_
  refine tq_getI (dget dX2_add 1 rfl) fX2_28 rfl rfl ?_
  refine tq_eqi (y := (nI C)) hC ?_
  refine tq_istore (ls2 := [(4, .int (nI C)), (0, .ref 13), (1, .ref 1), (2, .int (nI s)), (3, .int (nI m))]) (dget dX2_add 2 rfl) (by decide) rfl ?_
  refine tq_aload_n 1 (dget dX2_add 3 rfl) rfl rfl ?_
  refine tq_getR (dget dX2_add 4 rfl) fX2_9 rfl rfl ?_
  refine tq_iload 0 (dget dX2_add 5 rfl) rfl ?_
  refine tq_iload_n 3 (dget dX2_add 6 rfl) rfl rfl ?_
  refine tq_iastN C (dget dX2_add 7 rfl) rfl (by decide) rfl (by omega) ?_
  refine tq_aload_n 1 (dget dX2_add 8 rfl) rfl rfl ?_
  refine tq_getR (dget dX2_add 9 rfl) fX2_15 rfl rfl ?_
  refine tq_iload 0 (dget dX2_add 10 rfl) rfl ?_
  refine tq_iload_n 4 (dget dX2_add 11 rfl) rfl rfl ?_
  refine tq_iastN C (dget dX2_add 12 rfl) rfl (by decide) rfl (by omega) ?_
  refine tq_aload_n 1 (dget dX2_add 13 rfl) rfl rfl ?_
  refine tq_getR (dget dX2_add 14 rfl) fX2_18 rfl rfl ?_
  refine tq_iload 0 (dget dX2_add 15 rfl) rfl ?_
  refine tq_aload_n 1 (dget dX2_add 16 rfl) rfl rfl ?_
  refine tq_getR (dget dX2_add 17 rfl) fX2_24 rfl rfl ?_
  refine tq_aload_n 2 (dget dX2_add 18 rfl) rfl rfl ?_
  refine tq_iload_n 3 (dget dX2_add 19 rfl) rfl rfl ?_
  refine tq_iload_n 4 (dget dX2_add 20 rfl) rfl rfl ?_
  refine mq_Vi (As := [.ref 1, .int (nI s), .int (nI m)]) (rest := [.int (nI C), .ref 16]) (dget dX2_add 21 rfl) lX2_35 miX0_ask (c_ask 17 isD_17 (up (up σ 14 C (nI s)) 15 C (nI m)) s m (by omega) (by omega) d (by omega)) rfl rfl rfl rfl (Nat.le_of_ble_eq_true rfl) (Nat.le_of_ble_eq_true rfl) (fun r_35 σ_35 h_35 => ?_)
  obtain ⟨a_35, e_35⟩ := h_35
  obtain rfl := a_35.symm
  obtain rfl := e_35.symm
  refine tq_iastN C (dget dX2_add 22 rfl) rfl (by decide) rfl (by omega) ?_
  refine tq_aload_n 1 (dget dX2_add 23 rfl) rfl rfl ?_
  refine tq_dup (dget dX2_add 24 rfl) rfl ?_
  refine tq_getI (dget dX2_add 25 rfl) fX2_28 rfl rfl ?_
  refine tq_eqi (y := (nI C)) ((congrFun (upR_n (by decide)) 4).trans ((congrFun (askM_row (by decide) (by decide) (by decide)) 4).trans hC)) ?_
  refine tq_iconst (v := 1) (dget dX2_add 26 rfl) rfl ?_
  refine tq_iadd (dget dX2_add 27 rfl) ?_
  refine tq_eqi (y := (nI (C + 1))) (nI_1 C) ?_
  refine tq_putI (dget dX2_add 28 rfl) fX2_28 rfl rfl rfl rfl ?_
  refine tq_iload 0 (dget dX2_add 29 rfl) rfl ?_
  exact tq_iret rfl (dget dX2_add 30 rfl) ⟨_, rfl, rfl, rfl⟩
set_option maxHeartbeats 4000000 in
set_option maxRecDepth 20000 in
theorem c_goThrough_loop (σ : Mem) (C : Nat) (s m : Nat → Nat) (hC : σ 13 4 = nI C) (hC8 : C ≤ 24) (hw : ∀ k, k < C → σ 14 k = nI (s k) ∧ s k < 6 ∧ σ 15 k = nI (m k) ∧ m k < 4) (d : Nat) (hd : 3 ≤ d) : ∀ (n : Nat) (k : Nat) (hm : C < k + n) (hk : k ≤ C), PAt (EM d (Pv (fun σ2 => σ2 = goF σ s m C))) mX2_goThrough 9 [(2, .int (nI k)), (0, .ref 13), (1, .ref 1)] [] (goF σ s m k) := by
  obtain ⟨d, rfl⟩ : ∃ e, d = e + 1 := ⟨d - 1, by omega⟩
  intro n
  induction n with
  | zero => intro k hm hk; exact absurd hm (by omega)
  | succ n ih =>
    intro k hm hk
    refine tq_iload_n 0 (dget dX2_goThrough 5 rfl) rfl rfl ?_
    refine tq_aload_n 1 (dget dX2_goThrough 6 rfl) rfl rfl ?_
    refine tq_getI (dget dX2_goThrough 7 rfl) fX2_28 rfl rfl ?_
    refine tq_eqi (y := (nI C)) ((congrFun (goF_row σ s m (by decide) (by decide) (by decide) (by decide) k) 4).trans hC) ?_
    refine tq_icmp_ge (tgt := 49) (dget dX2_goThrough 8 rfl) (by decide) (fun c_14 => ?_) (fun c_14 => ?_)
    · have g_14 := kle (by omega) (by omega) c_14
      have g_15 : k = C := by omega
      exact tq_vret rfl (dget dX2_goThrough 27 rfl) ⟨rfl, by rw [g_15]⟩
    · have g_14 := knle (by omega) (by omega) c_14
      have w1 := (hw k g_14).2.1
      have w2 := (hw k g_14).2.2.2
      refine tq_aload_n 1 (dget dX2_goThrough 9 rfl) rfl rfl ?_
      refine tq_getR (dget dX2_goThrough 10 rfl) fX2_18 rfl rfl ?_
      refine tq_iload_n 0 (dget dX2_goThrough 11 rfl) rfl rfl ?_
      refine tq_aload_n 1 (dget dX2_goThrough 12 rfl) rfl rfl ?_
      refine tq_getR (dget dX2_goThrough 13 rfl) fX2_24 rfl rfl ?_
      refine tq_aload_n 2 (dget dX2_goThrough 14 rfl) rfl rfl ?_
      refine tq_aload_n 1 (dget dX2_goThrough 15 rfl) rfl rfl ?_
      refine tq_getR (dget dX2_goThrough 16 rfl) fX2_9 rfl rfl ?_
      refine tq_iload_n 0 (dget dX2_goThrough 17 rfl) rfl rfl ?_
      refine tq_ialdN k (dget dX2_goThrough 18 rfl) rfl (by decide) rfl (by omega) ?_
      refine tq_eqi (y := (nI (s k))) ((congrFun (goF_row σ s m (by decide) (by decide) (by decide) (by decide) k) k).trans (hw k g_14).1) ?_
      refine tq_aload_n 1 (dget dX2_goThrough 19 rfl) rfl rfl ?_
      refine tq_getR (dget dX2_goThrough 20 rfl) fX2_15 rfl rfl ?_
      refine tq_iload_n 0 (dget dX2_goThrough 21 rfl) rfl rfl ?_
      refine tq_ialdN k (dget dX2_goThrough 22 rfl) rfl (by decide) rfl (by omega) ?_
      refine tq_eqi (y := (nI (m k))) ((congrFun (goF_row σ s m (by decide) (by decide) (by decide) (by decide) k) k).trans (hw k g_14).2.2.1) ?_
      refine mq_Vi (As := [.ref 1, .int (nI (s k)), .int (nI (m k))]) (rest := [.int (nI k), .ref 16]) (dget dX2_goThrough 23 rfl) lX2_35 miX0_ask (c_ask 17 isD_17 (goF σ s m k) (s k) (m k) (by omega) (by omega) d (by omega)) rfl rfl rfl rfl (Nat.le_of_ble_eq_true rfl) (Nat.le_of_ble_eq_true rfl) (fun r_39 σ_39 h_39 => ?_)
      obtain ⟨a_39, e_39⟩ := h_39
      obtain rfl := a_39.symm
      obtain rfl := e_39.symm
      refine tq_iastN k (dget dX2_goThrough 24 rfl) rfl (by decide) rfl (by omega) ?_
      refine tq_iinc (v := (nI (k + 1))) (ls2 := [(2, .int (nI (k + 1))), (0, .ref 13), (1, .ref 1)]) 0 (dget dX2_goThrough 25 rfl) rfl (nI_1 k) (by decide) rfl ?_
      refine tq_goto (tgt := 9) (dget dX2_goThrough 26 rfl) (by decide) ?_
      refine tq_sub [0, 1, 2] (ls' := [(2, .int (nI (k + 1))), (0, .ref 13), (1, .ref 1)]) rfl ?_
      exact ih (k + 1) (by omega) (by omega)
set_option maxHeartbeats 4000000 in
set_option maxRecDepth 20000 in
theorem c_goThrough (σ : Mem) (C : Nat) (s m : Nat → Nat) (hC : σ 13 4 = nI C) (hC8 : C ≤ 24) (hw : ∀ k, k < C → σ 14 k = nI (s k) ∧ s k < 6 ∧ σ 15 k = nI (m k) ∧ m k < 4) (d : Nat) (hd : 3 ≤ d) : PMet d mX2_goThrough [.ref 13, .ref 1] σ (Pv (fun σ2 => σ2 = goF σ s m C)) := by
  obtain ⟨d, rfl⟩ : ∃ e, d = e + 1 := ⟨d - 1, by omega⟩
  refine PMet.start (ls0 := [(0, .ref 13), (1, .ref 1)]) miX2_goThrough.1 (Nat.le_of_ble_eq_true rfl) rfl ?_
  refine tq_aload_n 0 (dget dX2_goThrough 0 rfl) rfl rfl ?_
  refine tq_getR (dget dX2_goThrough 1 rfl) fX2_24 rfl rfl ?_
  refine mq_Vv (As := []) (rest := []) (dget dX2_goThrough 2 rfl) lX2_32 miX0_begin (c_begin 17 isD_17 σ d (by omega)) rfl rfl rfl rfl (Nat.le_of_ble_eq_true rfl) (Nat.le_of_ble_eq_true rfl) (fun σ_4 h_4 => ?_)
  obtain rfl := Eq.symm h_4
  refine tq_iconst (v := 0) (dget dX2_goThrough 3 rfl) rfl ?_
  refine tq_istore_n (ls2 := [(2, .int 0), (0, .ref 13), (1, .ref 1)]) (dget dX2_goThrough 4 rfl) rfl (by decide) rfl ?_
  refine tq_sub [0, 1, 2] (ls' := [(2, .int 0), (0, .ref 13), (1, .ref 1)]) rfl ?_
  exact c_goThrough_loop σ C s m hC hC8 hw (d + 1) (by omega) (C + 1) 0 (by omega) (by omega)

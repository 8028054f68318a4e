/-! ===== the reference (4): matches ===== -/
def wfM (σ : Mem) : Prop := (∀ s, s < 6 → σ 54 s < 0 ∨ ∃ b, b < 4 ∧ σ 54 s = nI b) ∧ ∀ m, m < 4 → σ 53 m < 0 ∨ ∃ h, h < 6 ∧ σ 53 m = nI h
def ownHm (σ : Mem) (s : Nat) : Int32 := if σ 54 s < 0 then -1 else σ 45 (6 * (σ 54 s).toNatClampNeg + s)
def ownSm (σ : Mem) (m : Nat) : Int32 := if σ 53 m < 0 then -1 else σ 44 (6 * m + (σ 53 m).toNatClampNeg)
def wbm (σ : Mem) (m s : Nat) : Prop := ownHm σ s < σ 45 (6 * m + s) ∧ ownSm σ m < σ 44 (6 * m + s)
def frmP (σ : Mem) (S M : Nat) : Prop := ∀ m, m < M → ∀ s, s < S → ¬ wbm σ m s
def digN (R B k : Nat) : Nat := R / B ^ k % B
def layF (τ : Mem) (R S M : Nat) : Nat → Mem
  | 0 => τ
  | k + 1 => if digN R (M + 1) k < M then up (up (layF τ R S M k) 53 (digN R (M + 1) k) (nI (S - 1 - k))) 54 (S - 1 - k) (nI (digN R (M + 1) k)) else layF τ R S M k
def layOK (τ : Mem) (R S M n : Nat) : Prop := ∀ k, k < n → digN R (M + 1) k < M → layF τ R S M k 53 (digN R (M + 1) k) < 0
def brF (τ : Mem) (R M : Nat) : Nat → Mem
  | 0 => τ
  | k + 1 => askMm (brF τ R M k) k (digN R M k)
noncomputable def cntG (P : Nat → Prop) : Nat → Nat
  | 0 => 0
  | k + 1 => cntG P k + cnd (P k) 1 0
theorem cntG_le (P : Nat → Prop) : ∀ k, cntG P k ≤ k
  | 0 => Nat.le_refl _
  | k + 1 => by
    have h := cntG_le P k
    unfold cntG
    by_cases c : P k
    · rw [cnd_t c]; omega
    · rw [cnd_f c]; omega
noncomputable def fstG (P : Nat → Prop) : Nat → Option Nat
  | 0 => none
  | k + 1 => match fstG P k with
    | some r => some r
    | none => cnd (P k) (some k) none
theorem fstG_none {P : Nat → Prop} : ∀ k, (∀ r, r < k → ¬ P r) → fstG P k = none
  | 0, _ => rfl
  | k + 1, h => by
    unfold fstG
    rw [fstG_none k (fun r hr => h r (by omega))]
    exact cnd_f (h k (by omega)) _ _
theorem fstG_stay {P : Nat → Prop} {k r : Nat} (h : fstG P k = some r) : ∀ n, fstG P (k + n) = some r
  | 0 => h
  | n + 1 => by
    show fstG P ((k + n) + 1) = some r
    unfold fstG
    rw [fstG_stay h n]
def goodM (σ : Mem) (S M R : Nat) : Prop := layOK (begM σ) R S M S ∧ frmP (layF (begM σ) R S M S) S M
def brG (σ : Mem) (S M R : Nat) : Prop := frmP (brF (begM σ) R M S) S M
def fsV (σ : Mem) (S M : Nat) (y : Int32) : Option Nat → Int32
  | none => 0
  | some R => figM (layF (begM σ) R S M S 54 (cl y))
theorem wfM_beg (σ : Mem) : wfM (begM σ) := ⟨fun s hs => Or.inl (by rw [begM_54]; simp [hs]), fun m hm => Or.inl (by rw [begM_53]; simp [hm])⟩
theorem wfM_up53 {σ : Mem} {m s : Nat} (h : wfM σ) (hm : m < 4) (hs : s < 6) : wfM (up σ 53 m (nI s)) := by
  refine ⟨fun a ha => ?_, fun a ha => ?_⟩
  · rw [up_row (by decide)]; exact h.1 a ha
  · by_cases e : a = m
    · subst e; exact Or.inr ⟨s, hs, up_s⟩
    · rw [up_n (by omega)]; exact h.2 a ha
theorem wfM_up54 {σ : Mem} {m s : Nat} (h : wfM σ) (hm : m < 4) (hs : s < 6) : wfM (up σ 54 s (nI m)) := by
  refine ⟨fun a ha => ?_, fun a ha => ?_⟩
  · by_cases e : a = s
    · subst e; exact Or.inr ⟨m, hm, up_s⟩
    · rw [up_n (by omega)]; exact h.1 a ha
  · rw [up_row (by decide)]; exact h.2 a ha
theorem layF_ok {σ τ : Mem} {R S M : Nat} (hS : S ≤ 6) (hM : M ≤ 4) (h : SC σ τ) (hw : wfM τ) : ∀ k, k ≤ S → SC σ (layF τ R S M k) ∧ wfM (layF τ R S M k)
  | 0, _ => ⟨h, hw⟩
  | k + 1, hk => by
    obtain ⟨h1, h2⟩ := layF_ok (R := R) hS hM h hw k (by omega)
    unfold layF
    split
    · exact ⟨(h1.up53 (by omega) _).up54 (by omega) _, wfM_up54 (wfM_up53 h2 (by omega) (by omega)) (by omega) (by omega)⟩
    · exact ⟨h1, h2⟩
theorem askMm_ok {σ τ : Mem} {s m : Nat} (hs : s < 6) (hm : m < 4) (h : SC σ τ) (hw : wfM τ) : SC σ (askMm τ s m) ∧ wfM (askMm τ s m) := by
  unfold askMm
  split
  · split
    · refine ⟨h.up52 hm _, ?_⟩
      unfold wfM
      rw [up_row (by decide), up_row (by decide)]
      exact hw
    · exact ⟨(h.up53 hm _).up54 hs _, wfM_up54 (wfM_up53 hw hm hs) hm hs⟩
  · exact ⟨h, hw⟩
theorem brF_ok {σ τ : Mem} {R S M : Nat} (hS : S ≤ 6) (hM : M ≤ 4) (hM0 : 0 < M) (h : SC σ τ) (hw : wfM τ) : ∀ k, k ≤ S → SC σ (brF τ R M k) ∧ wfM (brF τ R M k)
  | 0, _ => ⟨h, hw⟩
  | k + 1, hk => by
    obtain ⟨h1, h2⟩ := brF_ok (R := R) hS hM hM0 h hw k (by omega)
    have h3 : digN R M k < M := Nat.mod_lt _ hM0
    exact askMm_ok (by omega) (by omega) h1 h2
theorem digN_div (R B k : Nat) : R / B ^ k / B = R / B ^ (k + 1) := by rw [Nat.div_div_eq_div_mul, Nat.pow_succ]
theorem pow5 {a S : Nat} (ha : a ≤ 5) (hS : S ≤ 6) : a ^ S ≤ 15625 := by
  have h2 : ∀ x, x < 6 → ∀ y, y < 7 → x ^ y ≤ 15625 := by decide +kernel
  exact h2 a (by omega) S (by omega)

set_option maxHeartbeats 4000000 in
set_option maxRecDepth 20000 in
theorem k_likesHer (σ : Mem) (hW : wfM σ) (s : Nat) (hs6 : s < 6) (d : Nat) (hd : 0 ≤ d) : PMet d mX8_likesHer [.ref 42, .int (nI s)] σ (Pi (fun v σ2 => v = ownHm σ s ∧ σ2 = σ)) := by
  refine PMet.start (ls0 := [(0, .ref 42), (1, .int (nI s))]) miX8_likesHer.1 (Nat.le_of_ble_eq_true rfl) rfl ?_
  refine tq_aload_n 0 (dget dX8_likesHer 0 rfl) rfl rfl ?_
  refine tq_getR (dget dX8_likesHer 1 rfl) fX8_43 rfl rfl ?_
  refine tq_iload_n 1 (dget dX8_likesHer 2 rfl) rfl rfl ?_
  refine tq_ialdN s (dget dX8_likesHer 3 rfl) rfl (by decide) rfl (by omega) ?_
  refine tq_if_ge (tgt := 13) (dget dX8_likesHer 4 rfl) (by decide) (fun c_6 => ?_) (fun c_6 => ?_)
  · obtain ⟨b, hb, e_b⟩ := (hW.1 s hs6).resolve_left (Int32.not_lt.mpr c_6)
    refine tq_aload_n 0 (dget dX8_likesHer 7 rfl) rfl rfl ?_
    refine tq_getR (dget dX8_likesHer 8 rfl) fX8_16 rfl rfl ?_
    refine tq_bipush (v := 6) (dget dX8_likesHer 9 rfl) rfl ?_
    refine tq_aload_n 0 (dget dX8_likesHer 10 rfl) rfl rfl ?_
    refine tq_getR (dget dX8_likesHer 11 rfl) fX8_43 rfl rfl ?_
    refine tq_iload_n 1 (dget dX8_likesHer 12 rfl) rfl rfl ?_
    refine tq_ialdN s (dget dX8_likesHer 13 rfl) rfl (by decide) rfl (by omega) ?_
    refine tq_eqi (y := (nI b)) e_b ?_
    refine tq_imul (dget dX8_likesHer 14 rfl) ?_
    refine tq_eqi (y := (nI (6 * b))) (nI_mulN (6) (b)) ?_
    refine tq_iload_n 1 (dget dX8_likesHer 15 rfl) rfl rfl ?_
    refine tq_iadd (dget dX8_likesHer 16 rfl) ?_
    refine tq_eqi (y := (nI ((6 * b) + s))) (nI_add ((6 * b)) (s)) ?_
    refine tq_ialdN ((6 * b) + s) (dget dX8_likesHer 17 rfl) rfl (by decide) rfl (by omega) ?_
    exact tq_iret rfl (dget dX8_likesHer 18 rfl) ⟨_, rfl, by unfold ownHm; rw [if_neg (Int32.not_lt.mpr c_6), e_b, nI_clamp (by omega)], rfl⟩
  · have g_6 := c_6
    refine tq_iconst (v := (-1)) (dget dX8_likesHer 5 rfl) rfl ?_
    refine tq_goto (tgt := 29) (dget dX8_likesHer 6 rfl) (by decide) ?_
    exact tq_iret rfl (dget dX8_likesHer 18 rfl) ⟨_, rfl, by unfold ownHm; rw [if_pos (Int32.not_le.mp c_6)], rfl⟩
set_option maxHeartbeats 4000000 in
set_option maxRecDepth 20000 in
theorem k_likesHim (σ : Mem) (hW : wfM σ) (m : Nat) (hm4 : m < 4) (d : Nat) (hd : 0 ≤ d) : PMet d mX8_likesHim [.ref 42, .int (nI m)] σ (Pi (fun v σ2 => v = ownSm σ m ∧ σ2 = σ)) := by
  refine PMet.start (ls0 := [(0, .ref 42), (1, .int (nI m))]) miX8_likesHim.1 (Nat.le_of_ble_eq_true rfl) rfl ?_
  refine tq_aload_n 0 (dget dX8_likesHim 0 rfl) rfl rfl ?_
  refine tq_getR (dget dX8_likesHim 1 rfl) fX8_40 rfl rfl ?_
  refine tq_iload_n 1 (dget dX8_likesHim 2 rfl) rfl rfl ?_
  refine tq_ialdN m (dget dX8_likesHim 3 rfl) rfl (by decide) rfl (by omega) ?_
  refine tq_if_ge (tgt := 13) (dget dX8_likesHim 4 rfl) (by decide) (fun c_6 => ?_) (fun c_6 => ?_)
  · obtain ⟨b, hb, e_b⟩ := (hW.2 m hm4).resolve_left (Int32.not_lt.mpr c_6)
    refine tq_aload_n 0 (dget dX8_likesHim 7 rfl) rfl rfl ?_
    refine tq_getR (dget dX8_likesHim 8 rfl) fX8_13 rfl rfl ?_
    refine tq_bipush (v := 6) (dget dX8_likesHim 9 rfl) rfl ?_
    refine tq_iload_n 1 (dget dX8_likesHim 10 rfl) rfl rfl ?_
    refine tq_imul (dget dX8_likesHim 11 rfl) ?_
    refine tq_eqi (y := (nI (6 * m))) (nI_mulN (6) (m)) ?_
    refine tq_aload_n 0 (dget dX8_likesHim 12 rfl) rfl rfl ?_
    refine tq_getR (dget dX8_likesHim 13 rfl) fX8_40 rfl rfl ?_
    refine tq_iload_n 1 (dget dX8_likesHim 14 rfl) rfl rfl ?_
    refine tq_ialdN m (dget dX8_likesHim 15 rfl) rfl (by decide) rfl (by omega) ?_
    refine tq_eqi (y := (nI b)) e_b ?_
    refine tq_iadd (dget dX8_likesHim 16 rfl) ?_
    refine tq_eqi (y := (nI ((6 * m) + b))) (nI_add ((6 * m)) (b)) ?_
    refine tq_ialdN ((6 * m) + b) (dget dX8_likesHim 17 rfl) rfl (by decide) rfl (by omega) ?_
    exact tq_iret rfl (dget dX8_likesHim 18 rfl) ⟨_, rfl, by unfold ownSm; rw [if_neg (Int32.not_lt.mpr c_6), e_b, nI_clamp (by omega)], rfl⟩
  · refine tq_iconst (v := (-1)) (dget dX8_likesHim 5 rfl) rfl ?_
    refine tq_goto (tgt := 29) (dget dX8_likesHim 6 rfl) (by decide) ?_
    exact tq_iret rfl (dget dX8_likesHim 18 rfl) ⟨_, rfl, by unfold ownSm; rw [if_pos (Int32.not_le.mp c_6)], rfl⟩
set_option maxHeartbeats 4000000 in
set_option maxRecDepth 20000 in
theorem k_isFirm_inner (σ : Mem) (S M : Nat) (hV : VM σ S M) (hW : wfM σ) (j : Nat) (hj : j < M) (d : Nat) (hd : 1 ≤ d) : ∀ (n : Nat) (i : Nat) (is : Int32) (hm : S < i + n) (hi : i ≤ S) (hA : BP ((∀ m, m < j → ∀ s, s < S → ¬ wbm σ m s) ∧ ∀ s, s < i → ¬ wbm σ j s) is) (hout : ∀ is2, BP (∀ m, m < j + 1 → ∀ s, s < S → ¬ wbm σ m s) is2 → PAt (EM d (Pi (fun v σ2 => BP (frmP σ S M) v ∧ σ2 = σ))) mX8_isFirm 4 [(2, .int (nI (j + 1))), (1, .int is2), (0, .ref 42)] [] σ), PAt (EM d (Pi (fun v σ2 => BP (frmP σ S M) v ∧ σ2 = σ))) mX8_isFirm 14 [(3, .int (nI i)), (2, .int (nI j)), (1, .int is), (0, .ref 42)] [] σ := by
  obtain ⟨d, rfl⟩ : ∃ e, d = e + 1 := ⟨d - 1, by omega⟩
  intro n
  induction n with
  | zero => intro i is hm hi hA hout; exact absurd hm (by omega)
  | succ n ih =>
    intro i is hm hi hA hout
    obtain ⟨v1, v2, v3, v4⟩ := hV
    refine tq_iload_n 0 (dget dX8_isFirm 10 rfl) rfl rfl ?_
    refine tq_aload_n 3 (dget dX8_isFirm 11 rfl) rfl rfl ?_
    refine tq_getI (dget dX8_isFirm 12 rfl) fX8_81 rfl rfl ?_
    refine tq_icmp_ge (tgt := 88) (dget dX8_isFirm 13 rfl) (by decide) (fun c_19 => ?_) (fun c_19 => ?_)
    · rw [v1] at c_19
      have g_19 := kle (by omega) (by omega) c_19
      have g_20 : i = S := by omega
      refine tq_iinc (v := (nI (j + 1))) (ls2 := [(2, .int (nI (j + 1))), (3, .int (nI i)), (1, .int is), (0, .ref 42)]) 1 (dget dX8_isFirm 52 rfl) rfl (nI_1 j) (by decide) rfl ?_
      refine tq_goto (tgt := 4) (dget dX8_isFirm 53 rfl) (by decide) ?_
      refine tq_sub [0, 2, 3] (ls' := [(2, .int (nI (j + 1))), (1, .int is), (0, .ref 42)]) rfl ?_
      exact hout is (hA.iff ⟨fun q m h1 s h2 => if e : m = j then e ▸ q.2 s (by omega) else q.1 m (by omega) s h2, fun q => ⟨fun m h1 => q m (by omega), fun s h2 => q j (by omega) s (by omega)⟩⟩)
    · rw [v1] at c_19
      have g_19 := knle (by omega) (by omega) c_19
      refine tq_aload_n 3 (dget dX8_isFirm 14 rfl) rfl rfl ?_
      refine tq_getR (dget dX8_isFirm 15 rfl) fX8_16 rfl rfl ?_
      refine tq_bipush (v := 6) (dget dX8_isFirm 16 rfl) rfl ?_
      refine tq_iload_n 1 (dget dX8_isFirm 17 rfl) rfl rfl ?_
      refine tq_imul (dget dX8_isFirm 18 rfl) ?_
      refine tq_eqi (y := (nI (6 * j))) (nI_mulN (6) (j)) ?_
      refine tq_iload_n 0 (dget dX8_isFirm 19 rfl) rfl rfl ?_
      refine tq_iadd (dget dX8_isFirm 20 rfl) ?_
      refine tq_eqi (y := (nI ((6 * j) + i))) (nI_add ((6 * j)) (i)) ?_
      refine tq_ialdN ((6 * j) + i) (dget dX8_isFirm 21 rfl) rfl (by decide) rfl (by omega) ?_
      refine tq_aload_n 3 (dget dX8_isFirm 22 rfl) rfl rfl ?_
      refine tq_iload_n 0 (dget dX8_isFirm 23 rfl) rfl rfl ?_
      refine mq_Vi (As := [.int (nI i)]) (rest := [.int (σ 45 ((6 * j) + i))]) (dget dX8_isFirm 24 rfl) lX8_188 miX8_likesHer (k_likesHer σ hW i (by omega) d (by omega)) rfl rfl rfl rfl (Nat.le_of_ble_eq_true rfl) (Nat.le_of_ble_eq_true rfl) (fun r_35 σ_35 h_35 => ?_)
      obtain ⟨a_35, e_35⟩ := h_35
      obtain rfl := a_35.symm
      obtain rfl := e_35.symm
      refine tq_icmp_le (tgt := 64) (dget dX8_isFirm 25 rfl) (by decide) (fun c_38 => ?_) (fun c_38 => ?_)
      · refine tq_iconst (v := 0) (dget dX8_isFirm 40 rfl) rfl ?_
        refine tq_istore (ls2 := [(4, .int 0), (3, .int (nI i)), (2, .int (nI j)), (1, .int is), (0, .ref 42)]) (dget dX8_isFirm 41 rfl) (by decide) rfl ?_
        refine tq_iload_n 3 (dget dX8_isFirm 42 rfl) rfl rfl ?_
        refine tq_if_eq (tgt := 80) (dget dX8_isFirm 43 rfl) (by decide) (fun c_68 => ?_) (fun c_68 => ?_)
        · refine tq_iconst (v := 0) (dget dX8_isFirm 48 rfl) rfl ?_
          refine tq_istore_n (ls2 := [(1, .int 0), (4, .int 0), (3, .int (nI i)), (2, .int (nI j)), (0, .ref 42)]) (dget dX8_isFirm 49 rfl) rfl (by decide) rfl ?_
          refine tq_iinc (v := (nI (i + 1))) (ls2 := [(3, .int (nI (i + 1))), (1, .int 0), (4, .int 0), (2, .int (nI j)), (0, .ref 42)]) 2 (dget dX8_isFirm 50 rfl) rfl (nI_1 i) (by decide) rfl ?_
          refine tq_goto (tgt := 14) (dget dX8_isFirm 51 rfl) (by decide) ?_
          refine tq_sub [0, 3, 1, 4] (ls' := [(3, .int (nI (i + 1))), (2, .int (nI j)), (1, .int 0), (0, .ref 42)]) rfl ?_
          exact ih (i + 1) 0 (by omega) (by omega) (BP.n (fun q => hA.f c_68 ⟨q.1, fun s hs => q.2 s (by omega)⟩)) hout
        · refine tq_iload 0 (dget dX8_isFirm 44 rfl) rfl ?_
          refine tq_if_ne (tgt := 80) (dget dX8_isFirm 45 rfl) (by decide) (fun c_73 => ?_) (fun c_73 => ?_)
          · exact absurd c_73 (by decide)
          · refine tq_iconst (v := 1) (dget dX8_isFirm 46 rfl) rfl ?_
            refine tq_goto (tgt := 81) (dget dX8_isFirm 47 rfl) (by decide) ?_
            refine tq_istore_n (ls2 := [(1, .int 1), (4, .int 0), (3, .int (nI i)), (2, .int (nI j)), (0, .ref 42)]) (dget dX8_isFirm 49 rfl) rfl (by decide) rfl ?_
            refine tq_iinc (v := (nI (i + 1))) (ls2 := [(3, .int (nI (i + 1))), (1, .int 1), (4, .int 0), (2, .int (nI j)), (0, .ref 42)]) 2 (dget dX8_isFirm 50 rfl) rfl (nI_1 i) (by decide) rfl ?_
            refine tq_goto (tgt := 14) (dget dX8_isFirm 51 rfl) (by decide) ?_
            refine tq_sub [0, 3, 1, 4] (ls' := [(3, .int (nI (i + 1))), (2, .int (nI j)), (1, .int 1), (0, .ref 42)]) rfl ?_
            exact ih (i + 1) 1 (by omega) (by omega) (BP.y ⟨(hA.t c_68).1, fun s hs => if e : s = i then e ▸ (fun q => absurd q.1 (Int32.not_lt.mpr c_38)) else (hA.t c_68).2 s (by omega)⟩) hout
      · refine tq_aload_n 3 (dget dX8_isFirm 26 rfl) rfl rfl ?_
        refine tq_getR (dget dX8_isFirm 27 rfl) fX8_13 rfl rfl ?_
        refine tq_bipush (v := 6) (dget dX8_isFirm 28 rfl) rfl ?_
        refine tq_iload_n 1 (dget dX8_isFirm 29 rfl) rfl rfl ?_
        refine tq_imul (dget dX8_isFirm 30 rfl) ?_
        refine tq_eqi (y := (nI (6 * j))) (nI_mulN (6) (j)) ?_
        refine tq_iload_n 0 (dget dX8_isFirm 31 rfl) rfl rfl ?_
        refine tq_iadd (dget dX8_isFirm 32 rfl) ?_
        refine tq_eqi (y := (nI ((6 * j) + i))) (nI_add ((6 * j)) (i)) ?_
        refine tq_ialdN ((6 * j) + i) (dget dX8_isFirm 33 rfl) rfl (by decide) rfl (by omega) ?_
        refine tq_aload_n 3 (dget dX8_isFirm 34 rfl) rfl rfl ?_
        refine tq_iload_n 1 (dget dX8_isFirm 35 rfl) rfl rfl ?_
        refine mq_Vi (As := [.int (nI j)]) (rest := [.int (σ 44 ((6 * j) + i))]) (dget dX8_isFirm 36 rfl) lX8_191 miX8_likesHim (k_likesHim σ hW j (by omega) d (by omega)) rfl rfl rfl rfl (Nat.le_of_ble_eq_true rfl) (Nat.le_of_ble_eq_true rfl) (fun r_54 σ_54 h_54 => ?_)
        obtain ⟨a_54, e_54⟩ := h_54
        obtain rfl := a_54.symm
        obtain rfl := e_54.symm
        refine tq_icmp_le (tgt := 64) (dget dX8_isFirm 37 rfl) (by decide) (fun c_57 => ?_) (fun c_57 => ?_)
        · refine tq_iconst (v := 0) (dget dX8_isFirm 40 rfl) rfl ?_
          refine tq_istore (ls2 := [(4, .int 0), (3, .int (nI i)), (2, .int (nI j)), (1, .int is), (0, .ref 42)]) (dget dX8_isFirm 41 rfl) (by decide) rfl ?_
          refine tq_iload_n 3 (dget dX8_isFirm 42 rfl) rfl rfl ?_
          refine tq_if_eq (tgt := 80) (dget dX8_isFirm 43 rfl) (by decide) (fun c_68 => ?_) (fun c_68 => ?_)
          · refine tq_iconst (v := 0) (dget dX8_isFirm 48 rfl) rfl ?_
            refine tq_istore_n (ls2 := [(1, .int 0), (4, .int 0), (3, .int (nI i)), (2, .int (nI j)), (0, .ref 42)]) (dget dX8_isFirm 49 rfl) rfl (by decide) rfl ?_
            refine tq_iinc (v := (nI (i + 1))) (ls2 := [(3, .int (nI (i + 1))), (1, .int 0), (4, .int 0), (2, .int (nI j)), (0, .ref 42)]) 2 (dget dX8_isFirm 50 rfl) rfl (nI_1 i) (by decide) rfl ?_
            refine tq_goto (tgt := 14) (dget dX8_isFirm 51 rfl) (by decide) ?_
            refine tq_sub [0, 3, 1, 4] (ls' := [(3, .int (nI (i + 1))), (2, .int (nI j)), (1, .int 0), (0, .ref 42)]) rfl ?_
            exact ih (i + 1) 0 (by omega) (by omega) (BP.n (fun q => hA.f c_68 ⟨q.1, fun s hs => q.2 s (by omega)⟩)) hout
          · refine tq_iload 0 (dget dX8_isFirm 44 rfl) rfl ?_
            refine tq_if_ne (tgt := 80) (dget dX8_isFirm 45 rfl) (by decide) (fun c_73 => ?_) (fun c_73 => ?_)
            · exact absurd c_73 (by decide)
            · refine tq_iconst (v := 1) (dget dX8_isFirm 46 rfl) rfl ?_
              refine tq_goto (tgt := 81) (dget dX8_isFirm 47 rfl) (by decide) ?_
              refine tq_istore_n (ls2 := [(1, .int 1), (4, .int 0), (3, .int (nI i)), (2, .int (nI j)), (0, .ref 42)]) (dget dX8_isFirm 49 rfl) rfl (by decide) rfl ?_
              refine tq_iinc (v := (nI (i + 1))) (ls2 := [(3, .int (nI (i + 1))), (1, .int 1), (4, .int 0), (2, .int (nI j)), (0, .ref 42)]) 2 (dget dX8_isFirm 50 rfl) rfl (nI_1 i) (by decide) rfl ?_
              refine tq_goto (tgt := 14) (dget dX8_isFirm 51 rfl) (by decide) ?_
              refine tq_sub [0, 3, 1, 4] (ls' := [(3, .int (nI (i + 1))), (2, .int (nI j)), (1, .int 1), (0, .ref 42)]) rfl ?_
              exact ih (i + 1) 1 (by omega) (by omega) (BP.y ⟨(hA.t c_68).1, fun s hs => if e : s = i then e ▸ (fun q => absurd q.2 (Int32.not_lt.mpr c_57)) else (hA.t c_68).2 s (by omega)⟩) hout
        · refine tq_iconst (v := 1) (dget dX8_isFirm 38 rfl) rfl ?_
          refine tq_goto (tgt := 65) (dget dX8_isFirm 39 rfl) (by decide) ?_
          refine tq_istore (ls2 := [(4, .int 1), (3, .int (nI i)), (2, .int (nI j)), (1, .int is), (0, .ref 42)]) (dget dX8_isFirm 41 rfl) (by decide) rfl ?_
          refine tq_iload_n 3 (dget dX8_isFirm 42 rfl) rfl rfl ?_
          refine tq_if_eq (tgt := 80) (dget dX8_isFirm 43 rfl) (by decide) (fun c_68 => ?_) (fun c_68 => ?_)
          · refine tq_iconst (v := 0) (dget dX8_isFirm 48 rfl) rfl ?_
            refine tq_istore_n (ls2 := [(1, .int 0), (4, .int 1), (3, .int (nI i)), (2, .int (nI j)), (0, .ref 42)]) (dget dX8_isFirm 49 rfl) rfl (by decide) rfl ?_
            refine tq_iinc (v := (nI (i + 1))) (ls2 := [(3, .int (nI (i + 1))), (1, .int 0), (4, .int 1), (2, .int (nI j)), (0, .ref 42)]) 2 (dget dX8_isFirm 50 rfl) rfl (nI_1 i) (by decide) rfl ?_
            refine tq_goto (tgt := 14) (dget dX8_isFirm 51 rfl) (by decide) ?_
            refine tq_sub [0, 3, 1, 4] (ls' := [(3, .int (nI (i + 1))), (2, .int (nI j)), (1, .int 0), (0, .ref 42)]) rfl ?_
            exact ih (i + 1) 0 (by omega) (by omega) (BP.n (fun q => hA.f c_68 ⟨q.1, fun s hs => q.2 s (by omega)⟩)) hout
          · refine tq_iload 0 (dget dX8_isFirm 44 rfl) rfl ?_
            refine tq_if_ne (tgt := 80) (dget dX8_isFirm 45 rfl) (by decide) (fun c_73 => ?_) (fun c_73 => ?_)
            · refine tq_iconst (v := 0) (dget dX8_isFirm 48 rfl) rfl ?_
              refine tq_istore_n (ls2 := [(1, .int 0), (4, .int 1), (3, .int (nI i)), (2, .int (nI j)), (0, .ref 42)]) (dget dX8_isFirm 49 rfl) rfl (by decide) rfl ?_
              refine tq_iinc (v := (nI (i + 1))) (ls2 := [(3, .int (nI (i + 1))), (1, .int 0), (4, .int 1), (2, .int (nI j)), (0, .ref 42)]) 2 (dget dX8_isFirm 50 rfl) rfl (nI_1 i) (by decide) rfl ?_
              refine tq_goto (tgt := 14) (dget dX8_isFirm 51 rfl) (by decide) ?_
              refine tq_sub [0, 3, 1, 4] (ls' := [(3, .int (nI (i + 1))), (2, .int (nI j)), (1, .int 0), (0, .ref 42)]) rfl ?_
              exact ih (i + 1) 0 (by omega) (by omega) (BP.n (fun q => q.2 i (by omega) ⟨Int32.not_le.mp c_38, Int32.not_le.mp c_57⟩)) hout
            · exact absurd c_73 (by decide)
set_option maxHeartbeats 4000000 in
set_option maxRecDepth 20000 in
theorem k_isFirm_outer (σ : Mem) (S M : Nat) (hV : VM σ S M) (hW : wfM σ) (d : Nat) (hd : 1 ≤ d) : ∀ (n : Nat) (j : Nat) (is : Int32) (hm : M < j + n) (hj : j ≤ M) (hA : BP (∀ m, m < j → ∀ s, s < S → ¬ wbm σ m s) is), PAt (EM d (Pi (fun v σ2 => BP (frmP σ S M) v ∧ σ2 = σ))) mX8_isFirm 4 [(2, .int (nI j)), (1, .int is), (0, .ref 42)] [] σ := by
  obtain ⟨d, rfl⟩ : ∃ e, d = e + 1 := ⟨d - 1, by omega⟩
  intro n
  induction n with
  | zero => intro j is hm hj hA; exact absurd hm (by omega)
  | succ n ih =>
    intro j is hm hj hA
    obtain ⟨v1, v2, v3, v4⟩ := id hV
    refine tq_iload_n 0 (dget dX8_isFirm 4 rfl) rfl rfl ?_
    refine tq_aload_n 2 (dget dX8_isFirm 5 rfl) rfl rfl ?_
    refine tq_getI (dget dX8_isFirm 6 rfl) fX8_88 rfl rfl ?_
    refine tq_icmp_ge (tgt := 94) (dget dX8_isFirm 7 rfl) (by decide) (fun c_9 => ?_) (fun c_9 => ?_)
    · rw [v2] at c_9
      have g_9 := kle (by omega) (by omega) c_9
      have g_10 : j = M := by omega
      refine tq_iload_n 1 (dget dX8_isFirm 54 rfl) rfl rfl ?_
      exact tq_zret rfl (by rcases hA with q | q <;> rw [q.1] <;> rfl) (dget dX8_isFirm 55 rfl) ⟨_, rfl, by rw [g_10] at hA; exact hA, rfl⟩
    · rw [v2] at c_9
      have g_9 := knle (by omega) (by omega) c_9
      refine tq_iconst (v := 0) (dget dX8_isFirm 8 rfl) rfl ?_
      refine tq_istore_n (ls2 := [(3, .int 0), (2, .int (nI j)), (1, .int is), (0, .ref 42)]) (dget dX8_isFirm 9 rfl) rfl (by decide) rfl ?_
      refine tq_sub [0, 1, 2, 3] (ls' := [(3, .int 0), (2, .int (nI j)), (1, .int is), (0, .ref 42)]) rfl ?_
      exact k_isFirm_inner σ S M hV hW j g_9 (d + 1) (by omega) (S + 1) 0 is (by omega) (by omega) (hA.iff ⟨fun q => ⟨q, fun s hs => absurd hs (by omega)⟩, fun q => q.1⟩) (fun is2 h2 => ih (j + 1) is2 (by omega) (by omega) h2)
set_option maxHeartbeats 4000000 in
set_option maxRecDepth 20000 in
theorem k_isFirm (σ : Mem) (S M : Nat) (hV : VM σ S M) (hW : wfM σ) (d : Nat) (hd : 1 ≤ d) : PMet d mX8_isFirm [.ref 42] σ (Pi (fun v σ2 => BP (frmP σ S M) v ∧ σ2 = σ)) := by
  obtain ⟨d, rfl⟩ : ∃ e, d = e + 1 := ⟨d - 1, by omega⟩
  refine PMet.start (ls0 := [(0, .ref 42)]) miX8_isFirm.1 (Nat.le_of_ble_eq_true rfl) rfl ?_
  refine tq_iconst (v := 1) (dget dX8_isFirm 0 rfl) rfl ?_
  refine tq_istore_n (ls2 := [(1, .int 1), (0, .ref 42)]) (dget dX8_isFirm 1 rfl) rfl (by decide) rfl ?_
  refine tq_iconst (v := 0) (dget dX8_isFirm 2 rfl) rfl ?_
  refine tq_istore_n (ls2 := [(2, .int 0), (1, .int 1), (0, .ref 42)]) (dget dX8_isFirm 3 rfl) rfl (by decide) rfl ?_
  refine tq_sub [0, 1, 2] (ls' := [(2, .int 0), (1, .int 1), (0, .ref 42)]) rfl ?_
  exact k_isFirm_outer σ S M hV hW (d + 1) (by omega) (M + 1) 0 1 (by omega) (by omega) (BP.y (fun m hm => absurd hm (by omega)))
set_option maxHeartbeats 4000000 in
set_option maxRecDepth 20000 in
theorem k_lays_loop (σ : Mem) (S M R : Nat) (hV : VM σ S M) (hR : R < 2 ^ 31) (d : Nat) (hd : 1 ≤ d) : ∀ (n : Nat) (j : Nat) (is : Int32) (hm : j < n) (hj : j ≤ S) (hA : BP (layOK (begM σ) R S M (S - j)) is), PAt (EM d (Pi (fun v σ2 => BP (layOK (begM σ) R S M S) v ∧ σ2 = layF (begM σ) R S M S))) mX8_laysMatch 16 [(4, .int (nI j - 1)), (2, .int (nI (R / (M + 1) ^ (S - j)))), (3, .int is), (0, .ref 42), (1, .int (nI R))] [] (layF (begM σ) R S M (S - j)) := by
  obtain ⟨d, rfl⟩ : ∃ e, d = e + 1 := ⟨d - 1, by omega⟩
  intro n
  induction n with
  | zero => intro j is hm hj hA; exact absurd hm (by omega)
  | succ n ih =>
    intro j is hm hj hA
    have hT := (layF_ok (R := R) hV.2.2.1 hV.2.2.2 (SC.beg σ) (wfM_beg σ) (S - j) (by omega)).1
    obtain ⟨v1, v2, v3, v4⟩ := VM_SC hV hT
    have hdl := Nat.div_le_self R ((M + 1) ^ (S - j))
    refine tq_iload 0 (dget dX8_laysMatch 11 rfl) rfl ?_
    refine tq_if_lt (tgt := 93) (dget dX8_laysMatch 12 rfl) (by decide) (fun c_18 => ?_) (fun c_18 => ?_)
    · have g_18 : j = 0 := by by_cases z : j = 0; exact z; exact absurd c_18 (by obtain ⟨i, rfl⟩ : ∃ i, j = i + 1 := ⟨j - 1, by omega⟩; rw [nI_pred]; exact nI_pos (by omega))
      refine tq_iload_n 2 (dget dX8_laysMatch 54 rfl) rfl rfl ?_
      exact tq_zret rfl (by rcases hA with q | q <;> rw [q.1] <;> rfl) (dget dX8_laysMatch 55 rfl) ⟨_, rfl, by rw [g_18] at hA; exact hA, by rw [g_18]; rfl⟩
    · have g_18 : ¬ j = 0 := fun z => c_18 (by rw [z]; decide)
      obtain ⟨j0, rfl⟩ : ∃ i, j = i + 1 := ⟨j - 1, by omega⟩
      refine tq_sub [0, 1, 2, 3, 4] (ls' := [(4, .int (nI j0)), (2, .int (nI (R / (M + 1) ^ (S - (j0 + 1))))), (3, .int is), (0, .ref 42), (1, .int (nI R))]) (by rw [nI_pred]; rfl) ?_
      have hdg : digN R (M + 1) (S - (j0 + 1)) ≤ M := Nat.le_of_lt_succ (Nat.mod_lt _ (by omega))
      refine tq_iload_n 1 (dget dX8_laysMatch 13 rfl) rfl rfl ?_
      refine tq_aload_n 3 (dget dX8_laysMatch 14 rfl) rfl rfl ?_
      refine tq_getI (dget dX8_laysMatch 15 rfl) fX8_88 rfl rfl ?_
      refine tq_eqi (y := (nI M)) v2 ?_
      refine tq_iconst (v := 1) (dget dX8_laysMatch 16 rfl) rfl ?_
      refine tq_iadd (dget dX8_laysMatch 17 rfl) ?_
      refine tq_eqi (y := (nI (M + 1))) (nI_add (M) (1)) ?_
      refine tq_irem (dget dX8_laysMatch 18 rfl) (nI_ne0 (by omega) (by omega)) ?_
      refine tq_eqi (y := (nI (digN R (M + 1) (S - (j0 + 1))))) (nI_modN (by omega) (by omega)) ?_
      refine tq_istore (ls2 := [(5, .int (nI (digN R (M + 1) (S - (j0 + 1))))), (4, .int (nI j0)), (2, .int (nI (R / (M + 1) ^ (S - (j0 + 1))))), (3, .int is), (0, .ref 42), (1, .int (nI R))]) (dget dX8_laysMatch 19 rfl) (by decide) rfl ?_
      refine tq_iload_n 2 (dget dX8_laysMatch 20 rfl) rfl rfl ?_
      refine tq_aload_n 4 (dget dX8_laysMatch 21 rfl) rfl rfl ?_
      refine tq_getI (dget dX8_laysMatch 22 rfl) fX8_88 rfl rfl ?_
      refine tq_eqi (y := (nI M)) v2 ?_
      refine tq_iconst (v := 1) (dget dX8_laysMatch 23 rfl) rfl ?_
      refine tq_iadd (dget dX8_laysMatch 24 rfl) ?_
      refine tq_eqi (y := (nI (M + 1))) (nI_add (M) (1)) ?_
      refine tq_idiv (dget dX8_laysMatch 25 rfl) (nI_ne0 (by omega) (by omega)) ?_
      refine tq_eqi (y := (nI (R / (M + 1) ^ (S - (j0 + 1)) / (M + 1)))) (nI_divN (by omega) (by omega)) ?_
      refine tq_istore_n (ls2 := [(2, .int (nI (R / (M + 1) ^ (S - (j0 + 1)) / (M + 1)))), (5, .int (nI (digN R (M + 1) (S - (j0 + 1))))), (4, .int (nI j0)), (3, .int is), (0, .ref 42), (1, .int (nI R))]) (dget dX8_laysMatch 26 rfl) rfl (by decide) rfl ?_
      refine tq_iload 1 (dget dX8_laysMatch 27 rfl) rfl ?_
      refine tq_aload_n 4 (dget dX8_laysMatch 28 rfl) rfl rfl ?_
      refine tq_getI (dget dX8_laysMatch 29 rfl) fX8_88 rfl rfl ?_
      refine tq_eqi (y := (nI M)) v2 ?_
      refine tq_icmp_ge (tgt := 87) (dget dX8_laysMatch 30 rfl) (by decide) (fun c_46 => ?_) (fun c_46 => ?_)
      · have g_46 := kle (by omega) (by omega) c_46
        refine tq_iinc (v := ((nI j0) + (-1))) (ls2 := [(4, .int ((nI j0) + (-1))), (2, .int (nI (R / (M + 1) ^ (S - (j0 + 1)) / (M + 1)))), (5, .int (nI (digN R (M + 1) (S - (j0 + 1))))), (3, .int is), (0, .ref 42), (1, .int (nI R))]) 2 (dget dX8_laysMatch 52 rfl) rfl rfl (by decide) rfl ?_
        refine tq_goto (tgt := 16) (dget dX8_laysMatch 53 rfl) (by decide) ?_
        refine tq_sub [0, 1, 3, 4, 5] (ls' := [(4, .int ((nI j0) + (-1))), (2, .int (nI (R / (M + 1) ^ (S - (j0 + 1)) / (M + 1)))), (3, .int is), (0, .ref 42), (1, .int (nI R))]) rfl ?_
        rw [show nI j0 + -1 = nI j0 - 1 from (Int32.sub_eq_add_neg _ _).symm]
        have ej : S - j0 = (S - (j0 + 1)) + 1 := by omega
        have es : S - 1 - (S - (j0 + 1)) = j0 := by omega
        rw [digN_div, ← ej]
        refine tq_mem (σ' := layF (begM σ) R S M (S - j0)) (by rw [ej, layF, if_neg (show ¬ digN R (M + 1) (S - (j0 + 1)) < M from Nat.not_lt.mpr g_46)]) ?_
        exact ih j0 is (by omega) (by omega) (hA.iff ⟨fun q k h1 h2 => if e : k = S - (j0 + 1) then absurd (e ▸ h2) (Nat.not_lt.mpr g_46) else q k (by omega) h2, fun q k h1 h2 => q k (by omega) h2⟩)
      · have g_46 := knle (by omega) (by omega) c_46
        refine tq_iload_n 3 (dget dX8_laysMatch 31 rfl) rfl rfl ?_
        refine tq_if_eq (tgt := 67) (dget dX8_laysMatch 32 rfl) (by decide) (fun c_50 => ?_) (fun c_50 => ?_)
        · refine tq_iconst (v := 0) (dget dX8_laysMatch 40 rfl) rfl ?_
          refine tq_istore_n (ls2 := [(3, .int 0), (2, .int (nI (R / (M + 1) ^ (S - (j0 + 1)) / (M + 1)))), (5, .int (nI (digN R (M + 1) (S - (j0 + 1))))), (4, .int (nI j0)), (0, .ref 42), (1, .int (nI R))]) (dget dX8_laysMatch 41 rfl) rfl (by decide) rfl ?_
          refine tq_aload_n 4 (dget dX8_laysMatch 42 rfl) rfl rfl ?_
          refine tq_getR (dget dX8_laysMatch 43 rfl) fX8_40 rfl rfl ?_
          refine tq_iload 2 (dget dX8_laysMatch 44 rfl) rfl ?_
          refine tq_iload 3 (dget dX8_laysMatch 45 rfl) rfl ?_
          refine tq_iastN (digN R (M + 1) (S - (j0 + 1))) (dget dX8_laysMatch 46 rfl) rfl (by decide) rfl (by omega) ?_
          refine tq_aload_n 4 (dget dX8_laysMatch 47 rfl) rfl rfl ?_
          refine tq_getR (dget dX8_laysMatch 48 rfl) fX8_43 rfl rfl ?_
          refine tq_iload 3 (dget dX8_laysMatch 49 rfl) rfl ?_
          refine tq_iload 2 (dget dX8_laysMatch 50 rfl) rfl ?_
          refine tq_iastN j0 (dget dX8_laysMatch 51 rfl) rfl (by decide) rfl (by omega) ?_
          refine tq_iinc (v := ((nI j0) + (-1))) (ls2 := [(4, .int ((nI j0) + (-1))), (3, .int 0), (2, .int (nI (R / (M + 1) ^ (S - (j0 + 1)) / (M + 1)))), (5, .int (nI (digN R (M + 1) (S - (j0 + 1))))), (0, .ref 42), (1, .int (nI R))]) 3 (dget dX8_laysMatch 52 rfl) rfl rfl (by decide) rfl ?_
          refine tq_goto (tgt := 16) (dget dX8_laysMatch 53 rfl) (by decide) ?_
          refine tq_sub [0, 2, 1, 4, 5] (ls' := [(4, .int ((nI j0) + (-1))), (2, .int (nI (R / (M + 1) ^ (S - (j0 + 1)) / (M + 1)))), (3, .int 0), (0, .ref 42), (1, .int (nI R))]) rfl ?_
          rw [show nI j0 + -1 = nI j0 - 1 from (Int32.sub_eq_add_neg _ _).symm]
          have ej : S - j0 = (S - (j0 + 1)) + 1 := by omega
          have es : S - 1 - (S - (j0 + 1)) = j0 := by omega
          rw [digN_div, ← ej]
          refine tq_mem (σ' := layF (begM σ) R S M (S - j0)) (by rw [ej, layF, if_pos (show digN R (M + 1) (S - (j0 + 1)) < M from g_46), es]) ?_
          exact ih j0 0 (by omega) (by omega) (BP.n (fun q => hA.f c_50 (fun k h1 h2 => q k (by omega) h2)))
        · refine tq_aload_n 4 (dget dX8_laysMatch 33 rfl) rfl rfl ?_
          refine tq_getR (dget dX8_laysMatch 34 rfl) fX8_40 rfl rfl ?_
          refine tq_iload 1 (dget dX8_laysMatch 35 rfl) rfl ?_
          refine tq_ialdN (digN R (M + 1) (S - (j0 + 1))) (dget dX8_laysMatch 36 rfl) rfl (by decide) rfl (by omega) ?_
          refine tq_if_ge (tgt := 67) (dget dX8_laysMatch 37 rfl) (by decide) (fun c_60 => ?_) (fun c_60 => ?_)
          · refine tq_iconst (v := 0) (dget dX8_laysMatch 40 rfl) rfl ?_
            refine tq_istore_n (ls2 := [(3, .int 0), (2, .int (nI (R / (M + 1) ^ (S - (j0 + 1)) / (M + 1)))), (5, .int (nI (digN R (M + 1) (S - (j0 + 1))))), (4, .int (nI j0)), (0, .ref 42), (1, .int (nI R))]) (dget dX8_laysMatch 41 rfl) rfl (by decide) rfl ?_
            refine tq_aload_n 4 (dget dX8_laysMatch 42 rfl) rfl rfl ?_
            refine tq_getR (dget dX8_laysMatch 43 rfl) fX8_40 rfl rfl ?_
            refine tq_iload 2 (dget dX8_laysMatch 44 rfl) rfl ?_
            refine tq_iload 3 (dget dX8_laysMatch 45 rfl) rfl ?_
            refine tq_iastN (digN R (M + 1) (S - (j0 + 1))) (dget dX8_laysMatch 46 rfl) rfl (by decide) rfl (by omega) ?_
            refine tq_aload_n 4 (dget dX8_laysMatch 47 rfl) rfl rfl ?_
            refine tq_getR (dget dX8_laysMatch 48 rfl) fX8_43 rfl rfl ?_
            refine tq_iload 3 (dget dX8_laysMatch 49 rfl) rfl ?_
            refine tq_iload 2 (dget dX8_laysMatch 50 rfl) rfl ?_
            refine tq_iastN j0 (dget dX8_laysMatch 51 rfl) rfl (by decide) rfl (by omega) ?_
            refine tq_iinc (v := ((nI j0) + (-1))) (ls2 := [(4, .int ((nI j0) + (-1))), (3, .int 0), (2, .int (nI (R / (M + 1) ^ (S - (j0 + 1)) / (M + 1)))), (5, .int (nI (digN R (M + 1) (S - (j0 + 1))))), (0, .ref 42), (1, .int (nI R))]) 3 (dget dX8_laysMatch 52 rfl) rfl rfl (by decide) rfl ?_
            refine tq_goto (tgt := 16) (dget dX8_laysMatch 53 rfl) (by decide) ?_
            refine tq_sub [0, 2, 1, 4, 5] (ls' := [(4, .int ((nI j0) + (-1))), (2, .int (nI (R / (M + 1) ^ (S - (j0 + 1)) / (M + 1)))), (3, .int 0), (0, .ref 42), (1, .int (nI R))]) rfl ?_
            rw [show nI j0 + -1 = nI j0 - 1 from (Int32.sub_eq_add_neg _ _).symm]
            have ej : S - j0 = (S - (j0 + 1)) + 1 := by omega
            have es : S - 1 - (S - (j0 + 1)) = j0 := by omega
            rw [digN_div, ← ej]
            refine tq_mem (σ' := layF (begM σ) R S M (S - j0)) (by rw [ej, layF, if_pos (show digN R (M + 1) (S - (j0 + 1)) < M from g_46), es]) ?_
            exact ih j0 0 (by omega) (by omega) (BP.n (fun q => absurd (q (S - (j0 + 1)) (by omega) g_46) (Int32.not_lt.mpr c_60)))
          · refine tq_iconst (v := 1) (dget dX8_laysMatch 38 rfl) rfl ?_
            refine tq_goto (tgt := 68) (dget dX8_laysMatch 39 rfl) (by decide) ?_
            refine tq_istore_n (ls2 := [(3, .int 1), (2, .int (nI (R / (M + 1) ^ (S - (j0 + 1)) / (M + 1)))), (5, .int (nI (digN R (M + 1) (S - (j0 + 1))))), (4, .int (nI j0)), (0, .ref 42), (1, .int (nI R))]) (dget dX8_laysMatch 41 rfl) rfl (by decide) rfl ?_
            refine tq_aload_n 4 (dget dX8_laysMatch 42 rfl) rfl rfl ?_
            refine tq_getR (dget dX8_laysMatch 43 rfl) fX8_40 rfl rfl ?_
            refine tq_iload 2 (dget dX8_laysMatch 44 rfl) rfl ?_
            refine tq_iload 3 (dget dX8_laysMatch 45 rfl) rfl ?_
            refine tq_iastN (digN R (M + 1) (S - (j0 + 1))) (dget dX8_laysMatch 46 rfl) rfl (by decide) rfl (by omega) ?_
            refine tq_aload_n 4 (dget dX8_laysMatch 47 rfl) rfl rfl ?_
            refine tq_getR (dget dX8_laysMatch 48 rfl) fX8_43 rfl rfl ?_
            refine tq_iload 3 (dget dX8_laysMatch 49 rfl) rfl ?_
            refine tq_iload 2 (dget dX8_laysMatch 50 rfl) rfl ?_
            refine tq_iastN j0 (dget dX8_laysMatch 51 rfl) rfl (by decide) rfl (by omega) ?_
            refine tq_iinc (v := ((nI j0) + (-1))) (ls2 := [(4, .int ((nI j0) + (-1))), (3, .int 1), (2, .int (nI (R / (M + 1) ^ (S - (j0 + 1)) / (M + 1)))), (5, .int (nI (digN R (M + 1) (S - (j0 + 1))))), (0, .ref 42), (1, .int (nI R))]) 3 (dget dX8_laysMatch 52 rfl) rfl rfl (by decide) rfl ?_
            refine tq_goto (tgt := 16) (dget dX8_laysMatch 53 rfl) (by decide) ?_
            refine tq_sub [0, 2, 1, 4, 5] (ls' := [(4, .int ((nI j0) + (-1))), (2, .int (nI (R / (M + 1) ^ (S - (j0 + 1)) / (M + 1)))), (3, .int 1), (0, .ref 42), (1, .int (nI R))]) rfl ?_
            rw [show nI j0 + -1 = nI j0 - 1 from (Int32.sub_eq_add_neg _ _).symm]
            have ej : S - j0 = (S - (j0 + 1)) + 1 := by omega
            have es : S - 1 - (S - (j0 + 1)) = j0 := by omega
            rw [digN_div, ← ej]
            refine tq_mem (σ' := layF (begM σ) R S M (S - j0)) (by rw [ej, layF, if_pos (show digN R (M + 1) (S - (j0 + 1)) < M from g_46), es]) ?_
            exact ih j0 1 (by omega) (by omega) (BP.y (fun k h1 h2 => if e : k = S - (j0 + 1) then e ▸ (Int32.not_le.mp c_60) else hA.t c_50 k (by omega) h2))
set_option maxHeartbeats 4000000 in
set_option maxRecDepth 20000 in
theorem k_lays (σ : Mem) (S M R : Nat) (hV : VM σ S M) (hR : R < 2 ^ 31) (d : Nat) (hd : 1 ≤ d) : PMet d mX8_laysMatch [.ref 42, .int (nI R)] σ (Pi (fun v σ2 => BP (layOK (begM σ) R S M S) v ∧ σ2 = layF (begM σ) R S M S)) := by
  obtain ⟨d, rfl⟩ : ∃ e, d = e + 1 := ⟨d - 1, by omega⟩
  refine PMet.start (ls0 := [(0, .ref 42), (1, .int (nI R))]) miX8_laysMatch.1 (Nat.le_of_ble_eq_true rfl) rfl ?_
  have v1 := (VM_SC hV (SC.beg σ)).1
  refine tq_aload_n 0 (dget dX8_laysMatch 0 rfl) rfl rfl ?_
  refine mq_Vv (As := []) (rest := []) (dget dX8_laysMatch 1 rfl) lX8_169 miX8_begin (k_begin σ d (by omega)) rfl rfl rfl rfl (Nat.le_of_ble_eq_true rfl) (Nat.le_of_ble_eq_true rfl) (fun σ_1 h_1 => ?_)
  obtain rfl := Eq.symm h_1
  refine tq_iload_n 1 (dget dX8_laysMatch 2 rfl) rfl rfl ?_
  refine tq_istore_n (ls2 := [(2, .int (nI R)), (0, .ref 42), (1, .int (nI R))]) (dget dX8_laysMatch 3 rfl) rfl (by decide) rfl ?_
  refine tq_iconst (v := 1) (dget dX8_laysMatch 4 rfl) rfl ?_
  refine tq_istore_n (ls2 := [(3, .int 1), (2, .int (nI R)), (0, .ref 42), (1, .int (nI R))]) (dget dX8_laysMatch 5 rfl) rfl (by decide) rfl ?_
  refine tq_aload_n 2 (dget dX8_laysMatch 6 rfl) rfl rfl ?_
  refine tq_getI (dget dX8_laysMatch 7 rfl) fX8_81 rfl rfl ?_
  refine tq_eqi (y := (nI S)) v1 ?_
  refine tq_iconst (v := 1) (dget dX8_laysMatch 8 rfl) rfl ?_
  refine tq_isub (dget dX8_laysMatch 9 rfl) ?_
  refine tq_istore (ls2 := [(4, .int ((nI S) - 1)), (3, .int 1), (2, .int (nI R)), (0, .ref 42), (1, .int (nI R))]) (dget dX8_laysMatch 10 rfl) (by decide) rfl ?_
  refine tq_sub [0, 2, 1, 3, 4] (ls' := [(4, .int ((nI S) - 1)), (2, .int (nI R)), (3, .int 1), (0, .ref 42), (1, .int (nI R))]) rfl ?_
  rw [show nI R = nI (R / (M + 1) ^ (S - S)) by rw [Nat.sub_self, Nat.pow_zero, Nat.div_one]]
  refine tq_mem (σ' := layF (begM σ) R S M (S - S)) (by rw [Nat.sub_self]; rfl) ?_
  have hX := k_lays_loop σ S M R hV hR (d + 1) (by omega) (S + 1) S 1 (by omega) (Nat.le_refl _) (BP.y (fun k hk => absurd hk (by omega)))
  rw [show R / (M + 1) ^ (S - S) = R by rw [Nat.sub_self, Nat.pow_zero, Nat.div_one]] at hX ⊢
  exact hX
set_option maxHeartbeats 4000000 in
set_option maxRecDepth 20000 in
theorem k_power_loop (σ : Mem) (S M B : Nat) (hV : VM σ S M) (hB : B ≤ 5) (d : Nat) (hd : 0 ≤ d) : ∀ (n : Nat) (k : Nat) (hm : S < k + n) (hk : k ≤ S), PAt (EM d (Pi (fun v σ2 => v = nI (B ^ S) ∧ σ2 = σ))) mX8_power 4 [(3, .int (nI k)), (2, .int (nI (B ^ k))), (0, .ref 42), (1, .int (nI B))] [] σ := by
  intro n
  induction n with
  | zero => intro k hm hk; exact absurd hm (by omega)
  | succ n ih =>
    intro k hm hk
    obtain ⟨v1, v2, v3, v4⟩ := id hV
    refine tq_iload_n 0 (dget dX8_power 4 rfl) rfl rfl ?_
    refine tq_aload_n 2 (dget dX8_power 5 rfl) rfl rfl ?_
    refine tq_getI (dget dX8_power 6 rfl) fX8_81 rfl rfl ?_
    refine tq_icmp_ge (tgt := 22) (dget dX8_power 7 rfl) (by decide) (fun c_9 => ?_) (fun c_9 => ?_)
    · rw [v1] at c_9
      have g_9 := kle (by omega) (by omega) c_9
      refine tq_iload_n 1 (dget dX8_power 14 rfl) rfl rfl ?_
      exact tq_iret rfl (dget dX8_power 15 rfl) ⟨_, rfl, by rw [show k = S by omega], rfl⟩
    · rw [v1] at c_9
      have g_9 := knle (by omega) (by omega) c_9
      refine tq_iload_n 1 (dget dX8_power 8 rfl) rfl rfl ?_
      refine tq_iload_n 3 (dget dX8_power 9 rfl) rfl rfl ?_
      refine tq_imul (dget dX8_power 10 rfl) ?_
      refine tq_eqi (y := (nI (B ^ k * B))) (nI_mulN _ _) ?_
      refine tq_istore_n (ls2 := [(2, .int (nI (B ^ k * B))), (3, .int (nI k)), (0, .ref 42), (1, .int (nI B))]) (dget dX8_power 11 rfl) rfl (by decide) rfl ?_
      refine tq_iinc (v := (nI (k + 1))) (ls2 := [(3, .int (nI (k + 1))), (2, .int (nI (B ^ k * B))), (0, .ref 42), (1, .int (nI B))]) 1 (dget dX8_power 12 rfl) rfl (nI_1 k) (by decide) rfl ?_
      refine tq_goto (tgt := 4) (dget dX8_power 13 rfl) (by decide) ?_
      refine tq_sub [0, 1, 2, 3] (ls' := [(3, .int (nI (k + 1))), (2, .int (nI (B ^ k * B))), (0, .ref 42), (1, .int (nI B))]) rfl ?_
      rw [← Nat.pow_succ]
      exact ih (k + 1) (by omega) (by omega)
set_option maxHeartbeats 4000000 in
set_option maxRecDepth 20000 in
theorem k_power (σ : Mem) (S M B : Nat) (hV : VM σ S M) (hB : B ≤ 5) (d : Nat) (hd : 0 ≤ d) : PMet d mX8_power [.ref 42, .int (nI B)] σ (Pi (fun v σ2 => v = nI (B ^ S) ∧ σ2 = σ)) := by
  refine PMet.start (ls0 := [(0, .ref 42), (1, .int (nI B))]) miX8_power.1 (Nat.le_of_ble_eq_true rfl) rfl ?_
  refine tq_iconst (v := 1) (dget dX8_power 0 rfl) rfl ?_
  refine tq_istore_n (ls2 := [(2, .int 1), (0, .ref 42), (1, .int (nI B))]) (dget dX8_power 1 rfl) rfl (by decide) rfl ?_
  refine tq_iconst (v := 0) (dget dX8_power 2 rfl) rfl ?_
  refine tq_istore_n (ls2 := [(3, .int 0), (2, .int 1), (0, .ref 42), (1, .int (nI B))]) (dget dX8_power 3 rfl) rfl (by decide) rfl ?_
  refine tq_sub [0, 1, 2, 3] (ls' := [(3, .int 0), (2, .int 1), (0, .ref 42), (1, .int (nI B))]) rfl ?_
  rw [show (1 : Int32) = nI (B ^ 0) from rfl, show (0 : Int32) = nI 0 from rfl]
  exact k_power_loop σ S M B hV hB d (by omega) (S + 1) 0 (by omega) (by omega)

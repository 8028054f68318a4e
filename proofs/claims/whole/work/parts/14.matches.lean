/-! ===== matches: the class's two searches, as they go ===== -/
def keepF (σ : Mem) : Mem := up (if σ 26 2 = 0 then upR σ 31 (va_cpy (σ 30) (σ 31) 0 0 6) else σ) 26 2 ((if σ 26 2 = 0 then upR σ 31 (va_cpy (σ 30) (σ 31) 0 0 6) else σ) 26 2 + 1)
def foldM (f : Mem → Nat → Mem) : Nat → Mem → Mem
  | 0, σ => σ
  | k + 1, σ => f (foldM f k σ) k
def mfS (g : Mem → Mem) (s : Nat) (τ : Mem) (m : Nat) : Mem := if τ 29 m = -1 then partF 27 (g (wedF 27 τ s m)) s m else τ
noncomputable def mfP (S M : Nat) : Nat → Mem → Mem
  | 0 => fun σ => @ite _ (brkP 27 σ S M S) (Classical.propDecidable _) σ (keepF σ)
  | r + 1 => fun σ => @ite _ (brkP 27 σ S M (S - (r + 1))) (Classical.propDecidable _) σ (mfP S M r (foldM (mfS (mfP S M r) (S - (r + 1))) M σ))
def foldB (f : Int32 × Mem → Nat → Int32 × Mem) : Nat → Int32 × Mem → Int32 × Mem
  | 0, σ => σ
  | k + 1, σ => f (foldB f k σ) k
def bfS (g : Mem → Int32 × Mem) (s : Nat) (τ : Int32 × Mem) (m : Nat) : Int32 × Mem := (τ.1 + (g (askM 27 τ.2 s m)).1, unaskM 27 (g (askM 27 τ.2 s m)).2 s m (askV 27 τ.2 s m))
noncomputable def bfP (S M : Nat) : Nat → Mem → Int32 × Mem
  | 0 => fun σ => @ite _ (brkP 27 σ S M S) (Classical.propDecidable _) (0, σ) (1, σ)
  | r + 1 => fun σ => @ite _ (brkP 27 σ S M (S - (r + 1))) (Classical.propDecidable _) (0, σ) (foldB (bfS (bfP S M r) (S - (r + 1))) M (0, σ))
/-- the valley stands, who is wed is one of it -/
def okM (S M : Nat) (σ : Mem) : Prop := VA σ S M ∧ wfD 27 σ
theorem VA_row {σ τ : Mem} {S M : Nat} (h : VA σ S M) (e : τ 1 = σ 1) : VA τ S M := by
  unfold VA
  rw [e]
  exact h
theorem up_row {σ : Mem} {i k a : Nat} {v : Int32} (h : a ≠ i) : up σ i k v a = σ a := upR_n h
theorem wedF_row {t : Nat} {σ : Mem} {s m a : Nat} (h1 : a ≠ t + 2) (h2 : a ≠ t + 3) : wedF t σ s m a = σ a := by
  unfold wedF
  rw [up_row h1, up_row h2]
theorem partF_row {t : Nat} {σ : Mem} {s m a : Nat} (h1 : a ≠ t + 2) (h2 : a ≠ t + 3) : partF t σ s m a = σ a := by
  unfold partF
  rw [up_row h1, up_row h2]
theorem okM_wed {S M s m : Nat} {σ : Mem} (h : okM S M σ) (hs : s < 6) (hm : m < 4) : okM S M (wedF 27 σ s m) := by
  refine ⟨VA_row h.1 (wedF_row (by decide) (by decide)), fun a ha => ?_, fun a ha => ?_⟩
  · show wedF 27 σ s m 30 a = -1 ∨ _
    by_cases e : a = s
    · subst e
      exact Or.inr ⟨m, hm, (up_n (by omega)).trans up_s⟩
    · rw [show wedF 27 σ s m 30 a = σ 30 a from (up_n (by omega)).trans (up_n (by omega))]
      exact h.2.1 a ha
  · show wedF 27 σ s m 29 a = -1 ∨ _
    by_cases e : a = m
    · subst e
      exact Or.inr ⟨s, hs, up_s⟩
    · rw [show wedF 27 σ s m 29 a = σ 29 a from (up_n (by omega)).trans (up_n (by omega))]
      exact h.2.2 a ha
theorem okM_part {S M s m : Nat} {σ : Mem} (h : okM S M σ) : okM S M (partF 27 σ s m) := by
  refine ⟨VA_row h.1 (partF_row (by decide) (by decide)), fun a ha => ?_, fun a ha => ?_⟩
  · show partF 27 σ s m 30 a = -1 ∨ _
    by_cases e : a = s
    · subst e
      exact Or.inl ((up_n (by omega)).trans up_s)
    · rw [show partF 27 σ s m 30 a = σ 30 a from (up_n (by omega)).trans (up_n (by omega))]
      exact h.2.1 a ha
  · show partF 27 σ s m 29 a = -1 ∨ _
    by_cases e : a = m
    · subst e
      exact Or.inl up_s
    · rw [show partF 27 σ s m 29 a = σ 29 a from (up_n (by omega)).trans (up_n (by omega))]
      exact h.2.2 a ha
theorem okM_rows {S M : Nat} {σ τ : Mem} (h : okM S M σ) (h1 : τ 1 = σ 1) (h2 : τ 29 = σ 29) (h3 : τ 30 = σ 30) : okM S M τ := by
  refine ⟨VA_row h.1 h1, ?_⟩
  unfold wfD
  show (∀ s, s < 6 → τ 30 s = -1 ∨ ∃ b, b < 4 ∧ τ 30 s = nI b) ∧ ∀ m, m < 4 → τ 29 m = -1 ∨ ∃ h, h < 6 ∧ τ 29 m = nI h
  rw [h2, h3]
  exact h.2
theorem keepF_row {σ : Mem} {a : Nat} (h1 : a ≠ 26) (h2 : a ≠ 31) : keepF σ a = σ a := by
  refine (upR_n h1).trans ?_
  split
  · exact upR_n h2
  · rfl
theorem okM_ask {S M s m : Nat} {σ : Mem} (h : okM S M σ) (hs : s < 6) (hm : m < 4) : okM S M (askM 27 σ s m) := by
  unfold askM
  split
  · split
    · exact okM_rows h (up_row (by decide)) (up_row (by decide)) (up_row (by decide))
    · exact okM_wed h hs hm
  · exact h
theorem okM_unask {S M s m : Nat} {v : Int32} {σ : Mem} (h : okM S M σ) : okM S M (unaskM 27 σ s m v) := by
  unfold unaskM
  split
  · exact okM_rows h (up_row (by decide)) (up_row (by decide)) (up_row (by decide))
  · split
    · exact h
    · exact okM_part h
theorem foldM_ok {S M : Nat} {f : Mem → Nat → Mem} (hf : ∀ τ m, m < M → okM S M τ → okM S M (f τ m)) {σ : Mem} (h : okM S M σ) : ∀ k, k ≤ M → okM S M (foldM f k σ)
  | 0, _ => h
  | k + 1, hk => hf _ k (by omega) (foldM_ok hf h k (by omega))
theorem mfP_ok {S M : Nat} (hS : S ≤ 6) (hM : M ≤ 4) : ∀ r, r ≤ S → ∀ σ, okM S M σ → okM S M (mfP S M r σ)
  | 0, _, σ, h => by
    unfold mfP
    split
    · exact h
    · exact okM_rows h (keepF_row (by decide) (by decide)) (keepF_row (by decide) (by decide)) (keepF_row (by decide) (by decide))
  | r + 1, hr, σ, h => by
    unfold mfP
    split
    · exact h
    · refine mfP_ok hS hM r (by omega) _ (foldM_ok (fun τ m hm hτ => ?_) h M (Nat.le_refl _))
      unfold mfS
      split
      · exact okM_part (mfP_ok hS hM r (by omega) _ (okM_wed hτ (by omega) (by omega)))
      · exact hτ
theorem mfS_ok {S M r s : Nat} (hS : S ≤ 6) (hM : M ≤ 4) (hr : r ≤ S) (hs : s < 6) {τ : Mem} {m : Nat} (hm : m < M) (hτ : okM S M τ) : okM S M (mfS (mfP S M r) s τ m) := by
  unfold mfS
  split
  · exact okM_part (mfP_ok hS hM r hr _ (okM_wed hτ hs (by omega)))
  · exact hτ
theorem foldB_ok {S M : Nat} {f : Int32 × Mem → Nat → Int32 × Mem} (hf : ∀ τ m, m < M → okM S M τ.2 → okM S M (f τ m).2) {σ : Int32 × Mem} (h : okM S M σ.2) : ∀ k, k ≤ M → okM S M (foldB f k σ).2
  | 0, _ => h
  | k + 1, hk => hf _ k (by omega) (foldB_ok hf h k (by omega))
theorem bfP_ok {S M : Nat} (hS : S ≤ 6) (hM : M ≤ 4) : ∀ r, r ≤ S → ∀ σ, okM S M σ → okM S M (bfP S M r σ).2
  | 0, _, σ, h => by
    unfold bfP
    split <;> exact h
  | r + 1, hr, σ, h => by
    unfold bfP
    split
    · exact h
    · refine foldB_ok (fun τ m hm hτ => ?_) h M (Nat.le_refl _)
      exact okM_unask (bfP_ok hS hM r (by omega) _ (okM_ask hτ (by omega) (by omega)))
theorem bfS_ok {S M r s : Nat} (hS : S ≤ 6) (hM : M ≤ 4) (hr : r ≤ S) (hs : s < 6) {τ : Int32 × Mem} {m : Nat} (hm : m < M) (hτ : okM S M τ.2) : okM S M (bfS (bfP S M r) s τ m).2 :=
  okM_unask (bfP_ok hS hM r hr _ (okM_ask hτ hs (by omega)))
theorem begF_h {t : Nat} {σ : Mem} {a : Nat} (ha : a < 6) : begF t σ (t + 3) a = -1 := by
  unfold begF fillR
  rw [upR_s]
  exact if_pos ha
theorem begF_w {t : Nat} {σ : Mem} {a : Nat} (ha : a < 4) : begF t σ (t + 2) a = -1 := by
  unfold begF fillR
  rw [upR_n (by omega), upR_s]
  exact if_pos ha
theorem begF_r {t : Nat} {σ : Mem} {a : Nat} (ha : a < 4) : begF t σ (t + 1) a = 0 := by
  unfold begF fillR
  rw [upR_n (by omega), upR_n (by omega), upR_s]
  exact if_pos ha
theorem begF_ok {S M : Nat} {σ : Mem} (h : VA σ S M) : okM S M (begF 27 σ) := by
  exact ⟨VA_row h (begF_row (by decide) (by decide) (by decide)), fun a ha => Or.inl (begF_h ha), fun a ha => Or.inl (begF_w ha)⟩

set_option maxHeartbeats 4000000 in
set_option maxRecDepth 20000 in
theorem c_keep (σ : Mem) (d : Nat) (hd : 1 ≤ d) : PMet d mX1_keep [.ref 26] σ (Pv (fun σ2 => σ2 = keepF σ)) := by
  obtain ⟨d, rfl⟩ : ∃ e, d = e + 1 := ⟨d - 1, by omega⟩
  refine PMet.start (ls0 := [(0, .ref 26)]) miX1_keep.1 (Nat.le_of_ble_eq_true rfl) rfl ?_
  refine tq_aload_n 0 (dget dX1_keep 0 rfl) rfl rfl ?_
  refine tq_getI (dget dX1_keep 1 rfl) fX1_25 rfl rfl ?_
  refine tq_if_ne (tgt := 25) (dget dX1_keep 2 rfl) (by decide) (fun c_4 => ?_) (fun c_4 => ?_)
  · refine tq_aload_n 0 (dget dX1_keep 12 rfl) rfl rfl ?_
    refine tq_dup (dget dX1_keep 13 rfl) rfl ?_
    refine tq_getI (dget dX1_keep 14 rfl) fX1_25 rfl rfl ?_
    refine tq_iconst (v := 1) (dget dX1_keep 15 rfl) rfl ?_
    refine tq_iadd (dget dX1_keep 16 rfl) ?_
    refine tq_putI (dget dX1_keep 17 rfl) fX1_25 rfl rfl rfl rfl ?_
    exact tq_vret rfl (dget dX1_keep 18 rfl) ⟨rfl, by unfold keepF; rw [if_neg c_4]⟩
  · refine tq_aload_n 0 (dget dX1_keep 3 rfl) rfl rfl ?_
    refine tq_getR (dget dX1_keep 4 rfl) fX1_12 rfl rfl ?_
    refine tq_getR (dget dX1_keep 5 rfl) fX1_58 rfl rfl ?_
    refine tq_iconst (v := 0) (dget dX1_keep 6 rfl) rfl ?_
    refine tq_aload_n 0 (dget dX1_keep 7 rfl) rfl rfl ?_
    refine tq_getR (dget dX1_keep 8 rfl) fX1_18 rfl rfl ?_
    refine tq_iconst (v := 0) (dget dX1_keep 9 rfl) rfl ?_
    refine tq_bipush (v := 6) (dget dX1_keep 10 rfl) rfl ?_
    refine tq_copy (dget dX1_keep 11 rfl) (tblG_2 178 rfl rfl) (tblG_1 237 rfl rfl) (tblG_1 236 rfl rfl) (tblG_1 9 rfl rfl) rfl rfl (by decide) (by decide) (by decide) (by decide) (by decide) (by show 1 ≤ d + 1; omega) (by show _ ≤ 40 * (d + 1); have h0 : 40 ≤ 40 * (d + 1) := (by omega); exact Nat.le_trans (Nat.le_of_ble_eq_true rfl) h0) ?_
    refine tq_aload_n 0 (dget dX1_keep 12 rfl) rfl rfl ?_
    refine tq_dup (dget dX1_keep 13 rfl) rfl ?_
    refine tq_getI (dget dX1_keep 14 rfl) fX1_25 rfl rfl ?_
    refine tq_iconst (v := 1) (dget dX1_keep 15 rfl) rfl ?_
    refine tq_iadd (dget dX1_keep 16 rfl) ?_
    refine tq_putI (dget dX1_keep 17 rfl) fX1_25 rfl rfl rfl rfl ?_
    exact tq_vret rfl (dget dX1_keep 18 rfl) ⟨rfl, by unfold keepF; rw [if_pos c_4]; rfl⟩
set_option maxHeartbeats 4000000 in
set_option maxRecDepth 20000 in
theorem c_matchFrom_base (S M : Nat) (σ : Mem) (hok : okM S M σ) (d : Nat) (hd : 3 ≤ d) : PMet d mX1_matchFrom [.ref 26, .ref 1, .int (nI S)] σ (Pv (fun σ2 => σ2 = mfP S M 0 σ)) := by
  obtain ⟨d, rfl⟩ : ∃ e, d = e + 1 := ⟨d - 1, by omega⟩
  refine PMet.start (ls0 := [(0, .ref 26), (1, .ref 1), (2, .int (nI S))]) miX1_matchFrom.1 (Nat.le_of_ble_eq_true rfl) rfl ?_
  have v1 := hok.1.1
  have v3 := hok.1.2.2.1
  refine tq_aload_n 0 (dget dX1_matchFrom 0 rfl) rfl rfl ?_
  refine tq_getR (dget dX1_matchFrom 1 rfl) fX1_12 rfl rfl ?_
  refine tq_aload_n 1 (dget dX1_matchFrom 2 rfl) rfl rfl ?_
  refine tq_iload_n 2 (dget dX1_matchFrom 3 rfl) rfl rfl ?_
  refine mq_Vi (As := [.ref 1, .int (nI S)]) (rest := []) (dget dX1_matchFrom 4 rfl) lX1_33 miX0_isBroken (c_isBroken 27 isD_27 σ S M S hok.1 hok.2 (by omega) d (by omega)) rfl rfl rfl rfl (Nat.le_of_ble_eq_true rfl) (Nat.le_of_ble_eq_true rfl) (fun r_6 σ_6 h_6 => ?_)
  obtain ⟨b_6, e_6⟩ := h_6
  obtain rfl := e_6.symm
  refine tq_if_eq (tgt := 13) (dget dX1_matchFrom 5 rfl) (by decide) (fun c_9 => ?_) (fun c_9 => ?_)
  · refine tq_iload_n 2 (dget dX1_matchFrom 7 rfl) rfl rfl ?_
    refine tq_aload_n 1 (dget dX1_matchFrom 8 rfl) rfl rfl ?_
    refine tq_getI (dget dX1_matchFrom 9 rfl) fX1_37 rfl rfl ?_
    refine tq_icmp_lt (tgt := 26) (dget dX1_matchFrom 10 rfl) (by decide) (fun c_18 => ?_) (fun c_18 => ?_)
    · rw [v1] at c_18
      exact absurd (klt (by omega) (by omega) c_18) (by omega)
    · refine tq_aload_n 0 (dget dX1_matchFrom 11 rfl) rfl rfl ?_
      refine mq_Vv (As := []) (rest := []) (dget dX1_matchFrom 12 rfl) lX1_42 miX1_keep (c_keep σ d (by omega)) rfl rfl rfl rfl (Nat.le_of_ble_eq_true rfl) (Nat.le_of_ble_eq_true rfl) (fun σ_22 h_22 => ?_)
      obtain rfl := Eq.symm h_22
      exact tq_vret rfl (dget dX1_matchFrom 13 rfl) ⟨rfl, by unfold mfP; rw [if_neg (b_6.f c_9)]⟩
  · exact tq_vret rfl (dget dX1_matchFrom 6 rfl) ⟨rfl, by unfold mfP; rw [if_pos (b_6.t c_9)]⟩
set_option maxHeartbeats 4000000 in
set_option maxRecDepth 20000 in
theorem c_matchFrom_loop (S M r s : Nat) (hr : s + (r + 1) = S) (σ : Mem) (hok : okM S M σ) (hrec : ∀ (d : Nat), 3 + r ≤ d → ∀ τ, okM S M τ → PMet d mX1_matchFrom [.ref 26, .ref 1, .int (nI (s + 1))] τ (Pv (fun σ2 => σ2 = mfP S M r τ))) (d : Nat) (hd : 3 + r + 1 ≤ d) : ∀ (n : Nat) (k : Nat) (hm : M < k + n) (hk : k ≤ M), PAt (EM d (Pv (fun σ2 => σ2 = mfP S M r (foldM (mfS (mfP S M r) s) M σ)))) mX1_matchFrom 28 [(3, .int (nI k)), (0, .ref 26), (1, .ref 1), (2, .int (nI s))] [] (foldM (mfS (mfP S M r) s) k σ) := by
  obtain ⟨d, rfl⟩ : ∃ e, d = e + 1 := ⟨d - 1, by omega⟩
  intro n
  induction n with
  | zero => intro k hm hk; exact absurd hm (by omega)
  | succ n ih =>
    intro k hm hk
    have v3 := hok.1.2.2.1
    have v4 := hok.1.2.2.2
    have hk5 : okM S M (foldM (mfS (mfP S M r) s) k σ) := foldM_ok (fun τ m hm hτ => mfS_ok v3 v4 (by omega) (by omega) hm hτ) hok k hk
    have v2 := hk5.1.2.1
    refine tq_iload_n 0 (dget dX1_matchFrom 16 rfl) rfl rfl ?_
    refine tq_aload_n 2 (dget dX1_matchFrom 17 rfl) rfl rfl ?_
    refine tq_getI (dget dX1_matchFrom 18 rfl) fX1_45 rfl rfl ?_
    refine tq_icmp_ge (tgt := 81) (dget dX1_matchFrom 19 rfl) (by decide) (fun c_33 => ?_) (fun c_33 => ?_)
    · rw [v2] at c_33
      have g_33 := kle (by omega) (by omega) c_33
      have g_34 : k = M := by omega
      refine tq_aload_n 1 (dget dX1_matchFrom 45 rfl) rfl rfl ?_
      refine tq_aload_n 2 (dget dX1_matchFrom 46 rfl) rfl rfl ?_
      refine tq_iload_n 3 (dget dX1_matchFrom 47 rfl) rfl rfl ?_
      refine tq_iconst (v := 1) (dget dX1_matchFrom 48 rfl) rfl ?_
      refine tq_iadd (dget dX1_matchFrom 49 rfl) ?_
      refine tq_eqi (y := (nI (s + 1))) (nI_1 s) ?_
      refine mq_Sv (As := [.ref 26, .ref 1, .int (nI (s + 1))]) (rest := []) (dget dX1_matchFrom 50 rfl) lX1_29 miX1_matchFrom (hrec d (by omega) (foldM (mfS (mfP S M r) s) k σ) hk5) rfl rfl (Nat.le_of_ble_eq_true rfl) (Nat.le_of_ble_eq_true rfl) (fun σ_86 h_86 => ?_)
      obtain rfl := Eq.symm h_86
      exact tq_vret rfl (dget dX1_matchFrom 51 rfl) ⟨rfl, by rw [g_34]⟩
    · rw [v2] at c_33
      have g_33 := knle (by omega) (by omega) c_33
      refine tq_aload_n 1 (dget dX1_matchFrom 20 rfl) rfl rfl ?_
      refine tq_getR (dget dX1_matchFrom 21 rfl) fX1_12 rfl rfl ?_
      refine tq_getR (dget dX1_matchFrom 22 rfl) fX1_48 rfl rfl ?_
      refine tq_iload_n 0 (dget dX1_matchFrom 23 rfl) rfl rfl ?_
      refine tq_ialdN k (dget dX1_matchFrom 24 rfl) rfl (by decide) rfl (by omega) ?_
      refine tq_iconst (v := (-1)) (dget dX1_matchFrom 25 rfl) rfl ?_
      refine tq_icmp_ne (tgt := 75) (dget dX1_matchFrom 26 rfl) (by decide) (fun c_46 => ?_) (fun c_46 => ?_)
      · refine tq_iinc (v := (nI (k + 1))) (ls2 := [(3, .int (nI (k + 1))), (0, .ref 26), (1, .ref 1), (2, .int (nI s))]) 0 (dget dX1_matchFrom 43 rfl) rfl (nI_1 k) (by decide) rfl ?_
        refine tq_goto (tgt := 28) (dget dX1_matchFrom 44 rfl) (by decide) ?_
        refine tq_sub [0, 1, 2, 3] (ls' := [(3, .int (nI (k + 1))), (0, .ref 26), (1, .ref 1), (2, .int (nI s))]) rfl ?_
        rw [show (foldM (mfS (mfP S M r) s) k σ) = foldM (mfS (mfP S M r) s) (k + 1) σ from (if_neg c_46).symm]
        exact ih (k + 1) (by omega) (by omega)
      · refine tq_aload_n 1 (dget dX1_matchFrom 27 rfl) rfl rfl ?_
        refine tq_getR (dget dX1_matchFrom 28 rfl) fX1_12 rfl rfl ?_
        refine tq_iload_n 3 (dget dX1_matchFrom 29 rfl) rfl rfl ?_
        refine tq_iload_n 0 (dget dX1_matchFrom 30 rfl) rfl rfl ?_
        refine mq_Vv (As := [.int (nI s), .int (nI k)]) (rest := []) (dget dX1_matchFrom 31 rfl) lX1_51 miX0_wed (c_wed 27 isD_27 (foldM (mfS (mfP S M r) s) k σ) s k (by omega) (by omega) d (by omega)) rfl rfl rfl rfl (Nat.le_of_ble_eq_true rfl) (Nat.le_of_ble_eq_true rfl) (fun σ_55 h_55 => ?_)
        obtain rfl := Eq.symm h_55
        refine tq_aload_n 1 (dget dX1_matchFrom 32 rfl) rfl rfl ?_
        refine tq_aload_n 2 (dget dX1_matchFrom 33 rfl) rfl rfl ?_
        refine tq_iload_n 3 (dget dX1_matchFrom 34 rfl) rfl rfl ?_
        refine tq_iconst (v := 1) (dget dX1_matchFrom 35 rfl) rfl ?_
        refine tq_iadd (dget dX1_matchFrom 36 rfl) ?_
        refine tq_eqi (y := (nI (s + 1))) (nI_1 s) ?_
        refine mq_Sv (As := [.ref 26, .ref 1, .int (nI (s + 1))]) (rest := []) (dget dX1_matchFrom 37 rfl) lX1_29 miX1_matchFrom (hrec d (by omega) (wedF 27 (foldM (mfS (mfP S M r) s) k σ) s k) (okM_wed hk5 (by omega) (by omega))) rfl rfl (Nat.le_of_ble_eq_true rfl) (Nat.le_of_ble_eq_true rfl) (fun σ_63 h_63 => ?_)
        obtain rfl := Eq.symm h_63
        refine tq_aload_n 1 (dget dX1_matchFrom 38 rfl) rfl rfl ?_
        refine tq_getR (dget dX1_matchFrom 39 rfl) fX1_12 rfl rfl ?_
        refine tq_iload_n 3 (dget dX1_matchFrom 40 rfl) rfl rfl ?_
        refine tq_iload_n 0 (dget dX1_matchFrom 41 rfl) rfl rfl ?_
        refine mq_Vv (As := [.int (nI s), .int (nI k)]) (rest := []) (dget dX1_matchFrom 42 rfl) lX1_55 miX0_part (c_part 27 isD_27 (mfP S M r (wedF 27 (foldM (mfS (mfP S M r) s) k σ) s k)) s k (by omega) (by omega) d (by omega)) rfl rfl rfl rfl (Nat.le_of_ble_eq_true rfl) (Nat.le_of_ble_eq_true rfl) (fun σ_72 h_72 => ?_)
        obtain rfl := Eq.symm h_72
        refine tq_iinc (v := (nI (k + 1))) (ls2 := [(3, .int (nI (k + 1))), (0, .ref 26), (1, .ref 1), (2, .int (nI s))]) 0 (dget dX1_matchFrom 43 rfl) rfl (nI_1 k) (by decide) rfl ?_
        refine tq_goto (tgt := 28) (dget dX1_matchFrom 44 rfl) (by decide) ?_
        refine tq_sub [0, 1, 2, 3] (ls' := [(3, .int (nI (k + 1))), (0, .ref 26), (1, .ref 1), (2, .int (nI s))]) rfl ?_
        refine tq_mem (σ' := foldM (mfS (mfP S M r) s) (k + 1) σ) (if_pos c_46).symm ?_
        exact ih (k + 1) (by omega) (by omega)
set_option maxHeartbeats 4000000 in
set_option maxRecDepth 20000 in
theorem c_matchFrom_step (S M r s : Nat) (hr : s + (r + 1) = S) (σ : Mem) (hok : okM S M σ) (hrec : ∀ (d : Nat), 3 + r ≤ d → ∀ τ, okM S M τ → PMet d mX1_matchFrom [.ref 26, .ref 1, .int (nI (s + 1))] τ (Pv (fun σ2 => σ2 = mfP S M r τ))) (d : Nat) (hd : 3 + r + 1 ≤ d) : PMet d mX1_matchFrom [.ref 26, .ref 1, .int (nI s)] σ (Pv (fun σ2 => σ2 = mfP S M (r + 1) σ)) := by
  obtain ⟨d, rfl⟩ : ∃ e, d = e + 1 := ⟨d - 1, by omega⟩
  refine PMet.start (ls0 := [(0, .ref 26), (1, .ref 1), (2, .int (nI s))]) miX1_matchFrom.1 (Nat.le_of_ble_eq_true rfl) rfl ?_
  have v1 := hok.1.1
  have v3 := hok.1.2.2.1
  have hsr : S - (r + 1) = s := by omega
  refine tq_aload_n 0 (dget dX1_matchFrom 0 rfl) rfl rfl ?_
  refine tq_getR (dget dX1_matchFrom 1 rfl) fX1_12 rfl rfl ?_
  refine tq_aload_n 1 (dget dX1_matchFrom 2 rfl) rfl rfl ?_
  refine tq_iload_n 2 (dget dX1_matchFrom 3 rfl) rfl rfl ?_
  refine mq_Vi (As := [.ref 1, .int (nI s)]) (rest := []) (dget dX1_matchFrom 4 rfl) lX1_33 miX0_isBroken (c_isBroken 27 isD_27 σ S M s hok.1 hok.2 (by omega) d (by omega)) rfl rfl rfl rfl (Nat.le_of_ble_eq_true rfl) (Nat.le_of_ble_eq_true rfl) (fun r_6 σ_6 h_6 => ?_)
  obtain ⟨b_6, e_6⟩ := h_6
  obtain rfl := e_6.symm
  refine tq_if_eq (tgt := 13) (dget dX1_matchFrom 5 rfl) (by decide) (fun c_9 => ?_) (fun c_9 => ?_)
  · have hE : mfP S M (r + 1) σ = mfP S M r (foldM (mfS (mfP S M r) s) M σ) := by rw [mfP, hsr]; exact if_neg (b_6.f c_9)
    refine tq_iload_n 2 (dget dX1_matchFrom 7 rfl) rfl rfl ?_
    refine tq_aload_n 1 (dget dX1_matchFrom 8 rfl) rfl rfl ?_
    refine tq_getI (dget dX1_matchFrom 9 rfl) fX1_37 rfl rfl ?_
    refine tq_icmp_lt (tgt := 26) (dget dX1_matchFrom 10 rfl) (by decide) (fun c_18 => ?_) (fun c_18 => ?_)
    · refine tq_iconst (v := 0) (dget dX1_matchFrom 14 rfl) rfl ?_
      refine tq_istore_n (ls2 := [(3, .int 0), (0, .ref 26), (1, .ref 1), (2, .int (nI s))]) (dget dX1_matchFrom 15 rfl) rfl (by decide) rfl ?_
      refine tq_sub [0, 1, 2, 3] (ls' := [(3, .int 0), (0, .ref 26), (1, .ref 1), (2, .int (nI s))]) rfl ?_
      rw [hE]
      exact c_matchFrom_loop S M r s hr σ hok hrec (d + 1) (by omega) (M + 1) 0 (by omega) (by omega)
    · rw [v1] at c_18
      exact absurd (knlt (by omega) (by omega) c_18) (by omega)
  · have hE : mfP S M (r + 1) σ = σ := by unfold mfP; rw [hsr, if_pos (b_6.t c_9)]
    exact tq_vret rfl (dget dX1_matchFrom 6 rfl) ⟨rfl, hE.symm⟩
theorem c_matchFrom (S M : Nat) : ∀ (r s : Nat), s + r = S → ∀ (d : Nat), 3 + r ≤ d → ∀ σ, okM S M σ → PMet d mX1_matchFrom [.ref 26, .ref 1, .int (nI s)] σ (Pv (fun σ2 => σ2 = mfP S M r σ))
  | 0, s, h, d, hd, σ, hok => by
    rw [show s = S by omega]
    exact c_matchFrom_base S M σ hok d hd
  | r + 1, s, h, d, hd, σ, hok => c_matchFrom_step S M r s h σ hok (fun d hd τ hτ => c_matchFrom S M r (s + 1) (by omega) d hd τ hτ) d hd

set_option maxHeartbeats 4000000 in
set_option maxRecDepth 20000 in
theorem c_countFirm (σ : Mem) (S M : Nat) (hV : VA σ S M) (d : Nat) (hd : 10 ≤ d) : PMet d mX1_countFirm [.ref 26, .ref 1] σ (Pi (fun v σ2 => σ2 = mfP S M S (up (begF 27 σ) 26 2 0) ∧ v = σ2 26 2)) := by
  obtain ⟨d, rfl⟩ : ∃ e, d = e + 1 := ⟨d - 1, by omega⟩
  refine PMet.start (ls0 := [(0, .ref 26), (1, .ref 1)]) miX1_countFirm.1 (Nat.le_of_ble_eq_true rfl) rfl ?_
  have v3 := hV.2.2.1
  refine tq_aload_n 0 (dget dX1_countFirm 0 rfl) rfl rfl ?_
  refine tq_getR (dget dX1_countFirm 1 rfl) fX1_12 rfl rfl ?_
  refine mq_Vv (As := []) (rest := []) (dget dX1_countFirm 2 rfl) lX1_22 miX0_begin (c_begin 27 isD_27 σ d (by omega)) rfl rfl rfl rfl (Nat.le_of_ble_eq_true rfl) (Nat.le_of_ble_eq_true rfl) (fun σ_4 h_4 => ?_)
  obtain rfl := Eq.symm h_4
  refine tq_aload_n 0 (dget dX1_countFirm 3 rfl) rfl rfl ?_
  refine tq_iconst (v := 0) (dget dX1_countFirm 4 rfl) rfl ?_
  refine tq_putI (dget dX1_countFirm 5 rfl) fX1_25 rfl rfl rfl rfl ?_
  refine tq_aload_n 0 (dget dX1_countFirm 6 rfl) rfl rfl ?_
  refine tq_aload_n 1 (dget dX1_countFirm 7 rfl) rfl rfl ?_
  refine tq_iconst (v := 0) (dget dX1_countFirm 8 rfl) rfl ?_
  refine mq_Sv (As := [.ref 26, .ref 1, .int 0]) (rest := []) (dget dX1_countFirm 9 rfl) lX1_29 miX1_matchFrom (c_matchFrom S M S 0 (by omega) d (by omega) (up (begF 27 σ) 26 2 0) (okM_rows (begF_ok hV) (up_row (by decide)) (up_row (by decide)) (up_row (by decide)))) rfl rfl (Nat.le_of_ble_eq_true rfl) (Nat.le_of_ble_eq_true rfl) (fun σ_15 h_15 => ?_)
  obtain rfl := Eq.symm h_15
  refine tq_aload_n 0 (dget dX1_countFirm 10 rfl) rfl rfl ?_
  refine tq_getI (dget dX1_countFirm 11 rfl) fX1_25 rfl rfl ?_
  exact tq_iret rfl (dget dX1_countFirm 12 rfl) ⟨_, rfl, rfl, rfl⟩
set_option maxHeartbeats 4000000 in
set_option maxRecDepth 20000 in
theorem c_bringing_base (S M : Nat) (σ : Mem) (hok : okM S M σ) (d : Nat) (hd : 3 ≤ d) : PMet d mX1_bringingFrom [.ref 27, .ref 1, .int (nI S)] σ (Pi (fun v σ2 => v = (bfP S M 0 σ).1 ∧ σ2 = (bfP S M 0 σ).2)) := by
  obtain ⟨d, rfl⟩ : ∃ e, d = e + 1 := ⟨d - 1, by omega⟩
  refine PMet.start (ls0 := [(0, .ref 27), (1, .ref 1), (2, .int (nI S))]) miX1_bringingFrom.1 (Nat.le_of_ble_eq_true rfl) rfl ?_
  have v1 := hok.1.1
  have v3 := hok.1.2.2.1
  refine tq_aload_n 0 (dget dX1_bringingFrom 0 rfl) rfl rfl ?_
  refine tq_aload_n 1 (dget dX1_bringingFrom 1 rfl) rfl rfl ?_
  refine tq_iload_n 2 (dget dX1_bringingFrom 2 rfl) rfl rfl ?_
  refine mq_Vi (As := [.ref 1, .int (nI S)]) (rest := []) (dget dX1_bringingFrom 3 rfl) lX1_33 miX0_isBroken (c_isBroken 27 isD_27 σ S M S hok.1 hok.2 (by omega) d (by omega)) rfl rfl rfl rfl (Nat.le_of_ble_eq_true rfl) (Nat.le_of_ble_eq_true rfl) (fun r_3 σ_3 h_3 => ?_)
  obtain ⟨b_3, e_3⟩ := h_3
  obtain rfl := e_3.symm
  refine tq_if_eq (tgt := 11) (dget dX1_bringingFrom 4 rfl) (by decide) (fun c_6 => ?_) (fun c_6 => ?_)
  · refine tq_iload_n 2 (dget dX1_bringingFrom 7 rfl) rfl rfl ?_
    refine tq_aload_n 1 (dget dX1_bringingFrom 8 rfl) rfl rfl ?_
    refine tq_getI (dget dX1_bringingFrom 9 rfl) fX1_37 rfl rfl ?_
    refine tq_icmp_lt (tgt := 21) (dget dX1_bringingFrom 10 rfl) (by decide) (fun c_16 => ?_) (fun c_16 => ?_)
    · rw [v1] at c_16
      exact absurd (klt (by omega) (by omega) c_16) (by omega)
    · refine tq_iconst (v := 1) (dget dX1_bringingFrom 11 rfl) rfl ?_
      exact tq_iret rfl (dget dX1_bringingFrom 12 rfl) ⟨_, rfl, by unfold bfP; rw [if_neg (b_3.f c_6)], by unfold bfP; rw [if_neg (b_3.f c_6)]⟩
  · refine tq_iconst (v := 0) (dget dX1_bringingFrom 5 rfl) rfl ?_
    exact tq_iret rfl (dget dX1_bringingFrom 6 rfl) ⟨_, rfl, by unfold bfP; rw [if_pos (b_3.t c_6)], by unfold bfP; rw [if_pos (b_3.t c_6)]⟩
set_option maxHeartbeats 4000000 in
set_option maxRecDepth 20000 in
theorem c_bringing_loop (S M r s : Nat) (hr : s + (r + 1) = S) (σ : Mem) (hok : okM S M σ) (hrec : ∀ (d : Nat), 3 + r ≤ d → ∀ τ, okM S M τ → PMet d mX1_bringingFrom [.ref 27, .ref 1, .int (nI (s + 1))] τ (Pi (fun v σ2 => v = (bfP S M r τ).1 ∧ σ2 = (bfP S M r τ).2))) (d : Nat) (hd : 3 + r + 1 ≤ d) : ∀ (n : Nat) (k : Nat) (hm : M < k + n) (hk : k ≤ M), PAt (EM d (Pi (fun v σ2 => v = (foldB (bfS (bfP S M r) s) M (0, σ)).1 ∧ σ2 = (foldB (bfS (bfP S M r) s) M (0, σ)).2))) mX1_bringingFrom 26 [(4, .int (nI k)), (3, .int (foldB (bfS (bfP S M r) s) k (0, σ)).1), (0, .ref 27), (1, .ref 1), (2, .int (nI s))] [] (foldB (bfS (bfP S M r) s) k (0, σ)).2 := by
  obtain ⟨d, rfl⟩ : ∃ e, d = e + 1 := ⟨d - 1, by omega⟩
  intro n
  induction n with
  | zero => intro k hm hk; exact absurd hm (by omega)
  | succ n ih =>
    intro k hm hk
    have v3 := hok.1.2.2.1
    have v4 := hok.1.2.2.2
    have hk5 : okM S M (foldB (bfS (bfP S M r) s) k (0, σ)).2 := foldB_ok (fun τ m hm hτ => bfS_ok v3 v4 (by omega) (by omega) hm hτ) hok k hk
    have v2 := hk5.1.2.1
    refine tq_iload 0 (dget dX1_bringingFrom 17 rfl) rfl ?_
    refine tq_aload_n 3 (dget dX1_bringingFrom 18 rfl) rfl rfl ?_
    refine tq_getI (dget dX1_bringingFrom 19 rfl) fX1_45 rfl rfl ?_
    refine tq_icmp_ge (tgt := 71) (dget dX1_bringingFrom 20 rfl) (by decide) (fun c_32 => ?_) (fun c_32 => ?_)
    · rw [v2] at c_32
      have g_32 := kle (by omega) (by omega) c_32
      have g_33 : k = M := by omega
      refine tq_iload_n 1 (dget dX1_bringingFrom 43 rfl) rfl rfl ?_
      exact tq_iret rfl (dget dX1_bringingFrom 44 rfl) ⟨_, rfl, by rw [g_33], by rw [g_33]⟩
    · rw [v2] at c_32
      have g_32 := knle (by omega) (by omega) c_32
      refine tq_aload_n 2 (dget dX1_bringingFrom 21 rfl) rfl rfl ?_
      refine tq_aload_n 3 (dget dX1_bringingFrom 22 rfl) rfl rfl ?_
      refine tq_iload_n 4 (dget dX1_bringingFrom 23 rfl) rfl rfl ?_
      refine tq_iload 0 (dget dX1_bringingFrom 24 rfl) rfl ?_
      refine mq_Vi (As := [.ref 1, .int (nI s), .int (nI k)]) (rest := []) (dget dX1_bringingFrom 25 rfl) lX1_71 miX0_ask (c_ask 27 isD_27 (foldB (bfS (bfP S M r) s) k (0, σ)).2 s k (by omega) (by omega) d (by omega)) rfl rfl rfl rfl (Nat.le_of_ble_eq_true rfl) (Nat.le_of_ble_eq_true rfl) (fun r_40 σ_40 h_40 => ?_)
      obtain ⟨a_40, e_40⟩ := h_40
      obtain rfl := a_40.symm
      obtain rfl := e_40.symm
      refine tq_istore (ls2 := [(5, .int (askV 27 (foldB (bfS (bfP S M r) s) k (0, σ)).2 s k)), (4, .int (nI k)), (3, .int (foldB (bfS (bfP S M r) s) k (0, σ)).1), (0, .ref 27), (1, .ref 1), (2, .int (nI s))]) (dget dX1_bringingFrom 26 rfl) (by decide) rfl ?_
      refine tq_iload_n 2 (dget dX1_bringingFrom 27 rfl) rfl rfl ?_
      refine tq_aload_n 3 (dget dX1_bringingFrom 28 rfl) rfl rfl ?_
      refine tq_aload_n 4 (dget dX1_bringingFrom 29 rfl) rfl rfl ?_
      refine tq_iload_n 5 (dget dX1_bringingFrom 30 rfl) rfl rfl ?_
      refine tq_iconst (v := 1) (dget dX1_bringingFrom 31 rfl) rfl ?_
      refine tq_iadd (dget dX1_bringingFrom 32 rfl) ?_
      refine tq_eqi (y := (nI (s + 1))) (nI_1 s) ?_
      refine mq_Si (As := [.ref 27, .ref 1, .int (nI (s + 1))]) (rest := [.int (foldB (bfS (bfP S M r) s) k (0, σ)).1]) (dget dX1_bringingFrom 33 rfl) lX1_67 miX1_bringingFrom (hrec d (by omega) (askM 27 (foldB (bfS (bfP S M r) s) k (0, σ)).2 s k) (okM_ask hk5 (by omega) (by omega))) rfl rfl (Nat.le_of_ble_eq_true rfl) (Nat.le_of_ble_eq_true rfl) (fun r_51 σ_51 h_51 => ?_)
      obtain ⟨a_51, e_51⟩ := h_51
      obtain rfl := a_51.symm
      obtain rfl := e_51.symm
      refine tq_iadd (dget dX1_bringingFrom 34 rfl) ?_
      refine tq_istore_n (ls2 := [(3, .int ((foldB (bfS (bfP S M r) s) k (0, σ)).1 + (bfP S M r (askM 27 (foldB (bfS (bfP S M r) s) k (0, σ)).2 s k)).1)), (5, .int (askV 27 (foldB (bfS (bfP S M r) s) k (0, σ)).2 s k)), (4, .int (nI k)), (0, .ref 27), (1, .ref 1), (2, .int (nI s))]) (dget dX1_bringingFrom 35 rfl) rfl (by decide) rfl ?_
      refine tq_aload_n 3 (dget dX1_bringingFrom 36 rfl) rfl rfl ?_
      refine tq_iload_n 5 (dget dX1_bringingFrom 37 rfl) rfl rfl ?_
      refine tq_iload 2 (dget dX1_bringingFrom 38 rfl) rfl ?_
      refine tq_iload 1 (dget dX1_bringingFrom 39 rfl) rfl ?_
      refine mq_Vv (As := [.int (nI s), .int (nI k), .int (askV 27 (foldB (bfS (bfP S M r) s) k (0, σ)).2 s k)]) (rest := []) (dget dX1_bringingFrom 40 rfl) lX1_75 miX0_unask (c_unask 27 isD_27 (bfP S M r (askM 27 (foldB (bfS (bfP S M r) s) k (0, σ)).2 s k)).2 s k (by omega) (by omega) (askV 27 (foldB (bfS (bfP S M r) s) k (0, σ)).2 s k) d (by omega)) rfl rfl rfl rfl (Nat.le_of_ble_eq_true rfl) (Nat.le_of_ble_eq_true rfl) (fun σ_62 h_62 => ?_)
      obtain rfl := Eq.symm h_62
      refine tq_iinc (v := (nI (k + 1))) (ls2 := [(4, .int (nI (k + 1))), (3, .int ((foldB (bfS (bfP S M r) s) k (0, σ)).1 + (bfP S M r (askM 27 (foldB (bfS (bfP S M r) s) k (0, σ)).2 s k)).1)), (5, .int (askV 27 (foldB (bfS (bfP S M r) s) k (0, σ)).2 s k)), (0, .ref 27), (1, .ref 1), (2, .int (nI s))]) 2 (dget dX1_bringingFrom 41 rfl) rfl (nI_1 k) (by decide) rfl ?_
      refine tq_goto (tgt := 26) (dget dX1_bringingFrom 42 rfl) (by decide) ?_
      refine tq_sub [0, 1, 3, 4, 5] (ls' := [(4, .int (nI (k + 1))), (3, .int ((foldB (bfS (bfP S M r) s) k (0, σ)).1 + (bfP S M r (askM 27 (foldB (bfS (bfP S M r) s) k (0, σ)).2 s k)).1)), (0, .ref 27), (1, .ref 1), (2, .int (nI s))]) rfl ?_
      exact ih (k + 1) (by omega) (by omega)
set_option maxHeartbeats 4000000 in
set_option maxRecDepth 20000 in
theorem c_bringing_step (S M r s : Nat) (hr : s + (r + 1) = S) (σ : Mem) (hok : okM S M σ) (hrec : ∀ (d : Nat), 3 + r ≤ d → ∀ τ, okM S M τ → PMet d mX1_bringingFrom [.ref 27, .ref 1, .int (nI (s + 1))] τ (Pi (fun v σ2 => v = (bfP S M r τ).1 ∧ σ2 = (bfP S M r τ).2))) (d : Nat) (hd : 3 + r + 1 ≤ d) : PMet d mX1_bringingFrom [.ref 27, .ref 1, .int (nI s)] σ (Pi (fun v σ2 => v = (bfP S M (r + 1) σ).1 ∧ σ2 = (bfP S M (r + 1) σ).2)) := by
  obtain ⟨d, rfl⟩ : ∃ e, d = e + 1 := ⟨d - 1, by omega⟩
  refine PMet.start (ls0 := [(0, .ref 27), (1, .ref 1), (2, .int (nI s))]) miX1_bringingFrom.1 (Nat.le_of_ble_eq_true rfl) rfl ?_
  have v1 := hok.1.1
  have v3 := hok.1.2.2.1
  have hsr : S - (r + 1) = s := by omega
  refine tq_aload_n 0 (dget dX1_bringingFrom 0 rfl) rfl rfl ?_
  refine tq_aload_n 1 (dget dX1_bringingFrom 1 rfl) rfl rfl ?_
  refine tq_iload_n 2 (dget dX1_bringingFrom 2 rfl) rfl rfl ?_
  refine mq_Vi (As := [.ref 1, .int (nI s)]) (rest := []) (dget dX1_bringingFrom 3 rfl) lX1_33 miX0_isBroken (c_isBroken 27 isD_27 σ S M s hok.1 hok.2 (by omega) d (by omega)) rfl rfl rfl rfl (Nat.le_of_ble_eq_true rfl) (Nat.le_of_ble_eq_true rfl) (fun r_3 σ_3 h_3 => ?_)
  obtain ⟨b_3, e_3⟩ := h_3
  obtain rfl := e_3.symm
  refine tq_if_eq (tgt := 11) (dget dX1_bringingFrom 4 rfl) (by decide) (fun c_6 => ?_) (fun c_6 => ?_)
  · have hE : bfP S M (r + 1) σ = foldB (bfS (bfP S M r) s) M (0, σ) := by rw [bfP, hsr]; exact if_neg (b_3.f c_6)
    refine tq_iload_n 2 (dget dX1_bringingFrom 7 rfl) rfl rfl ?_
    refine tq_aload_n 1 (dget dX1_bringingFrom 8 rfl) rfl rfl ?_
    refine tq_getI (dget dX1_bringingFrom 9 rfl) fX1_37 rfl rfl ?_
    refine tq_icmp_lt (tgt := 21) (dget dX1_bringingFrom 10 rfl) (by decide) (fun c_16 => ?_) (fun c_16 => ?_)
    · refine tq_iconst (v := 0) (dget dX1_bringingFrom 13 rfl) rfl ?_
      refine tq_istore_n (ls2 := [(3, .int 0), (0, .ref 27), (1, .ref 1), (2, .int (nI s))]) (dget dX1_bringingFrom 14 rfl) rfl (by decide) rfl ?_
      refine tq_iconst (v := 0) (dget dX1_bringingFrom 15 rfl) rfl ?_
      refine tq_istore (ls2 := [(4, .int 0), (3, .int 0), (0, .ref 27), (1, .ref 1), (2, .int (nI s))]) (dget dX1_bringingFrom 16 rfl) (by decide) rfl ?_
      refine tq_sub [0, 1, 2, 3, 4] (ls' := [(4, .int 0), (3, .int 0), (0, .ref 27), (1, .ref 1), (2, .int (nI s))]) rfl ?_
      rw [hE]
      exact c_bringing_loop S M r s hr σ hok hrec (d + 1) (by omega) (M + 1) 0 (by omega) (by omega)
    · rw [v1] at c_16
      exact absurd (knlt (by omega) (by omega) c_16) (by omega)
  · have hE : bfP S M (r + 1) σ = (0, σ) := by unfold bfP; rw [hsr, if_pos (b_3.t c_6)]
    refine tq_iconst (v := 0) (dget dX1_bringingFrom 5 rfl) rfl ?_
    exact tq_iret rfl (dget dX1_bringingFrom 6 rfl) ⟨_, rfl, by rw [hE], by rw [hE]⟩
theorem c_bringing (S M : Nat) : ∀ (r s : Nat), s + r = S → ∀ (d : Nat), 3 + r ≤ d → ∀ σ, okM S M σ → PMet d mX1_bringingFrom [.ref 27, .ref 1, .int (nI s)] σ (Pi (fun v σ2 => v = (bfP S M r σ).1 ∧ σ2 = (bfP S M r σ).2))
  | 0, s, h, d, hd, σ, hok => by
    rw [show s = S by omega]
    exact c_bringing_base S M σ hok d hd
  | r + 1, s, h, d, hd, σ, hok => c_bringing_step S M r s h σ hok (fun d hd τ hτ => c_bringing S M r (s + 1) (by omega) d hd τ hτ) d hd

set_option maxHeartbeats 4000000 in
set_option maxRecDepth 20000 in
theorem c_countBringing (σ : Mem) (S M : Nat) (hV : VA σ S M) (d : Nat) (hd : 10 ≤ d) : PMet d mX1_countBringing [.ref 26, .ref 1] σ (Pi (fun v σ2 => v = (bfP S M S (begF 27 σ)).1 ∧ σ2 = (bfP S M S (begF 27 σ)).2)) := by
  obtain ⟨d, rfl⟩ : ∃ e, d = e + 1 := ⟨d - 1, by omega⟩
  refine PMet.start (ls0 := [(0, .ref 26), (1, .ref 1)]) miX1_countBringing.1 (Nat.le_of_ble_eq_true rfl) rfl ?_
  have v3 := hV.2.2.1
  refine tq_aload_n 0 (dget dX1_countBringing 0 rfl) rfl rfl ?_
  refine tq_getR (dget dX1_countBringing 1 rfl) fX1_12 rfl rfl ?_
  refine mq_Vv (As := []) (rest := []) (dget dX1_countBringing 2 rfl) lX1_22 miX0_begin (c_begin 27 isD_27 σ d (by omega)) rfl rfl rfl rfl (Nat.le_of_ble_eq_true rfl) (Nat.le_of_ble_eq_true rfl) (fun σ_4 h_4 => ?_)
  obtain rfl := Eq.symm h_4
  refine tq_aload_n 0 (dget dX1_countBringing 3 rfl) rfl rfl ?_
  refine tq_getR (dget dX1_countBringing 4 rfl) fX1_12 rfl rfl ?_
  refine tq_aload_n 1 (dget dX1_countBringing 5 rfl) rfl rfl ?_
  refine tq_iconst (v := 0) (dget dX1_countBringing 6 rfl) rfl ?_
  refine mq_Si (As := [.ref 27, .ref 1, .int 0]) (rest := []) (dget dX1_countBringing 7 rfl) lX1_67 miX1_bringingFrom (c_bringing S M S 0 (by omega) d (by omega) (begF 27 σ) (begF_ok hV)) rfl rfl (Nat.le_of_ble_eq_true rfl) (Nat.le_of_ble_eq_true rfl) (fun r_13 σ_13 h_13 => ?_)
  obtain ⟨a_13, e_13⟩ := h_13
  obtain rfl := a_13.symm
  obtain rfl := e_13.symm
  exact tq_iret rfl (dget dX1_countBringing 8 rfl) ⟨_, rfl, rfl, rfl⟩

/-! ===== the mathematics (3): the class's search through matches ===== -/
theorem fstG_s {P : Nat → Prop} {k : Nat} : fstG P (k + 1) = match fstG P k with | some r => some r | none => cnd (P k) (some k) none := rfl
theorem cntG_skip {P : Nat → Prop} {a : Nat} : ∀ n, (∀ x, x < n → ¬ P (a + x)) → cntG P (a + n) = cntG P a ∧ fstG P (a + n) = fstG P a
  | 0, _ => ⟨rfl, rfl⟩
  | n + 1, h => by
    obtain ⟨h1, h2⟩ := cntG_skip n (fun x hx => h x (by omega))
    refine ⟨?_, ?_⟩
    · show cntG P ((a + n) + 1) = _
      rw [cntG_n (h n (by omega))]; exact h1
    · show fstG P ((a + n) + 1) = _
      rw [fstG_s, h2]
      cases fstG P a with
      | some r => rfl
      | none => exact cnd_f (h n (by omega)) _ _
theorem fstG_0 {P : Nat → Prop} : ∀ k, (fstG P k = none ↔ cntG P k = 0)
  | 0 => ⟨fun _ => rfl, fun _ => rfl⟩
  | k + 1 => by
    have ih := fstG_0 (P := P) k
    by_cases c : P k
    · rw [cntG_y c]
      unfold fstG
      constructor
      · intro h
        cases q : fstG P k with
        | some r => rw [q] at h; cases h
        | none => rw [q] at h; rw [cnd_t c] at h; cases h
      · intro h; omega
    · have := (cntG_skip (P := P) (a := k) 1 (fun x hx => by rw [show k + x = k by omega]; exact c))
      rw [this.1, this.2]; exact ih
theorem fstG_k {P : Nat → Prop} {k : Nat} (c : P k) : fstG P (k + 1) = if cntG P k = 0 then some k else fstG P k := by
  have h := fstG_0 (P := P) k
  conv => lhs; unfold fstG
  cases q : fstG P k with
  | some r =>
    rw [q] at h
    rw [if_neg (fun z => by have := h.mpr z; cases this)]
  | none =>
    rw [if_pos (h.mp q)]
    exact cnd_t c _ _
theorem fstG_P {P : Nat → Prop} : ∀ {k R : Nat}, fstG P k = some R → P R ∧ R < k
  | 0, _, h => by cases h
  | k + 1, R, h => by
    unfold fstG at h
    cases q : fstG P k with
    | some r =>
      rw [q] at h
      obtain ⟨a, b⟩ := fstG_P q
      cases h
      exact ⟨a, by omega⟩
    | none =>
      rw [q] at h
      by_cases c : P k
      · rw [cnd_t c] at h; cases h; exact ⟨c, by omega⟩
      · rw [cnd_f c] at h; cases h
/-- figures of a number whose head is P -/
theorem dig_pre {B P x r j : Nat} (hB : 0 < B) (hx : x < B ^ r) : digN (P * B ^ r + x) B (r + j) = digN P B j := by
  unfold digN
  rw [Nat.pow_add, ← Nat.div_div_eq_div_mul, Nat.add_comm, Nat.add_mul_div_right _ _ (Nat.pow_pos hB), Nat.div_eq_of_lt hx, Nat.zero_add]
theorem dig_0 {B P d : Nat} (hd : d < B) : digN (P * B + d) B 0 = d := by
  unfold digN
  rw [Nat.pow_zero, Nat.div_one, Nat.add_comm, Nat.add_mul_mod_self_right, Nat.mod_eq_of_lt hd]
theorem dig_s {B P d j : Nat} (hB : 0 < B) (hd : d < B) : digN (P * B + d) B (1 + j) = digN P B j := by
  have := dig_pre (P := P) (x := d) (r := 1) (j := j) hB (by rw [Nat.pow_one]; exact hd)
  rw [Nat.pow_one] at this
  exact this
def fm_p (M P s : Nat) : Nat → Nat := fun x => digN P (M + 1) (s - 1 - x)
theorem fm_w_p {S M P s r x y : Nat} (hr : s + r = S) (hx : x < (M + 1) ^ r) (hy : y < s) : fm_w S M (P * (M + 1) ^ r + x) y = fm_p M P s y := by
  unfold fm_w fm_p
  rw [show S - 1 - y = r + (s - 1 - y) by omega]
  exact dig_pre (by omega) hx
theorem fm_p_p {M P d s y : Nat} (hd : d < M + 1) (hy : y < s) : fm_p M (P * (M + 1) + d) (s + 1) y = fm_p M P s y := by
  unfold fm_p
  rw [show s + 1 - 1 - y = 1 + (s - 1 - y) by omega]
  exact dig_s (by omega) hd
theorem fm_p_0 {M P d s : Nat} (hd : d < M + 1) : fm_p M (P * (M + 1) + d) (s + 1) s = d := by
  unfold fm_p
  rw [show s + 1 - 1 - s = 0 by omega]
  exact dig_0 hd
def fm_D (σ : Mem) : DT := (σ 28, σ 29, σ 30)
def fm_I (K : LK) (S M : Nat) (σ : Mem) (a : Nat) : Prop := σ 26 2 = nI (cntG (fm_G K S M) a) ∧ ∀ R, fstG (fm_G K S M) a = some R → ∀ s, s < S → σ 31 s = if fm_w S M R s < M then nI (fm_w S M R s) else -1
theorem fm_I_cg {K : LK} {S M a b : Nat} {σ τ : Mem} (h : fm_I K S M σ a) (h1 : τ 26 = σ 26) (h2 : τ 31 = σ 31) (e : cntG (fm_G K S M) b = cntG (fm_G K S M) a ∧ fstG (fm_G K S M) b = fstG (fm_G K S M) a) : fm_I K S M τ b := by
  unfold fm_I
  rw [h1, h2, e.1, e.2]
  exact h
theorem fm_D_wed {τ : Mem} {s m : Nat} : fm_D (wedF 27 τ s m) = fm_wed (fm_D τ) s m := by
  unfold fm_D fm_wed wedF
  have a : up (up τ (27 + 3) s (nI m)) (27 + 2) m (nI s) 28 = τ 28 := (up_row (by decide)).trans (up_row (by decide))
  have b : up (up τ (27 + 3) s (nI m)) (27 + 2) m (nI s) 29 = upd (τ 29) m (nI s) := by
    show up (up τ 30 s (nI m)) 29 m (nI s) 29 = _
    unfold up
    rw [upR_s, upR_n (by decide)]
  have c : up (up τ (27 + 3) s (nI m)) (27 + 2) m (nI s) 30 = upd (τ 30) s (nI m) := by
    show up (up τ 30 s (nI m)) 29 m (nI s) 30 = _
    unfold up
    rw [upR_n (by decide), upR_s]
  rw [a, b, c]
theorem upd_back {f : Nat → Int32} {k : Nat} {v w : Int32} (h : f k = w) : upd (upd f k v) k w = f := by
  funext j
  unfold upd
  by_cases e : j = k
  · subst e; rw [if_pos rfl, h]
  · rw [if_neg e, if_neg e]
/-- a wedding undone, behind a search that leaves all but its own cells -/
theorem part_back {τ ω : Mem} {s m : Nat} (hw : τ 29 m = -1) (hb : τ 30 s = -1) (h : ∀ a, a ≠ 26 → a ≠ 31 → ω a = wedF 27 τ s m a) : (∀ a, a ≠ 26 → a ≠ 31 → partF 27 ω s m a = τ a) ∧ partF 27 ω s m 26 = ω 26 ∧ partF 27 ω s m 31 = ω 31 := by
  have e := fm_D_wed (τ := τ) (s := s) (m := m)
  have e29 : wedF 27 τ s m 29 = upd (τ 29) m (nI s) := congrArg (fun D : DT => D.2.1) e
  have e30 : wedF 27 τ s m 30 = upd (τ 30) s (nI m) := congrArg (fun D : DT => D.2.2) e
  refine ⟨fun a h1 h2 => ?_, partF_row (by decide) (by decide), partF_row (by decide) (by decide)⟩
  by_cases a29 : a = 29
  · subst a29
    show up (up ω 30 s (-1)) 29 m (-1) 29 = _
    unfold up
    rw [upR_s, upR_n (by decide), h 29 (by decide) (by decide), e29]
    exact upd_back hw
  · by_cases a30 : a = 30
    · subst a30
      show up (up ω 30 s (-1)) 29 m (-1) 30 = _
      unfold up
      rw [upR_n (by decide), upR_s, h 30 (by decide) (by decide), e30]
      exact upd_back hb
    · rw [partF_row (by omega) (by omega), h a h1 h2, wedF_row (by omega) (by omega)]
theorem keep_31 {σ : Mem} {s : Nat} (hs : s < 6) : keepF σ 31 s = if σ 26 2 = 0 then σ 30 s else σ 31 s := by
  unfold keepF
  rw [up_n (by omega)]
  by_cases c : σ 26 2 = 0
  · rw [if_pos c, if_pos c, upR_s]
    unfold va_cpy
    rw [if_pos (by omega)]
    congr 1
    omega
  · rw [if_neg c, if_neg c]
theorem keep_26 {σ : Mem} : keepF σ 26 2 = σ 26 2 + 1 := by
  unfold keepF
  rw [up_s]
  by_cases c : σ 26 2 = 0
  · rw [if_pos c, upR_n (by decide)]
  · rw [if_neg c]
theorem fm_E_row {K : LK} {S M : Nat} {σ τ : Mem} (hM : M ≤ 4) (h : fm_E (kC σ) K S M) (e : ∀ a, 4 ≤ a → a < 13 → τ a = σ a) : fm_E (kC τ) K S M := fun m hm s hs => by
  have := h m hm s hs
  refine ⟨?_, ?_⟩
  · show τ (4 + m) s = _
    rw [e (4 + m) (by omega) (by omega)]; exact this.1
  · show τ (9 + m) s = _
    rw [e (9 + m) (by omega) (by omega)]; exact this.2
theorem pow_step (P B r : Nat) : P * B ^ (r + 1) = (P * B) * B ^ r := by rw [Nat.pow_succ, Nat.mul_comm (B ^ r) B, Nat.mul_assoc]
theorem fm_mf {S M : Nat} (hS : S ≤ 6) (hM : M ≤ 4) (K : LK) : ∀ (r s P : Nat), s + r = S → (P + 1) * (M + 1) ^ r ≤ 15625 → ∀ σ, fm_E (kC σ) K S M → fm_C (fm_p M P s) M (fun x => x < s) (fm_D σ) → fm_I K S M σ (P * (M + 1) ^ r) → fm_I K S M (mfP S M r σ) ((P + 1) * (M + 1) ^ r) ∧ ∀ a, a ≠ 26 → a ≠ 31 → mfP S M r σ a = σ a
  | 0, s, P, hr, hbd, σ, hE, hC, hI => by
    have hs : s = S := by omega
    subst hs
    rw [Nat.pow_zero, Nat.mul_one] at hI hbd
    rw [Nat.pow_zero, Nat.mul_one]
    have hb := brk_iff (K := K) hS hM (Nat.le_refl s) (σ := σ) (D := fm_D σ) (fun _ _ => rfl) (fun _ _ => rfl) (fm_C_R hS hM hC (fun _ a => a)) hE
    have hg := (fm_G_of (K := K) (R := P) hS hM hC)
    have e0 : mfP s M 0 σ = @ite _ (brkP 27 σ s M s) (Classical.propDecidable _) σ (keepF σ) := rfl
    rw [e0]
    by_cases c : brkP 27 σ s M s
    · rw [if_pos c]
      have ng : ¬ fm_G K s M P := fun z => (fm_B_F.mp (hb.mp c)) (hg.mp z)
      exact ⟨fm_I_cg hI rfl rfl (cntG_skip 1 (fun x hx => by rw [show P + x = P by omega]; exact ng)), fun _ _ _ => rfl⟩
    · rw [if_neg c]
      have yg : fm_G K s M P := hg.mpr (Classical.byContradiction (fun z => c (hb.mpr (fm_B_F.mpr z))))
      refine ⟨⟨?_, fun R hR y hy => ?_⟩, fun a h1 h2 => keepF_row h1 h2⟩
      · rw [keep_26, hI.1, cntG_y yg, nI_1]
      · rw [keep_31 (by omega)]
        rw [fstG_k yg] at hR
        have hle := cntG_le (fm_G K s M) P
        by_cases z : cntG (fm_G K s M) P = 0
        · rw [if_pos z] at hR
          cases hR
          rw [if_pos (by rw [hI.1, z]; rfl)]
          exact hC.1 y (by omega) hy
        · rw [if_neg z] at hR
          rw [if_neg (by
            rw [hI.1]
            exact nI_ne0 (by omega) (by omega))]
          exact hI.2 R hR y hy
  | r + 1, s, P, hr, hbd, σ, hE, hC, hI => by
    have es : S - (r + 1) = s := by omega
    have e0 : mfP S M (r + 1) σ = @ite _ (brkP 27 σ S M (S - (r + 1))) (Classical.propDecidable _) σ (mfP S M r (foldM (mfS (mfP S M r) (S - (r + 1))) M σ)) := rfl
    rw [e0, es]
    have ebig : (P + 1) * (M + 1) ^ (r + 1) = (P * (M + 1) + M + 1) * (M + 1) ^ r := by
      rw [pow_step, Nat.succ_mul, Nat.add_assoc]
    have hbj : ∀ j, j ≤ M → (P * (M + 1) + j + 1) * (M + 1) ^ r ≤ 15625 := fun j hj => by
      rw [ebig] at hbd
      exact Nat.le_trans (Nat.mul_le_mul_right _ (by omega)) hbd
    by_cases c : brkP 27 σ S M s
    · rw [if_pos c]
      have hR := fm_C_R hS hM hC (S := S) (fun x a => by omega)
      have hB := (brk_iff (K := K) hS hM (k := s) (by omega) (σ := σ) (D := fm_D σ) (fun _ _ => rfl) (fun _ _ => rfl) hR hE).mp c
      have ng : ∀ x, x < (M + 1) ^ (r + 1) → ¬ fm_G K S M (P * (M + 1) ^ (r + 1) + x) := by
        rintro x hx ⟨D2, h2, f⟩
        have hC2 := fm_C_cg (w2 := fm_w S M (P * (M + 1) ^ (r + 1) + x)) (A2 := fun y => y < s) hC (fun y _ hy => fm_w_p hr hx hy) (fun _ _ => Iff.rfl)
        obtain ⟨e1, e2⟩ := fm_C_ext hC2 h2 (fun y _ a => by omega)
        exact fm_B_X hS hM hR (by omega) (fun m hm q => e1 m (by omega) q) (fun y hy => e2 y (by omega) hy) hB f
      refine ⟨fm_I_cg hI rfl rfl ?_, fun _ _ _ => rfl⟩
      rw [Nat.succ_mul]
      exact cntG_skip _ ng
    · rw [if_neg c]
      have fold : ∀ j, j ≤ M → fm_I K S M (foldM (mfS (mfP S M r) s) j σ) ((P * (M + 1) + j) * (M + 1) ^ r) ∧ ∀ a, a ≠ 26 → a ≠ 31 → foldM (mfS (mfP S M r) s) j σ a = σ a := by
        intro j
        induction j with
        | zero =>
          intro _
          rw [Nat.add_zero, ← pow_step]
          exact ⟨hI, fun _ _ _ => rfl⟩
        | succ j ih =>
          intro hj
          obtain ⟨i1, i2⟩ := ih (by omega)
          generalize hτ : foldM (mfS (mfP S M r) s) j σ = τ at i1 i2
          have est : foldM (mfS (mfP S M r) s) (j + 1) σ = mfS (mfP S M r) s τ j := by rw [← hτ]; rfl
          rw [est]
          have hDτ : fm_D τ = fm_D σ := by unfold fm_D; rw [i2 28 (by decide) (by decide), i2 29 (by decide) (by decide), i2 30 (by decide) (by decide)]
          have hEτ := fm_E_row hM hE (fun a h1 h2 => i2 a (by omega) (by omega))
          have hCτ : fm_C (fm_p M P s) M (fun x => x < s) (fm_D τ) := by rw [hDτ]; exact hC
          have hd : j < M + 1 := by omega
          have hw0 : fm_p M (P * (M + 1) + j) (s + 1) s = j := fm_p_0 hd
          have hCp : fm_C (fm_p M (P * (M + 1) + j) (s + 1)) M (fun x => x < s) (fm_D τ) := fm_C_cg hCτ (fun y _ hy => fm_p_p hd hy) (fun _ _ => Iff.rfl)
          have hnum : (P * (M + 1) + (j + 1)) * (M + 1) ^ r = (P * (M + 1) + j) * (M + 1) ^ r + (M + 1) ^ r := Nat.succ_mul _ _
          unfold mfS
          by_cases q : τ 29 j = -1
          · rw [if_pos q]
            have hb : τ 30 s = -1 := hCτ.2.1 s (by omega) (by omega)
            obtain ⟨g1, g2⟩ := fm_mf hS hM K r (s + 1) (P * (M + 1) + j) (by omega) (hbj j (by omega)) (wedF 27 τ s j) (fm_E_row hM hEτ (fun a h1 h2 => wedF_row (by omega) (by omega))) (by rw [fm_D_wed]; exact fm_C_wed hM hCp (by omega) (by omega) hw0 (by omega) q (fun x => by omega)) (fm_I_cg i1 (wedF_row (by decide) (by decide)) (wedF_row (by decide) (by decide)) ⟨rfl, rfl⟩)
            obtain ⟨p1, p2, p3⟩ := part_back q hb g2
            exact ⟨fm_I_cg g1 p2 p3 ⟨rfl, rfl⟩, fun a h1 h2 => (p1 a h1 h2).trans (i2 a h1 h2)⟩
          · rw [if_neg q]
            have ng : ∀ x, x < (M + 1) ^ r → ¬ fm_G K S M ((P * (M + 1) + j) * (M + 1) ^ r + x) := by
              rintro x hx ⟨D2, h2, f⟩
              rcases hCp.2.2.2 j (by omega) with z | ⟨y, hy, z⟩
              · exact q z
              · obtain ⟨a, b, c⟩ := (hCp.2.2.1 j (by omega) y hy).mp z
                have w1 : fm_w S M ((P * (M + 1) + j) * (M + 1) ^ r + x) y = j := (fm_w_p (s := s + 1) (by omega) hx (by omega)).trans b
                have w2 : fm_w S M ((P * (M + 1) + j) * (M + 1) ^ r + x) s = j := (fm_w_p (s := s + 1) (by omega) hx (by omega)).trans hw0
                have z1 := (h2.2.2.1 j (by omega) y hy).mpr ⟨by omega, w1, c⟩
                have z2 := (h2.2.2.1 j (by omega) s (by omega)).mpr ⟨by omega, w2, c⟩
                have z3 := (nI_eq (by omega) (by omega)).mp (z1.symm.trans z2)
                omega
            rw [hnum]
            exact ⟨fm_I_cg i1 rfl rfl (cntG_skip _ ng), i2⟩
      obtain ⟨i1, i2⟩ := fold M (Nat.le_refl _)
      generalize foldM (mfS (mfP S M r) s) M σ = τ at i1 i2
      have hDτ : fm_D τ = fm_D σ := by unfold fm_D; rw [i2 28 (by decide) (by decide), i2 29 (by decide) (by decide), i2 30 (by decide) (by decide)]
      have hEτ := fm_E_row hM hE (fun a h1 h2 => i2 a (by omega) (by omega))
      have hw0 : fm_p M (P * (M + 1) + M) (s + 1) s = M := fm_p_0 (by omega)
      have hCp : fm_C (fm_p M (P * (M + 1) + M) (s + 1)) M (fun x => x < s) (fm_D τ) := by
        rw [hDτ]
        exact fm_C_cg hC (fun y _ hy => fm_p_p (by omega) hy) (fun _ _ => Iff.rfl)
      have hCn : fm_C (fm_p M (P * (M + 1) + M) (s + 1)) M (fun x => x < s + 1) (fm_D τ) := fm_C_no (s := s) hCp (by omega) (by omega) (by rw [hw0]; omega) (fun x => by omega)
      obtain ⟨g1, g2⟩ := fm_mf hS hM K r (s + 1) (P * (M + 1) + M) (by omega) (hbj M (Nat.le_refl _)) τ hEτ hCn i1
      exact ⟨by rw [ebig]; exact g1, fun a h1 h2 => (g2 a h1 h2).trans (i2 a h1 h2)⟩
/-- the class's search, whole -/
theorem fm_firmM {S M : Nat} {σ : Mem} {K : LK} (hS : S ≤ 6) (hM : M ≤ 4) (hE : fm_E (kC σ) K S M) : fm_I K S M (firmM σ S M) ((M + 1) ^ S) ∧ ∀ a, a ≠ 26 → a ≠ 31 → a ≠ 28 → a ≠ 29 → a ≠ 30 → firmM σ S M a = σ a := by
  have r29 : ∀ m, m < 4 → up (begF 27 σ) 26 2 0 29 m = -1 := fun m hm => (congrFun (up_row (by decide)) m).trans (begF_w (t := 27) hm)
  have r30 : ∀ s, s < 6 → up (begF 27 σ) 26 2 0 30 s = -1 := fun s hs => (congrFun (up_row (by decide)) s).trans (begF_h (t := 27) hs)
  obtain ⟨g1, g2⟩ := fm_mf hS hM K S 0 0 (by omega) (by rw [Nat.zero_add, Nat.one_mul]; exact pow5 (by omega) hS) (up (begF 27 σ) 26 2 0) (fm_E_row hM hE (fun a h1 h2 => (up_row (by omega)).trans (begF_row (by omega) (by omega) (by omega)))) ⟨fun s _ a => absurd a (by omega), fun s hs _ => r30 s hs, fun m hm s hs => ⟨fun z => absurd ((r29 m hm).symm.trans z).symm (nI_nm1 (by omega)), fun z => absurd z.1 (by omega)⟩, fun m hm => Or.inl (r29 m hm)⟩ (by
    rw [Nat.zero_mul]
    exact ⟨up_s, fun R hR => by cases hR⟩)
  rw [Nat.zero_add, Nat.one_mul] at g1
  exact ⟨g1, fun a h1 h2 h3 h4 h5 => (g2 a h1 h2).trans ((up_row h1).trans (begF_row h3 h4 h5))⟩

/-! ===== the mathematics (2): matches, told once: a day's end as husbands and brides, firm or not; which rows of digits bring which ===== -/
abbrev LK : Type := (Nat → Nat → Int32) × (Nat → Nat → Int32)
def fm_H (K : LK) (D : DT) (s : Nat) : Int32 := if D.2.2 s = -1 then -1 else K.2 (cl (D.2.2 s)) s
def fm_S (K : LK) (D : DT) (m : Nat) : Int32 := if D.2.1 m = -1 then -1 else K.1 m (cl (D.2.1 m))
def fm_W (K : LK) (D : DT) (m s : Nat) : Prop := fm_H K D s < K.2 m s ∧ fm_S K D m < K.1 m s
def fm_F (K : LK) (D : DT) (S M : Nat) : Prop := ∀ m, m < M → ∀ s, s < S → ¬ fm_W K D m s
def fm_B (K : LK) (D : DT) (S M k : Nat) : Prop := ∃ m, m < M ∧ (S ≤ k ∨ ¬ D.2.1 m = -1) ∧ ∃ s, s < k ∧ fm_W K D m s
/-- who is wed is of the valley -/
def fm_R (D : DT) (S M : Nat) : Prop := (∀ m, m < M → D.2.1 m = -1 ∨ ∃ s, s < S ∧ D.2.1 m = nI s) ∧ ∀ s, s < S → D.2.2 s = -1 ∨ ∃ m, m < M ∧ D.2.2 s = nI m
/-- likings agree -/
def fm_E (K K2 : LK) (S M : Nat) : Prop := ∀ m, m < M → ∀ s, s < S → K.1 m s = K2.1 m s ∧ K.2 m s = K2.2 m s
def kC (σ : Mem) : LK := (fun m s => σ (4 + m) s, fun m s => σ (9 + m) s)
def kR (σ : Mem) : LK := (fun m s => σ 44 (6 * m + s), fun m s => σ 45 (6 * m + s))
theorem fm_E.symm {K K2 : LK} {S M : Nat} (h : fm_E K K2 S M) : fm_E K2 K S M := fun m hm s hs => ⟨(h m hm s hs).1.symm, (h m hm s hs).2.symm⟩
theorem fm_W_cg {K K2 : LK} {D D2 : DT} {S M m s : Nat} (hS : S ≤ 6) (hM : M ≤ 4) (hR : fm_R D S M) (e : fm_E K K2 S M) (h1 : D2.2.1 m = D.2.1 m) (h2 : D2.2.2 s = D.2.2 s) (hm : m < M) (hs : s < S) : fm_W K D m s ↔ fm_W K2 D2 m s := by
  have a : fm_H K D s = fm_H K2 D2 s := by
    unfold fm_H
    rw [h2]
    rcases hR.2 s hs with q | ⟨b, hb, q⟩
    · rw [if_pos q, if_pos q]
    · rw [if_neg (by rw [q]; exact nI_nm1 (by omega)), if_neg (by rw [q]; exact nI_nm1 (by omega)), q, show cl (nI b) = b from nI_clamp (by omega)]
      exact (e b hb s hs).2
  have b : fm_S K D m = fm_S K2 D2 m := by
    unfold fm_S
    rw [h1]
    rcases hR.1 m hm with q | ⟨b, hb, q⟩
    · rw [if_pos q, if_pos q]
    · rw [if_neg (by rw [q]; exact nI_nm1 (by omega)), if_neg (by rw [q]; exact nI_nm1 (by omega)), q, show cl (nI b) = b from nI_clamp (by omega)]
      exact (e m hm b hb).1
  unfold fm_W
  rw [a, b, (e m hm s hs).1, (e m hm s hs).2]
theorem fm_E.rfl {K : LK} {S M : Nat} : fm_E K K S M := fun _ _ _ _ => ⟨Eq.refl _, Eq.refl _⟩
theorem fm_F_cg {K K2 : LK} {D D2 : DT} {S M : Nat} (hS : S ≤ 6) (hM : M ≤ 4) (hR : fm_R D S M) (e : fm_E K K2 S M) (h1 : ∀ m, m < M → D2.2.1 m = D.2.1 m) (h2 : ∀ s, s < S → D2.2.2 s = D.2.2 s) : fm_F K D S M ↔ fm_F K2 D2 S M :=
  ⟨fun h m hm s hs w => h m hm s hs ((fm_W_cg hS hM hR e (h1 m hm) (h2 s hs) hm hs).mpr w), fun h m hm s hs w => h m hm s hs ((fm_W_cg hS hM hR e (h1 m hm) (h2 s hs) hm hs).mp w)⟩
theorem fm_B_F {K : LK} {D : DT} {S M : Nat} : fm_B K D S M S ↔ ¬ fm_F K D S M := by
  constructor
  · rintro ⟨m, hm, _, s, hs, w⟩ h
    exact h m hm s hs w
  · intro h
    refine Classical.byContradiction (fun q => h (fun m hm s hs w => q ⟨m, hm, Or.inl (Nat.le_refl _), s, hs, w⟩))
/-- what is broken stays broken, as far as it is settled -/
theorem fm_B_X {K : LK} {D D2 : DT} {S M k : Nat} (hS : S ≤ 6) (hM : M ≤ 4) (hR : fm_R D S M) (hk : k < S) (h1 : ∀ m, m < M → ¬ D.2.1 m = -1 → D2.2.1 m = D.2.1 m) (h2 : ∀ s, s < k → D2.2.2 s = D.2.2 s) (h : fm_B K D S M k) : ¬ fm_F K D2 S M := by
  obtain ⟨m, hm, q, s, hs, w⟩ := h
  rcases q with q | q
  · omega
  · intro z
    exact z m hm s (by omega) ((fm_W_cg hS hM hR fm_E.rfl (h1 m hm q) (h2 s hs) hm (by omega)).mp w)
/-! the class's own words -/
theorem brk_iff {σ : Mem} {K : LK} {D : DT} {S M k : Nat} (hS : S ≤ 6) (hM : M ≤ 4) (hk : k ≤ S) (h1 : ∀ m, m < M → σ 29 m = D.2.1 m) (h2 : ∀ s, s < S → σ 30 s = D.2.2 s) (hR : fm_R D S M) (e : fm_E (kC σ) K S M) : brkP 27 σ S M k ↔ fm_B K D S M k := by
  have key : ∀ m, m < M → ∀ s, s < S → (wbP 27 σ s m ↔ fm_W K D m s) := fun m hm s hs => by
    have hR2 : fm_R (σ 28, σ 29, σ 30) S M := ⟨fun m hm => by show σ 29 m = -1 ∨ ∃ s, s < S ∧ σ 29 m = nI s; rw [h1 m hm]; exact hR.1 m hm, fun s hs => by show σ 30 s = -1 ∨ ∃ m, m < M ∧ σ 30 s = nI m; rw [h2 s hs]; exact hR.2 s hs⟩
    have := fm_W_cg (D := (σ 28, σ 29, σ 30)) (D2 := D) hS hM hR2 e (h1 m hm).symm (h2 s hs).symm hm hs
    exact this
  constructor
  · rintro ⟨m, hm, q, s, hs, w⟩
    exact ⟨m, hm, q.imp id (fun z y => z ((h1 m hm).trans y)), s, hs, (key m hm s (by omega)).mp w⟩
  · rintro ⟨m, hm, q, s, hs, w⟩
    exact ⟨m, hm, q.imp id (fun z y => z ((h1 m hm).symm.trans y)), s, hs, (key m hm s (by omega)).mpr w⟩
/-! the reference's own words -/
theorem w9_ne {x : Int32} (h : ¬ x = -1) : w9 x = x := if_neg h
theorem frm_iff {τ : Mem} {D : DT} {S M : Nat} (hS : S ≤ 6) (hM : M ≤ 4) (h1 : ∀ m, m < M → τ 53 m = w9 (D.2.1 m)) (h2 : ∀ s, s < S → τ 54 s = w9 (D.2.2 s)) (hR : fm_R D S M) : frmP τ S M ↔ fm_F (kR τ) D S M := by
  have a : ∀ s, s < S → ownHm τ s = fm_H (kR τ) D s := fun s hs => by
    unfold ownHm fm_H
    rw [h2 s hs]
    rcases hR.2 s hs with q | ⟨b, hb, q⟩
    · rw [if_pos q, q]; rfl
    · have n1 : ¬ D.2.2 s = -1 := by rw [q]; exact nI_nm1 (by omega)
      rw [if_neg n1, w9_ne n1, if_neg (by rw [q]; exact nI_pos (by omega))]
      rfl
  have b : ∀ m, m < M → ownSm τ m = fm_S (kR τ) D m := fun m hm => by
    unfold ownSm fm_S
    rw [h1 m hm]
    rcases hR.1 m hm with q | ⟨b, hb, q⟩
    · rw [if_pos q, q]; rfl
    · have n1 : ¬ D.2.1 m = -1 := by rw [q]; exact nI_nm1 (by omega)
      rw [if_neg n1, w9_ne n1, if_neg (by rw [q]; exact nI_pos (by omega))]
      rfl
  have key : ∀ m, m < M → ∀ s, s < S → (wbm τ m s ↔ fm_W (kR τ) D m s) := fun m hm s hs => by
    unfold wbm fm_W
    rw [a s hs, b m hm]
    exact Iff.rfl
  exact ⟨fun h m hm s hs w => h m hm s hs ((key m hm s hs).mpr w), fun h m hm s hs w => h m hm s hs ((key m hm s hs).mp w)⟩
/-! a match by a row w of maids (M: nobody), as far as A -/
def fm_C (w : Nat → Nat) (M : Nat) (A : Nat → Prop) (D : DT) : Prop :=
  (∀ s, s < 6 → A s → D.2.2 s = if w s < M then nI (w s) else -1) ∧ (∀ s, s < 6 → ¬ A s → D.2.2 s = -1) ∧ (∀ m, m < 4 → ∀ s, s < 6 → (D.2.1 m = nI s ↔ (A s ∧ w s = m ∧ m < M))) ∧ ∀ m, m < 4 → D.2.1 m = -1 ∨ ∃ s, s < 6 ∧ D.2.1 m = nI s
def fm_wed (D : DT) (s m : Nat) : DT := (D.1, upd D.2.1 m (nI s), upd D.2.2 s (nI m))
theorem fm_C_wed {w : Nat → Nat} {M s m : Nat} {A A2 : Nat → Prop} {D : DT} (hM : M ≤ 4) (h : fm_C w M A D) (hs : s < 6) (hA : ¬ A s) (hw : w s = m) (hm : m < M) (hf : D.2.1 m = -1) (hA2 : ∀ x, A2 x ↔ (A x ∨ x = s)) : fm_C w M A2 (fm_wed D s m) := by
  obtain ⟨h1, h2, h3, h4⟩ := h
  refine ⟨fun x hx q => ?_, fun x hx q => ?_, fun y hy x hx => ?_, fun y hy => ?_⟩
  · show upd D.2.2 s (nI m) x = _
    by_cases e : x = s
    · subst e; rw [upd_s, if_pos (by omega), hw]
    · rw [upd_n e]
      exact h1 x hx (((hA2 x).mp q).resolve_right e)
  · show upd D.2.2 s (nI m) x = _
    have e : x ≠ s := fun e => q ((hA2 x).mpr (Or.inr e))
    rw [upd_n e]
    exact h2 x hx (fun z => q ((hA2 x).mpr (Or.inl z)))
  · show upd D.2.1 m (nI s) y = nI x ↔ _
    by_cases e : y = m
    · subst e
      rw [upd_s, nI_eq (by omega) (by omega)]
      constructor
      · intro z; subst z
        exact ⟨(hA2 _).mpr (Or.inr rfl), hw, hm⟩
      · rintro ⟨a, b, c⟩
        rcases (hA2 x).mp a with a | a
        · have := (h3 y hy x hx).mpr ⟨a, b, c⟩
          rw [hf] at this
          exact absurd this.symm (nI_nm1 (by omega))
        · exact a.symm
    · rw [upd_n e, h3 y hy x hx]
      constructor
      · rintro ⟨a, b, c⟩
        exact ⟨(hA2 x).mpr (Or.inl a), b, c⟩
      · rintro ⟨a, b, c⟩
        rcases (hA2 x).mp a with a | a
        · exact ⟨a, b, c⟩
        · subst a; exact absurd (b.symm.trans hw) e
  · show upd D.2.1 m (nI s) y = -1 ∨ ∃ x, x < 6 ∧ upd D.2.1 m (nI s) y = nI x
    by_cases e : y = m
    · subst e; exact Or.inr ⟨s, hs, upd_s _ _ _⟩
    · rw [upd_n e]; exact h4 y hy
theorem fm_C_no {w : Nat → Nat} {M s : Nat} {A A2 : Nat → Prop} {D : DT} (h : fm_C w M A D) (hs : s < 6) (hA : ¬ A s) (hw : ¬ w s < M) (hA2 : ∀ x, A2 x ↔ (A x ∨ x = s)) : fm_C w M A2 D := by
  obtain ⟨h1, h2, h3, h4⟩ := h
  refine ⟨fun x hx q => ?_, fun x hx q => h2 x hx (fun z => q ((hA2 x).mpr (Or.inl z))), fun y hy x hx => ?_, h4⟩
  · by_cases e : x = s
    · subst e; rw [if_neg hw]; exact h2 x hx hA
    · exact h1 x hx (((hA2 x).mp q).resolve_right e)
  · rw [h3 y hy x hx]
    constructor
    · rintro ⟨a, b, c⟩
      exact ⟨(hA2 x).mpr (Or.inl a), b, c⟩
    · rintro ⟨a, b, c⟩
      rcases (hA2 x).mp a with a | a
      · exact ⟨a, b, c⟩
      · subst a; omega
theorem fm_C_cg {w w2 : Nat → Nat} {M : Nat} {A A2 : Nat → Prop} {D : DT} (h : fm_C w M A D) (hw : ∀ s, s < 6 → A s → w2 s = w s) (hA : ∀ s, s < 6 → (A2 s ↔ A s)) : fm_C w2 M A2 D := by
  obtain ⟨h1, h2, h3, h4⟩ := h
  refine ⟨fun x hx q => ?_, fun x hx q => h2 x hx (fun z => q ((hA x hx).mpr z)), fun y hy x hx => ?_, h4⟩
  · have a := (hA x hx).mp q
    rw [hw x hx a]; exact h1 x hx a
  · rw [h3 y hy x hx]
    constructor
    · rintro ⟨a, b, c⟩
      exact ⟨(hA x hx).mpr a, (hw x hx a).trans b, c⟩
    · rintro ⟨a, b, c⟩
      have a2 := (hA x hx).mp a
      exact ⟨a2, (hw x hx a2).symm.trans b, c⟩
theorem fm_C_R {w : Nat → Nat} {S M : Nat} {A : Nat → Prop} {D : DT} (hS : S ≤ 6) (hM : M ≤ 4) (h : fm_C w M A D) (hA : ∀ s, A s → s < S) : fm_R D S M := by
  obtain ⟨h1, h2, h3, h4⟩ := h
  refine ⟨fun m hm => ?_, fun s hs => ?_⟩
  · rcases h4 m (by omega) with q | ⟨s, hs, q⟩
    · exact Or.inl q
    · exact Or.inr ⟨s, hA s ((h3 m (by omega) s hs).mp q).1, q⟩
  · by_cases a : A s
    · have := h1 s (by omega) a
      by_cases c : w s < M
      · rw [if_pos c] at this; exact Or.inr ⟨w s, c, this⟩
      · rw [if_neg c] at this; exact Or.inl this
    · exact Or.inl (h2 s (by omega) a)
/-- two that tell the same row: one goes on where the other has come to -/
theorem fm_C_ext {w : Nat → Nat} {M : Nat} {A A2 : Nat → Prop} {D D2 : DT} (h : fm_C w M A D) (h' : fm_C w M A2 D2) (hA : ∀ s, s < 6 → A s → A2 s) : (∀ m, m < 4 → ¬ D.2.1 m = -1 → D2.2.1 m = D.2.1 m) ∧ ∀ s, s < 6 → A s → D2.2.2 s = D.2.2 s := by
  refine ⟨fun m hm q => ?_, fun s hs a => ?_⟩
  · rcases h.2.2.2 m hm with z | ⟨s, hs, z⟩
    · exact absurd z q
    · obtain ⟨a, b, c⟩ := (h.2.2.1 m hm s hs).mp z
      rw [z]
      exact (h'.2.2.1 m hm s hs).mpr ⟨hA s hs a, b, c⟩
  · rw [h.1 s hs a, h'.1 s hs (hA s hs a)]
theorem fm_C_uni {w : Nat → Nat} {M : Nat} {A : Nat → Prop} {D D2 : DT} (h : fm_C w M A D) (h' : fm_C w M A D2) : (∀ m, m < 4 → D2.2.1 m = D.2.1 m) ∧ ∀ s, s < 6 → D2.2.2 s = D.2.2 s := by
  refine ⟨fun m hm => ?_, fun s hs => ?_⟩
  · by_cases q : D.2.1 m = -1
    · by_cases q2 : D2.2.1 m = -1
      · rw [q, q2]
      · exact ((fm_C_ext h' h (fun _ _ a => a)).1 m hm q2).symm
    · exact (fm_C_ext h h' (fun _ _ a => a)).1 m hm q
  · by_cases a : A s
    · exact (fm_C_ext h h' (fun _ _ a => a)).2 s hs a
    · rw [h.2.1 s hs a, h'.2.1 s hs a]
/-- the row of a number: the first suitor's figure is the highest -/
def fm_w (S M R s : Nat) : Nat := digN R (M + 1) (S - 1 - s)
def fm_G (K : LK) (S M R : Nat) : Prop := ∃ D, fm_C (fm_w S M R) M (fun s => s < S) D ∧ fm_F K D S M
theorem fm_G_cg {K K2 : LK} {S M R : Nat} (hS : S ≤ 6) (hM : M ≤ 4) (e : fm_E K K2 S M) : fm_G K S M R ↔ fm_G K2 S M R := by
  constructor
  · rintro ⟨D, h, f⟩
    exact ⟨D, h, (fm_F_cg hS hM (fm_C_R hS hM h (fun _ a => a)) e (fun _ _ => rfl) (fun _ _ => rfl)).mp f⟩
  · rintro ⟨D, h, f⟩
    exact ⟨D, h, (fm_F_cg hS hM (fm_C_R hS hM h (fun _ a => a)) e.symm (fun _ _ => rfl) (fun _ _ => rfl)).mp f⟩
theorem fm_G_of {K : LK} {S M R : Nat} {D : DT} (hS : S ≤ 6) (hM : M ≤ 4) (h : fm_C (fm_w S M R) M (fun s => s < S) D) : fm_G K S M R ↔ fm_F K D S M := by
  constructor
  · rintro ⟨D2, h2, f⟩
    obtain ⟨u1, u2⟩ := fm_C_uni h2 h
    exact (fm_F_cg hS hM (fm_C_R hS hM h2 (fun _ a => a)) fm_E.rfl (fun m hm => u1 m (by omega)) (fun s hs => u2 s (by omega))).mp f
  · exact fun f => ⟨D, h, f⟩
/-! the reference lays matches -/
def fm_L (R S M : Nat) : Nat → DT
  | 0 => dy0
  | k + 1 => if digN R (M + 1) k < M then fm_wed (fm_L R S M k) (S - 1 - k) (digN R (M + 1) k) else fm_L R S M k
def dr2 (τ : Mem) (D : DT) : Prop := (∀ m, m < 4 → τ 53 m = w9 (D.2.1 m)) ∧ ∀ s, s < 6 → τ 54 s = w9 (D.2.2 s)
theorem lay_dr {τ : Mem} {R S M : Nat} (hS : S ≤ 6) (hM : M ≤ 4) (h : dr2 τ dy0) : ∀ k, k ≤ S → dr2 (layF τ R S M k) (fm_L R S M k)
  | 0, _ => h
  | k + 1, hk => by
    obtain ⟨a, b⟩ := lay_dr (R := R) hS hM h k (by omega)
    unfold layF fm_L
    by_cases c : digN R (M + 1) k < M
    · rw [if_pos c, if_pos c]
      refine ⟨fun m hm => ?_, fun s hs => ?_⟩
      · rw [up_n (by omega)]
        show _ = w9 (upd (fm_L R S M k).2.1 (digN R (M + 1) k) (nI (S - 1 - k)) m)
        by_cases e : m = digN R (M + 1) k
        · subst e; rw [up_s, upd_s, w9_ne (nI_nm1 (by omega))]
        · rw [up_n (by omega), upd_n e]; exact a m hm
      · show _ = w9 (upd (fm_L R S M k).2.2 (S - 1 - k) (nI (digN R (M + 1) k)) s)
        by_cases e : s = S - 1 - k
        · subst e; rw [up_s, upd_s, w9_ne (nI_nm1 (by omega))]
        · rw [up_n (by omega), up_n (by omega), upd_n e]; exact b s hs
    · rw [if_neg c, if_neg c]; exact ⟨a, b⟩
theorem lay_row {τ : Mem} {R S M a : Nat} (h1 : a ≠ 53) (h2 : a ≠ 54) : ∀ k, layF τ R S M k a = τ a
  | 0 => rfl
  | k + 1 => by
    unfold layF
    split
    · rw [up_row h2, up_row h1]; exact lay_row h1 h2 k
    · exact lay_row h1 h2 k
theorem lay_C {R S M : Nat} (hS : S ≤ 6) (hM : M ≤ 4) : ∀ k, k ≤ S → (∀ j, j < k → digN R (M + 1) j < M → (fm_L R S M j).2.1 (digN R (M + 1) j) = -1) → fm_C (fm_w S M R) M (fun s => S - k ≤ s ∧ s < S) (fm_L R S M k)
  | 0, _, _ => ⟨fun s _ a => absurd a (by omega), fun s _ _ => rfl, fun m hm s hs => ⟨fun z => absurd z.symm (nI_nm1 (by omega)), fun z => absurd z.1 (by omega)⟩, fun m _ => Or.inl rfl⟩
  | k + 1, hk, h => by
    have ih := lay_C hS hM k (by omega) (fun j hj => h j (by omega))
    have e0 : fm_w S M R (S - 1 - k) = digN R (M + 1) k := by unfold fm_w; rw [show S - 1 - (S - 1 - k) = k by omega]
    have hA2 : ∀ x, (S - (k + 1) ≤ x ∧ x < S) ↔ ((S - k ≤ x ∧ x < S) ∨ x = S - 1 - k) := fun x => by omega
    unfold fm_L
    by_cases c : digN R (M + 1) k < M
    · rw [if_pos c]
      exact fm_C_wed hM ih (by omega) (by omega) e0 c (h k (by omega) c) hA2
    · rw [if_neg c]
      exact fm_C_no ih (by omega) (by omega) (by rw [e0]; exact c) hA2
theorem dr2_beg {σ : Mem} : dr2 (begM σ) dy0 := ⟨fun m hm => (dr_beg.1 m hm).2, dr_beg.2⟩
theorem w9_lt {x : Int32} (h : x = -1 ∨ ∃ b, b < 6 ∧ x = nI b) : w9 x < 0 ↔ x = -1 := w9_neg (h.imp id (fun ⟨b, hb, e⟩ => ⟨b, by omega, e⟩))
theorem good_iff {σ : Mem} {S M R : Nat} (hS : S ≤ 6) (hM : M ≤ 4) : goodM σ S M R ↔ fm_G (kR σ) S M R := by
  have hk : kR (layF (begM σ) R S M S) = kR σ := by
    unfold kR
    rw [lay_row (a := 44) (by decide) (by decide), lay_row (a := 45) (by decide) (by decide), begM_row (a := 44) (by decide) (by decide) (by decide), begM_row (a := 45) (by decide) (by decide) (by decide)]
  have hfin : (∀ j, j < S → digN R (M + 1) j < M → (fm_L R S M j).2.1 (digN R (M + 1) j) = -1) → fm_C (fm_w S M R) M (fun s => s < S) (fm_L R S M S) ∧ (frmP (layF (begM σ) R S M S) S M ↔ fm_F (kR σ) (fm_L R S M S) S M) := fun h => by
    have hC := fm_C_cg (A2 := fun s => s < S) (lay_C hS hM S (Nat.le_refl _) h) (fun _ _ _ => rfl) (fun s _ => by omega)
    obtain ⟨a, b⟩ := lay_dr (R := R) hS hM (dr2_beg (σ := σ)) S (Nat.le_refl _)
    have := frm_iff hS hM (fun m hm => a m (by omega)) (fun s hs => b s (by omega)) (fm_C_R hS hM hC (fun _ a => a))
    rw [hk] at this
    exact ⟨hC, this⟩
  have hstep : ∀ j, j < S → (∀ i, i < j → digN R (M + 1) i < M → (fm_L R S M i).2.1 (digN R (M + 1) i) = -1) → digN R (M + 1) j < M → (layF (begM σ) R S M j 53 (digN R (M + 1) j) < 0 ↔ (fm_L R S M j).2.1 (digN R (M + 1) j) = -1) := fun j hj hi hd => by
    have hC := lay_C hS hM j (by omega) hi
    rw [(lay_dr (R := R) hS hM (dr2_beg (σ := σ)) j (by omega)).1 _ (by omega)]
    exact w9_lt (hC.2.2.2 _ (by omega))
  constructor
  · rintro ⟨h1, h2⟩
    have all : ∀ n, n ≤ S → ∀ j, j < n → digN R (M + 1) j < M → (fm_L R S M j).2.1 (digN R (M + 1) j) = -1 := fun n => by
      induction n with
      | zero => intro _ j hj; omega
      | succ n ih =>
        intro hn j hj hd
        by_cases e : j = n
        · subst e
          exact (hstep j (by omega) (ih (by omega)) hd).mp (h1 j (by omega) hd)
        · exact ih (by omega) j (by omega) hd
    obtain ⟨hC, hF⟩ := hfin (all S (Nat.le_refl _))
    exact ⟨_, hC, hF.mp h2⟩
  · rintro ⟨D, hD, f⟩
    have all : ∀ n, n ≤ S → ∀ j, j < n → digN R (M + 1) j < M → (fm_L R S M j).2.1 (digN R (M + 1) j) = -1 := fun n => by
      induction n with
      | zero => intro _ j hj; omega
      | succ n ih =>
        intro hn j hj hd
        by_cases e : j = n
        · subst e
          have hC := lay_C hS hM j (by omega) (ih (by omega))
          rcases hC.2.2.2 (digN R (M + 1) j) (by omega) with q | ⟨s, hs, q⟩
          · exact q
          · exfalso
            obtain ⟨a, b, c⟩ := (hC.2.2.1 (digN R (M + 1) j) (by omega) s hs).mp q
            have e0 : fm_w S M R (S - 1 - j) = digN R (M + 1) j := by unfold fm_w; rw [show S - 1 - (S - 1 - j) = j by omega]
            have z1 := (hD.2.2.1 (digN R (M + 1) j) (by omega) s hs).mpr ⟨a.2, b, c⟩
            have z2 := (hD.2.2.1 (digN R (M + 1) j) (by omega) (S - 1 - j) (by omega)).mpr ⟨by omega, e0, c⟩
            have z3 := (nI_eq (by omega) (by omega)).mp (z1.symm.trans z2)
            omega
        · exact ih (by omega) j (by omega) hd
    obtain ⟨hC, hF⟩ := hfin (all S (Nat.le_refl _))
    refine ⟨fun j hj hd => (hstep j hj (fun i hi => all S (Nat.le_refl _) i (by omega)) hd).mpr (all S (Nat.le_refl _) j hj hd), hF.mpr ?_⟩
    exact (fm_G_of hS hM hC).mp ⟨D, hD, f⟩
/-- the first firm match as the reference reads it -/
theorem lay_54 {σ : Mem} {S M R y : Nat} (hS : S ≤ 6) (hM : M ≤ 4) (h : fm_G (kR σ) S M R) (hy : y < S) : layF (begM σ) R S M S 54 y = w9 (if fm_w S M R y < M then nI (fm_w S M R y) else -1) := by
  obtain ⟨h1, -⟩ := (good_iff hS hM).mpr h
  have all : ∀ n, n ≤ S → ∀ j, j < n → digN R (M + 1) j < M → (fm_L R S M j).2.1 (digN R (M + 1) j) = -1 := fun n => by
    induction n with
    | zero => intro _ j hj; omega
    | succ n ih =>
      intro hn j hj hd
      by_cases e : j = n
      · subst e
        have hC := lay_C hS hM j (by omega) (ih (by omega))
        have := h1 j (by omega) hd
        rw [(lay_dr (R := R) hS hM (dr2_beg (σ := σ)) j (by omega)).1 _ (by omega)] at this
        exact (w9_lt (hC.2.2.2 _ (by omega))).mp this
      · exact ih (by omega) j (by omega) hd
  have hC := lay_C hS hM S (Nat.le_refl _) (all S (Nat.le_refl _))
  rw [(lay_dr (R := R) hS hM (dr2_beg (σ := σ)) S (Nat.le_refl _)).2 y (by omega), hC.1 y (by omega) (by omega)]

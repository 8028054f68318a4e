/-! ===== the mathematics (1): a row of days, told once ===== -/
abbrev DT : Type := (Nat → Int32) × (Nat → Int32) × (Nat → Int32)
/-- what a valley tells of its askings: its law, the maids' kinds, their likings -/
abbrev LT : Type := Int32 × (Nat → Int32) × (Nat → Nat → Int32)
def dyA (L : LT) (D : DT) (s m : Nat) : Int32 := ansF L.1 (L.2.1 m) (L.2.2 m s) (D.1 m)
def dyV (L : LT) (D : DT) (s m : Nat) : Int32 := if D.2.2 s = -1 ∧ D.2.1 m = -1 then dyA L D s m else 0
def dyS (L : LT) (D : DT) (s m : Nat) : DT := if D.2.2 s = -1 ∧ D.2.1 m = -1 then (if dyA L D s m = 3 then (upd D.1 m (D.1 m + 1), D.2.1, D.2.2) else (D.1, upd D.2.1 m (nI s), upd D.2.2 s (nI m))) else D
def dy0 : DT := (fun _ => 0, fun _ => -1, fun _ => -1)
def dyN (L : LT) (so mo : Nat → Nat) : Nat → DT
  | 0 => dy0
  | k + 1 => dyS L (dyN L so mo k) (so k) (mo k)
def dcR (t : Nat) (σ : Mem) (D : DT) : Prop := (∀ m, m < 4 → σ (t + 1) m = D.1 m ∧ σ (t + 2) m = D.2.1 m) ∧ ∀ s, s < 6 → σ (t + 3) s = D.2.2 s
def w9 (x : Int32) : Int32 := if x = -1 then -9 else x
def drR (σ : Mem) (D : DT) : Prop := (∀ m, m < 4 → σ 52 m = D.1 m ∧ σ 53 m = w9 (D.2.1 m)) ∧ ∀ s, s < 6 → σ 54 s = w9 (D.2.2 s)
def dyW (D : DT) : Prop := (∀ m, D.2.1 m = -1 ∨ ∃ h, h < 6 ∧ D.2.1 m = nI h) ∧ ∀ s, D.2.2 s = -1 ∨ ∃ b, b < 4 ∧ D.2.2 s = nI b
def lC (σ : Mem) : LT := (σ 1 2, σ 2, fun m s => σ (4 + m) s)
def lR (σ : Mem) : LT := (σ 42 6, σ 43, fun m s => σ 44 (6 * m + s))
theorem w9_neg {x : Int32} (h : x = -1 ∨ ∃ b, b < 2 ^ 31 ∧ x = nI b) : w9 x < 0 ↔ x = -1 := by
  unfold w9
  rcases h with h | ⟨b, hb, h⟩
  · rw [if_pos h]
    exact ⟨fun _ => h, fun _ => by decide⟩
  · rw [h, if_neg (nI_nm1 hb)]
    exact ⟨fun q => absurd q (nI_pos hb), fun q => absurd q (nI_nm1 hb)⟩
theorem dyW.m {D : DT} (h : dyW D) (m : Nat) : w9 (D.2.1 m) < 0 ↔ D.2.1 m = -1 := w9_neg ((h.1 m).imp id (fun ⟨b, hb, e⟩ => ⟨b, by omega, e⟩))
theorem dyW.s {D : DT} (h : dyW D) (s : Nat) : w9 (D.2.2 s) < 0 ↔ D.2.2 s = -1 := w9_neg ((h.2 s).imp id (fun ⟨b, hb, e⟩ => ⟨b, by omega, e⟩))
theorem dy0_W : dyW dy0 := ⟨fun _ => Or.inl rfl, fun _ => Or.inl rfl⟩
theorem upd_s (f : Nat → Int32) (k : Nat) (v : Int32) : upd f k v k = v := by unfold upd; exact if_pos rfl
theorem upd_n {f : Nat → Int32} {k j : Nat} {v : Int32} (h : j ≠ k) : upd f k v j = f j := by unfold upd; exact if_neg h
theorem dyS_W {L : LT} {D : DT} {s m : Nat} (hs : s < 6) (hm : m < 4) (h : dyW D) : dyW (dyS L D s m) := by
  unfold dyS
  split
  · split
    · exact ⟨h.1, h.2⟩
    · refine ⟨fun m2 => ?_, fun s2 => ?_⟩
      · by_cases e : m2 = m
        · subst e; exact Or.inr ⟨s, hs, upd_s _ _ _⟩
        · show upd D.2.1 m (nI s) m2 = -1 ∨ ∃ h, h < 6 ∧ upd D.2.1 m (nI s) m2 = nI h
          rw [upd_n e]; exact h.1 m2
      · by_cases e : s2 = s
        · subst e; exact Or.inr ⟨m, hm, upd_s _ _ _⟩
        · show upd D.2.2 s (nI m) s2 = -1 ∨ ∃ h, h < 4 ∧ upd D.2.2 s (nI m) s2 = nI h
          rw [upd_n e]; exact h.2 s2
  · exact h
theorem dyN_W (L : LT) {so mo : Nat → Nat} : ∀ (k : Nat), (∀ j, j < k → so j < 6 ∧ mo j < 4) → dyW (dyN L so mo k)
  | 0, _ => dy0_W
  | k + 1, h => dyS_W (h k (by omega)).1 (h k (by omega)).2 (dyN_W L k (fun j hj => h j (by omega)))
theorem dyS_cg {L L2 : LT} {D : DT} {s m : Nat} (h1 : L.1 = L2.1) (h2 : L.2.1 m = L2.2.1 m) (h3 : L.2.2 m s = L2.2.2 m s) : dyS L D s m = dyS L2 D s m ∧ dyV L D s m = dyV L2 D s m := by
  unfold dyS dyV dyA
  rw [h1, h2, h3]
  exact ⟨rfl, rfl⟩
theorem dyN_cg {L L2 : LT} {so mo so2 mo2 : Nat → Nat} (h1 : L.1 = L2.1) : ∀ (k : Nat), (∀ j, j < k → so j = so2 j ∧ mo j = mo2 j ∧ L.2.1 (mo j) = L2.2.1 (mo j) ∧ L.2.2 (mo j) (so j) = L2.2.2 (mo j) (so j)) → dyN L so mo k = dyN L2 so2 mo2 k
  | 0, _ => rfl
  | k + 1, h => by
    obtain ⟨a, b, c, d⟩ := h k (by omega)
    show dyS L (dyN L so mo k) (so k) (mo k) = dyS L2 (dyN L2 so2 mo2 k) (so2 k) (mo2 k)
    rw [dyN_cg h1 k (fun j hj => h j (by omega)), (dyS_cg h1 c d).1, a, b]
/-- the class asks -/
theorem dc_ask {t : Nat} {σ : Mem} {D : DT} {s m : Nat} (hs : s < 6) (hm : m < 4) (h : dcR t σ D) : dcR t (askM t σ s m) (dyS (lC σ) D s m) ∧ askV t σ s m = dyV (lC σ) D s m := by
  have e1 := h.2 s hs
  obtain ⟨e2, e3⟩ := h.1 m hm
  have eA : ansD t σ s m = dyA (lC σ) D s m := by unfold ansD dyA lC; rw [e2]
  unfold askM askV dyS dyV
  rw [e1, e3, eA]
  refine ⟨?_, rfl⟩
  by_cases q : D.2.2 s = -1 ∧ D.2.1 m = -1
  · rw [if_pos q, if_pos q]
    by_cases q2 : dyA (lC σ) D s m = 3
    · rw [if_pos q2, if_pos q2]
      refine ⟨fun m2 hm2 => ⟨?_, ?_⟩, fun s2 hs2 => ?_⟩
      · by_cases e : m2 = m
        · subst e
          rw [up_s, e2]
          exact (upd_s _ _ _).symm
        · rw [up_n (by omega)]
          exact ((h.1 m2 hm2).1).trans (upd_n e).symm
      · rw [up_n (by omega)]; exact (h.1 m2 hm2).2
      · rw [up_n (by omega)]; exact h.2 s2 hs2
    · rw [if_neg q2, if_neg q2]
      unfold wedF
      refine ⟨fun m2 hm2 => ⟨?_, ?_⟩, fun s2 hs2 => ?_⟩
      · rw [up_n (by omega), up_n (by omega)]; exact (h.1 m2 hm2).1
      · by_cases e : m2 = m
        · subst e
          rw [up_s]
          exact (upd_s _ _ _).symm
        · rw [up_n (by omega), up_n (by omega)]
          exact ((h.1 m2 hm2).2).trans (upd_n e).symm
      · by_cases e : s2 = s
        · subst e
          rw [up_n (by omega), up_s]
          exact (upd_s _ _ _).symm
        · rw [up_n (by omega), up_n (by omega)]
          exact (h.2 s2 hs2).trans (upd_n e).symm
  · rw [if_neg q, if_neg q]; exact h
/-- the reference asks -/
theorem dr_ask {σ : Mem} {D : DT} {s m : Nat} (hs : s < 6) (hm : m < 4) (hW : dyW D) (h : drR σ D) : drR (askMm σ s m) (dyS (lR σ) D s m) ∧ askVm σ s m = dyV (lR σ) D s m := by
  have e1 := h.2 s hs
  obtain ⟨e2, e3⟩ := h.1 m hm
  have eA : ansM σ m s = dyA (lR σ) D s m := by unfold ansM dyA lR; rw [e2]
  have eq : (σ 53 m < 0 ∧ σ 54 s < 0) ↔ (D.2.2 s = -1 ∧ D.2.1 m = -1) := by
    rw [e1, e3, hW.m, hW.s]
    exact And.comm
  unfold askMm askVm dyS dyV
  rw [eA]
  by_cases q : D.2.2 s = -1 ∧ D.2.1 m = -1
  · rw [if_pos (eq.mpr q), if_pos (eq.mpr q), if_pos q, if_pos q]
    refine ⟨?_, rfl⟩
    by_cases q2 : dyA (lR σ) D s m = 3
    · rw [if_pos q2, if_pos q2]
      refine ⟨fun m2 hm2 => ⟨?_, ?_⟩, fun s2 hs2 => ?_⟩
      · by_cases e : m2 = m
        · subst e
          rw [up_s, e2]
          exact (upd_s _ _ _).symm
        · rw [up_n (by omega)]
          exact ((h.1 m2 hm2).1).trans (upd_n e).symm
      · rw [up_n (by omega)]; exact (h.1 m2 hm2).2
      · rw [up_n (by omega)]; exact h.2 s2 hs2
    · rw [if_neg q2, if_neg q2]
      refine ⟨fun m2 hm2 => ⟨?_, ?_⟩, fun s2 hs2 => ?_⟩
      · rw [up_n (by omega), up_n (by omega)]; exact (h.1 m2 hm2).1
      · by_cases e : m2 = m
        · subst e
          rw [up_n (by omega), up_s]
          show _ = w9 (upd D.2.1 m2 (nI s) m2)
          rw [upd_s]
          exact (if_neg (nI_nm1 (by omega))).symm
        · rw [up_n (by omega), up_n (by omega)]
          show _ = w9 (upd D.2.1 m (nI s) m2)
          rw [upd_n e]; exact (h.1 m2 hm2).2
      · by_cases e : s2 = s
        · subst e
          rw [up_s]
          show _ = w9 (upd D.2.2 s2 (nI m) s2)
          rw [upd_s]
          exact (if_neg (nI_nm1 (by omega))).symm
        · rw [up_n (by omega), up_n (by omega)]
          show _ = w9 (upd D.2.2 s (nI m) s2)
          rw [upd_n e]; exact h.2 s2 hs2
  · rw [if_neg (fun z => q (eq.mp z)), if_neg (fun z => q (eq.mp z)), if_neg q, if_neg q]
    exact ⟨h, rfl⟩
theorem dc_beg {t : Nat} {σ : Mem} : dcR t (begF t σ) dy0 := ⟨fun m hm => ⟨begF_r hm, begF_w hm⟩, fun s hs => begF_h hs⟩
theorem dr_beg {σ : Mem} : drR (begM σ) dy0 := by
  refine ⟨fun m hm => ⟨?_, ?_⟩, fun s hs => ?_⟩
  · unfold begM
    rw [fillR_row (by decide), fillR_row (by decide), fillR_at, if_pos hm]; rfl
  · unfold begM
    rw [fillR_row (by decide), fillR_at, if_pos hm]; rfl
  · unfold begM
    rw [fillR_at, if_pos hs]; rfl
theorem lC_go (σ : Mem) (so mo : Nat → Nat) (k : Nat) {s m : Nat} (hm : m < 4) : (lC (goF σ so mo k)).1 = (lC σ).1 ∧ (lC (goF σ so mo k)).2.1 m = (lC σ).2.1 m ∧ (lC (goF σ so mo k)).2.2 m s = (lC σ).2.2 m s := by
  refine ⟨?_, ?_, ?_⟩
  · exact congrFun (goF_row σ so mo (a := 1) (by decide) (by decide) (by decide) (by decide) k) 2
  · exact congrFun (goF_row σ so mo (a := 2) (by decide) (by decide) (by decide) (by decide) k) m
  · exact congrFun (goF_row σ so mo (a := 4 + m) (by omega) (by omega) (by omega) (by omega) k) s
theorem dc_go {σ : Mem} {so mo : Nat → Nat} : ∀ (k : Nat), (∀ j, j < k → so j < 6 ∧ mo j < 4) → dcR 17 (goF σ so mo k) (dyN (lC σ) so mo k) ∧ ∀ j, j < k → goF σ so mo k 16 j = dyV (lC σ) (dyN (lC σ) so mo j) (so j) (mo j)
  | 0, _ => ⟨dc_beg, fun j hj => absurd hj (by omega)⟩
  | k + 1, h => by
    obtain ⟨h1, h2⟩ := dc_go (σ := σ) k (fun j hj => h j (by omega))
    obtain ⟨hs, hm⟩ := h k (by omega)
    obtain ⟨g1, g2⟩ := dc_ask hs hm h1
    obtain ⟨a, b, c⟩ := lC_go σ so mo k (s := so k) hm
    obtain ⟨c1, c2⟩ := dyS_cg (D := dyN (lC σ) so mo k) a b c
    rw [c1] at g1
    rw [c2] at g2
    refine ⟨⟨fun m hm2 => ?_, fun s hs2 => ?_⟩, fun j hj => ?_⟩
    · obtain ⟨z1, z2⟩ := g1.1 m hm2
      exact ⟨(congrFun (up_row (by decide)) m).trans z1, (congrFun (up_row (by decide)) m).trans z2⟩
    · exact (congrFun (up_row (by decide)) s).trans (g1.2 s hs2)
    · show up (askM 17 (goF σ so mo k) (so k) (mo k)) 16 k (askV 17 (goF σ so mo k) (so k) (mo k)) 16 j = _
      by_cases e : j = k
      · subst e
        rw [up_s]; exact g2
      · rw [up_n (by omega), askM_row (by decide) (by decide) (by decide)]
        exact h2 j (by omega)
theorem lR_go (σ : Mem) (so mo : Nat → Nat) (k : Nat) : lR (goFm σ so mo k) = lR σ := by
  unfold lR
  rw [goFm_row σ so mo (a := 42) (by decide) (by decide) (by decide) (by decide) k, goFm_row σ so mo (a := 43) (by decide) (by decide) (by decide) (by decide) k, goFm_row σ so mo (a := 44) (by decide) (by decide) (by decide) (by decide) k]
theorem lR_beg (σ : Mem) : lR (begM σ) = lR σ := by
  unfold lR
  rw [begM_row (a := 42) (by decide) (by decide) (by decide), begM_row (a := 43) (by decide) (by decide) (by decide), begM_row (a := 44) (by decide) (by decide) (by decide)]
theorem dr_go {σ : Mem} {so mo : Nat → Nat} : ∀ (k : Nat), (∀ j, j < k → so j < 6 ∧ mo j < 4) → drR (goFm σ so mo k) (dyN (lR σ) so mo k) ∧ ∀ j, j < k → goFm σ so mo k 51 j = dyV (lR σ) (dyN (lR σ) so mo j) (so j) (mo j)
  | 0, _ => ⟨dr_beg, fun j hj => absurd hj (by omega)⟩
  | k + 1, h => by
    obtain ⟨h1, h2⟩ := dr_go (σ := σ) k (fun j hj => h j (by omega))
    obtain ⟨hs, hm⟩ := h k (by omega)
    obtain ⟨g1, g2⟩ := dr_ask hs hm (dyN_W (lR σ) k (fun j hj => h j (by omega))) h1
    rw [lR_go] at g1 g2
    refine ⟨⟨fun m hm2 => ?_, fun s hs2 => ?_⟩, fun j hj => ?_⟩
    · obtain ⟨z1, z2⟩ := g1.1 m hm2
      exact ⟨(congrFun (up_row (by decide)) m).trans z1, (congrFun (up_row (by decide)) m).trans z2⟩
    · exact (congrFun (up_row (by decide)) s).trans (g1.2 s hs2)
    · show up (askMm (goFm σ so mo k) (so k) (mo k)) 51 k (askVm (goFm σ so mo k) (so k) (mo k)) 51 j = _
      by_cases e : j = k
      · subst e
        rw [up_s]; exact g2
      · rw [up_n (by omega), askMm_row (by decide) (by decide) (by decide)]
        exact h2 j (by omega)
theorem lC_addO (σ : Mem) (C s m : Nat) {s2 m2 : Nat} (hm : m2 < 4) : (lC (addO σ C s m)).1 = (lC σ).1 ∧ (lC (addO σ C s m)).2.1 m2 = (lC σ).2.1 m2 ∧ (lC (addO σ C s m)).2.2 m2 s2 = (lC σ).2.2 m2 s2 := by
  refine ⟨?_, ?_, ?_⟩
  · show up (up σ 14 C (nI s)) 15 C (nI m) 1 2 = σ 1 2
    rw [up_n (by omega), up_n (by omega)]
  · show up (up σ 14 C (nI s)) 15 C (nI m) 2 m2 = σ 2 m2
    rw [up_n (by omega), up_n (by omega)]
  · show up (up σ 14 C (nI s)) 15 C (nI m) (4 + m2) s2 = σ (4 + m2) s2
    rw [up_n (by omega), up_n (by omega)]
theorem dc_add {σ : Mem} {D : DT} {C s m : Nat} (hs : s < 6) (hm : m < 4) (h : dcR 17 σ D) : dcR 17 (addF σ C s m) (dyS (lC σ) D s m) ∧ addF σ C s m 16 C = dyV (lC σ) D s m ∧ ∀ j, j ≠ C → addF σ C s m 16 j = σ 16 j := by
  have h0 : dcR 17 (addO σ C s m) D := by
    unfold addO
    refine ⟨fun m2 hm2 => ⟨?_, ?_⟩, fun s2 hs2 => ?_⟩
    · rw [up_n (by omega), up_n (by omega)]; exact (h.1 m2 hm2).1
    · rw [up_n (by omega), up_n (by omega)]; exact (h.1 m2 hm2).2
    · rw [up_n (by omega), up_n (by omega)]; exact h.2 s2 hs2
  obtain ⟨g1, g2⟩ := dc_ask hs hm h0
  obtain ⟨a, b, c⟩ := lC_addO σ C s m (s2 := s) hm
  obtain ⟨c1, c2⟩ := dyS_cg (D := D) a b c
  rw [c1] at g1
  rw [c2] at g2
  unfold addF
  refine ⟨⟨fun m2 hm2 => ?_, fun s2 hs2 => ?_⟩, ?_, fun j hj => ?_⟩
  · obtain ⟨z1, z2⟩ := g1.1 m2 hm2
    exact ⟨by rw [up_n (by omega), up_n (by omega)]; exact z1, by rw [up_n (by omega), up_n (by omega)]; exact z2⟩
  · rw [up_n (by omega), up_n (by omega)]; exact g1.2 s2 hs2
  · rw [up_n (by omega), up_s]; exact g2
  · rw [up_n (by omega), up_n (by omega), askM_row (by decide) (by decide) (by decide)]
    unfold addO
    rw [up_n (by omega), up_n (by omega)]
theorem addF_row {σ : Mem} {C s m a : Nat} (h1 : a ≠ 13) (h2 : ¬ (14 ≤ a ∧ a ≤ 20)) : addF σ C s m a = σ a := by
  unfold addF addO
  rw [up_row (by omega), up_row (by omega), askM_row (by omega) (by omega) (by omega), up_row (by omega), up_row (by omega)]

/-! ===== the mathematics (5): rows of offers that bring a firm match ===== -/
def fm_b (K : LK) (L : LT) (S M R : Nat) : Prop := fm_F K (dyN L (fun k => k) (fun k => digN R M k) S) S M
def lcE (L L2 : LT) (S M : Nat) : Prop := L.1 = L2.1 ∧ ∀ m, m < M → L.2.1 m = L2.2.1 m ∧ ∀ s, s < S → L.2.2 m s = L2.2.2 m s
theorem lcE.symm {L L2 : LT} {S M : Nat} (h : lcE L L2 S M) : lcE L2 L S M := ⟨h.1.symm, fun m hm => ⟨(h.2 m hm).1.symm, fun s hs => ((h.2 m hm).2 s hs).symm⟩⟩
/-- days: who is wed stays so, who hasn't asked is free -/
theorem dyS_R {L : LT} {D : DT} {S M s m : Nat} (h : fm_R D S M) (hs : s < S) (hm : m < M) : fm_R (dyS L D s m) S M := by
  unfold dyS
  split
  · split
    · exact ⟨h.1, h.2⟩
    · refine ⟨fun x hx => ?_, fun x hx => ?_⟩
      · show upd D.2.1 m (nI s) x = -1 ∨ ∃ t, t < S ∧ upd D.2.1 m (nI s) x = nI t
        by_cases e : x = m
        · subst e; exact Or.inr ⟨s, hs, upd_s _ _ _⟩
        · rw [upd_n e]; exact h.1 x hx
      · show upd D.2.2 s (nI m) x = -1 ∨ ∃ t, t < M ∧ upd D.2.2 s (nI m) x = nI t
        by_cases e : x = s
        · subst e; exact Or.inr ⟨m, hm, upd_s _ _ _⟩
        · rw [upd_n e]; exact h.2 x hx
  · exact h
theorem dy0_R {S M : Nat} : fm_R dy0 S M := ⟨fun _ _ => Or.inl rfl, fun _ _ => Or.inl rfl⟩
theorem dyN_R {L : LT} {S M : Nat} {so mo : Nat → Nat} : ∀ k, (∀ j, j < k → so j < S ∧ mo j < M) → fm_R (dyN L so mo k) S M
  | 0, _ => dy0_R
  | k + 1, h => dyS_R (dyN_R k (fun j hj => h j (by omega))) (h k (by omega)).1 (h k (by omega)).2
theorem dyS_stay {L : LT} {D : DT} {s m : Nat} : (∀ x, ¬ D.2.1 x = -1 → (dyS L D s m).2.1 x = D.2.1 x) ∧ ∀ x, x ≠ s → (dyS L D s m).2.2 x = D.2.2 x := by
  unfold dyS
  by_cases c : D.2.2 s = -1 ∧ D.2.1 m = -1
  · rw [if_pos c]
    by_cases c2 : dyA L D s m = 3
    · rw [if_pos c2]; exact ⟨fun _ _ => rfl, fun _ _ => rfl⟩
    · rw [if_neg c2]
      refine ⟨fun x h => ?_, fun x h => upd_n h⟩
      exact upd_n (fun e => h (by rw [e]; exact c.2))
  · rw [if_neg c]; exact ⟨fun _ _ => rfl, fun _ _ => rfl⟩
theorem dyN_stay {L : LT} {mo : Nat → Nat} {s : Nat} : ∀ n, (∀ x, ¬ (dyN L (fun k => k) mo s).2.1 x = -1 → (dyN L (fun k => k) mo (s + n)).2.1 x = (dyN L (fun k => k) mo s).2.1 x) ∧ ∀ x, x < s → (dyN L (fun k => k) mo (s + n)).2.2 x = (dyN L (fun k => k) mo s).2.2 x
  | 0 => ⟨fun _ _ => rfl, fun _ _ => rfl⟩
  | n + 1 => by
    obtain ⟨h1, h2⟩ := dyN_stay (L := L) (mo := mo) (s := s) n
    obtain ⟨g1, g2⟩ := dyS_stay (L := L) (D := dyN L (fun k => k) mo (s + n)) (s := s + n) (m := mo (s + n))
    refine ⟨fun x hx => ?_, fun x hx => ?_⟩
    · show (dyS L (dyN L (fun k => k) mo (s + n)) (s + n) (mo (s + n))).2.1 x = _
      rw [g1 x (by rw [h1 x hx]; exact hx)]; exact h1 x hx
    · show (dyS L (dyN L (fun k => k) mo (s + n)) (s + n) (mo (s + n))).2.2 x = _
      rw [g2 x (by omega)]; exact h2 x hx
theorem dyN_free {L : LT} {mo : Nat → Nat} : ∀ s x, s ≤ x → (dyN L (fun k => k) mo s).2.2 x = -1
  | 0, _, _ => rfl
  | s + 1, x, h => by
    show (dyS L (dyN L (fun k => k) mo s) s (mo s)).2.2 x = -1
    rw [(dyS_stay).2 x (by omega)]
    exact dyN_free s x (by omega)
/-- an asking undone -/
theorem ask_back {σ : Mem} {s m : Nat} (hb : σ 30 s = -1) : unaskM 27 (askM 27 σ s m) s m (askV 27 σ s m) = σ := by
  by_cases c : σ 30 s = -1 ∧ σ 29 m = -1
  · have ev : askV 27 σ s m = ansD 27 σ s m := if_pos c
    have em : askM 27 σ s m = if ansD 27 σ s m = 3 then up σ (27 + 1) m (σ (27 + 1) m + 1) else wedF 27 σ s m := if_pos c
    rw [ev, em]
    by_cases q : ansD 27 σ s m = 3
    · rw [if_pos q]
      unfold unaskM
      rw [if_pos q]
      show up (up σ 28 m (σ 28 m + 1)) 28 m (up σ 28 m (σ 28 m + 1) 28 m - 1) = σ
      rw [up_s, up_up, Int32.add_sub_cancel]
      exact up_self σ 28 m
    · rw [if_neg q]
      have n0 : ¬ ansD 27 σ s m = 0 := by
        unfold ansD ansF
        split
        · decide
        · split <;> decide
      unfold unaskM
      rw [if_neg q, if_neg n0]
      show up (up (wedF 27 σ s m) 30 s (-1)) 29 m (-1) = σ
      have e := fm_D_wed (τ := σ) (s := s) (m := m)
      have e29 : wedF 27 σ s m 29 = upd (σ 29) m (nI s) := congrArg (fun D : DT => D.2.1) e
      have e30 : wedF 27 σ s m 30 = upd (σ 30) s (nI m) := congrArg (fun D : DT => D.2.2) e
      funext a
      by_cases a29 : a = 29
      · subst a29
        unfold up
        rw [upR_s, upR_n (by decide), e29]
        exact upd_back c.2
      · by_cases a30 : a = 30
        · subst a30
          unfold up
          rw [upR_n (by decide), upR_s, e30]
          exact upd_back c.1
        · rw [up_row a29, up_row a30, wedF_row (by omega) (by omega)]
  · have ev : askV 27 σ s m = 0 := if_neg c
    have em : askM 27 σ s m = σ := if_neg c
    rw [ev, em]
    unfold unaskM
    rw [if_neg (by decide), if_pos rfl]
/-- how many of the numbers below a product: by their last figure -/
def fm_sum (f : Nat → Nat) : Nat → Nat
  | 0 => 0
  | k + 1 => fm_sum f k + f k
theorem fm_sum_add {f g : Nat → Nat} : ∀ M, fm_sum (fun d => f d + g d) M = fm_sum f M + fm_sum g M
  | 0 => rfl
  | M + 1 => by
    show fm_sum (fun d => f d + g d) M + (f M + g M) = fm_sum f M + f M + (fm_sum g M + g M)
    rw [fm_sum_add M]; omega
theorem fm_sum_0 : ∀ M, fm_sum (fun _ => 0) M = 0
  | 0 => rfl
  | M + 1 => by show fm_sum (fun _ => 0) M + 0 = 0; rw [fm_sum_0 M]
theorem cntG_app {P : Nat → Prop} {a : Nat} : ∀ n, cntG P (a + n) = cntG P a + fm_sum (fun d => cnd (P (a + d)) 1 0) n
  | 0 => rfl
  | n + 1 => by
    show cntG P (a + n) + cnd (P (a + n)) 1 0 = _
    rw [cntG_app n]
    exact Nat.add_assoc _ _ _
theorem cntG_cg {P Q : Nat → Prop} : ∀ n, (∀ x, x < n → (P x ↔ Q x)) → cntG P n = cntG Q n
  | 0, _ => rfl
  | n + 1, h => by
    show cntG P n + cnd (P n) 1 0 = cntG Q n + cnd (Q n) 1 0
    rw [cntG_cg n (fun x hx => h x (by omega)), cnd_cg (h n (by omega)) (fun _ => rfl) (fun _ => rfl)]
theorem cntG_prod {P : Nat → Prop} {M : Nat} : ∀ N, cntG P (M * N) = fm_sum (fun d => cntG (fun q => P (d + M * q)) N) M
  | 0 => by
    rw [Nat.mul_zero]
    exact (fm_sum_0 M).symm
  | N + 1 => by
    rw [Nat.mul_succ, cntG_app, cntG_prod N, ← fm_sum_add]
    congr 1
    funext d
    show cntG (fun q => P (d + M * q)) N + cnd (P (M * N + d)) 1 0 = cntG (fun q => P (d + M * q)) N + cnd (P (d + M * N)) 1 0
    rw [Nat.add_comm (M * N) d]
theorem digN_lo {M P Q s k : Nat} (hM : 0 < M) (hk : k < s) : digN (P + M ^ s * Q) M k = digN P M k := by
  unfold digN
  obtain ⟨j, rfl⟩ : ∃ j, s = k + (j + 1) := ⟨s - k - 1, by omega⟩
  rw [Nat.pow_add, Nat.mul_assoc, Nat.add_mul_div_left _ _ (Nat.pow_pos hM), Nat.pow_succ, Nat.mul_comm (M ^ j) M, Nat.mul_assoc, Nat.add_mul_mod_self_left]
theorem digN_at {M P d s : Nat} (hM : 0 < M) (hP : P < M ^ s) (hd : d < M) : digN (P + M ^ s * d) M s = d := by
  unfold digN
  rw [Nat.add_mul_div_left _ _ (Nat.pow_pos hM), Nat.div_eq_of_lt hP, Nat.zero_add, Nat.mod_eq_of_lt hd]
section BR
variable {S M : Nat} {K : LK} {L : LT}
noncomputable def fm_n (K : LK) (L : LT) (S M P s r : Nat) : Nat := cntG (fun Q => fm_b K L S M (P + M ^ s * Q)) (M ^ r)
theorem fm_n_succ {P s r : Nat} : fm_n K L S M P s (r + 1) = fm_sum (fun d => fm_n K L S M (P + M ^ s * d) (s + 1) r) M := by
  unfold fm_n
  rw [Nat.pow_succ, Nat.mul_comm (M ^ r) M, cntG_prod]
  congr 1
  funext d
  refine cntG_cg _ (fun q _ => ?_)
  rw [Nat.mul_add, Nat.pow_succ, Nat.add_assoc, Nat.mul_assoc]
theorem foldB_sum {f : Int32 × Mem → Nat → Int32 × Mem} {g : Nat → Nat} {σ : Mem} {M : Nat} (h : ∀ c d, d < M → f (c, σ) d = (c + nI (g d), σ)) : ∀ j, j ≤ M → foldB f j (0, σ) = (nI (fm_sum g j), σ)
  | 0, _ => rfl
  | j + 1, hj => by
    show f (foldB f j (0, σ)) j = _
    rw [foldB_sum h j (by omega), h _ j (by omega), nI_add]
    rfl
theorem fm_bf (hS : S ≤ 6) (hM : M ≤ 4) (hM0 : 0 < M) : ∀ (r s P : Nat), s + r = S → P < M ^ s → ∀ σ, fm_E (kC σ) K S M → lcE (lC σ) L S M → dcR 27 σ (dyN L (fun k => k) (fun k => digN P M k) s) → bfP S M r σ = (nI (fm_n K L S M P s r), σ)
  | 0, s, P, hr, hP, σ, hE, hL, hD => by
    have hs : s = S := by omega
    subst hs
    have hR : fm_R (dyN L (fun k => k) (fun k => digN P M k) s) s M := dyN_R s (fun j hj => ⟨hj, Nat.mod_lt _ hM0⟩)
    have hb := brk_iff (K := K) hS hM (Nat.le_refl s) (fun m hm => (hD.1 m (by omega)).2) (fun x hx => hD.2 x (by omega)) hR hE
    have e0 : bfP s M 0 σ = @ite _ (brkP 27 σ s M s) (Classical.propDecidable _) (0, σ) (1, σ) := rfl
    have e1 : fm_n K L s M P s 0 = cnd (fm_b K L s M P) 1 0 := by
      unfold fm_n
      rw [Nat.pow_zero]
      show 0 + cnd (fm_b K L s M (P + M ^ s * 0)) 1 0 = _
      rw [Nat.mul_zero, Nat.add_zero, Nat.zero_add]
    rw [e0, e1]
    by_cases c : brkP 27 σ s M s
    · rw [if_pos c, cnd_f (show ¬ fm_b K L s M P from fm_B_F.mp (hb.mp c))]; rfl
    · rw [if_neg c, cnd_t (show fm_b K L s M P from Classical.byContradiction (fun z => c (hb.mpr (fm_B_F.mpr z))))]; rfl
  | r + 1, s, P, hr, hP, σ, hE, hL, hD => by
    have es : S - (r + 1) = s := by omega
    have e0 : bfP S M (r + 1) σ = @ite _ (brkP 27 σ S M (S - (r + 1))) (Classical.propDecidable _) (0, σ) (foldB (bfS (bfP S M r) (S - (r + 1))) M (0, σ)) := rfl
    rw [e0, es]
    have hR : fm_R (dyN L (fun k => k) (fun k => digN P M k) s) S M := dyN_R s (fun j hj => ⟨by omega, Nat.mod_lt _ hM0⟩)
    by_cases c : brkP 27 σ S M s
    · rw [if_pos c]
      have hB := (brk_iff (K := K) hS hM (k := s) (by omega) (fun m hm => (hD.1 m (by omega)).2) (fun x hx => hD.2 x (by omega)) hR hE).mp c
      have e1 : fm_n K L S M P s (r + 1) = 0 := by
        unfold fm_n
        refine cntG_0 _ (fun Q _ => ?_)
        have e2 : dyN L (fun k => k) (fun k => digN (P + M ^ s * Q) M k) s = dyN L (fun k => k) (fun k => digN P M k) s := dyN_cg rfl s (fun j hj => ⟨rfl, digN_lo hM0 hj, rfl, rfl⟩)
        obtain ⟨g1, g2⟩ := dyN_stay (L := L) (mo := fun k => digN (P + M ^ s * Q) M k) (s := s) (r + 1)
        rw [e2, hr] at g1 g2
        exact fm_B_X hS hM hR (by omega) (fun m _ q => g1 m q) (fun y hy => g2 y hy) hB
      rw [e1]; rfl
    · rw [if_neg c, fm_n_succ]
      refine foldB_sum (fun n d hd => ?_) M (Nat.le_refl _)
      have hb : σ 30 s = -1 := (hD.2 s (by omega)).trans (dyN_free s s (Nat.le_refl _))
      obtain ⟨a1, -⟩ := dc_ask (σ := σ) (s := s) (m := d) (by omega) (by omega) hD
      rw [(dyS_cg (L := lC σ) (L2 := L) hL.1 (hL.2 d hd).1 ((hL.2 d hd).2 s (by omega))).1] at a1
      have e2 : dyN L (fun k => k) (fun k => digN (P + M ^ s * d) M k) s = dyN L (fun k => k) (fun k => digN P M k) s := dyN_cg rfl s (fun j hj => ⟨rfl, digN_lo hM0 hj, rfl, rfl⟩)
      have a2 : dcR 27 (askM 27 σ s d) (dyN L (fun k => k) (fun k => digN (P + M ^ s * d) M k) (s + 1)) := by
        show dcR 27 (askM 27 σ s d) (dyS L (dyN L (fun k => k) (fun k => digN (P + M ^ s * d) M k) s) s (digN (P + M ^ s * d) M s))
        rw [e2, digN_at hM0 hP hd]
        exact a1
      have hP2 : P + M ^ s * d < M ^ (s + 1) := by
        have : M ^ s * (d + 1) ≤ M ^ s * M := Nat.mul_le_mul_left _ hd
        rw [Nat.mul_succ] at this
        rw [Nat.pow_succ]; omega
      have row : ∀ a, a < 13 → askM 27 σ s d a = σ a := fun a ha => askM_row (by omega) (by omega) (by omega)
      have ih := fm_bf hS hM hM0 r (s + 1) (P + M ^ s * d) (by omega) hP2 (askM 27 σ s d) (fm_E_row hM hE (fun a _ h2 => row a h2)) ⟨(congrFun (row 1 (by decide)) 2).trans hL.1, fun m hm => ⟨(congrFun (row 2 (by decide)) m).trans (hL.2 m hm).1, fun x hx => (congrFun (row (4 + m) (by omega)) x).trans ((hL.2 m hm).2 x hx)⟩⟩ a2
      unfold bfS
      show (n + (bfP S M r (askM 27 σ s d)).1, unaskM 27 (bfP S M r (askM 27 σ s d)).2 s d (askV 27 σ s d)) = _
      rw [ih]
      show (n + nI _, unaskM 27 (askM 27 σ s d) s d (askV 27 σ s d)) = _
      rw [ask_back hb]
end BR
theorem fm_brg {σ : Mem} {S M : Nat} {K : LK} {L : LT} (hS : S ≤ 6) (hM : M ≤ 4) (hM0 : 0 < M) (hE : fm_E (kC σ) K S M) (hL : lcE (lC σ) L S M) : brgP σ S M = (nI (cntG (fm_b K L S M) (M ^ S)), begF 27 σ) := by
  have row : ∀ a, a < 13 → begF 27 σ a = σ a := fun a ha => begF_row (by omega) (by omega) (by omega)
  have h := fm_bf (K := K) (L := L) hS hM hM0 S 0 0 (by omega) (by rw [Nat.pow_zero]; decide) (begF 27 σ) (fm_E_row hM hE (fun a _ h2 => row a h2)) ⟨(congrFun (row 1 (by decide)) 2).trans hL.1, fun m hm => ⟨(congrFun (row 2 (by decide)) m).trans (hL.2 m hm).1, fun x hx => (congrFun (row (4 + m) (by omega)) x).trans ((hL.2 m hm).2 x hx)⟩⟩ dc_beg
  unfold brgP
  rw [h]
  congr 2
  unfold fm_n
  refine cntG_cg _ (fun q _ => ?_)
  rw [Nat.pow_zero, Nat.one_mul, Nat.zero_add]
theorem brF_dr {σ : Mem} {R S M : Nat} (hS : S ≤ 6) (hM : M ≤ 4) (hM0 : 0 < M) : ∀ k, k ≤ S → drR (brF (begM σ) R M k) (dyN (lR σ) (fun k => k) (fun k => digN R M k) k) ∧ ∀ a, a ≠ 52 → a ≠ 53 → a ≠ 54 → brF (begM σ) R M k a = σ a
  | 0, _ => ⟨dr_beg, fun a h1 h2 h3 => begM_row h1 h2 h3⟩
  | k + 1, hk => by
    obtain ⟨h1, h2⟩ := brF_dr (σ := σ) (R := R) hS hM hM0 k (by omega)
    have hd : digN R M k < M := Nat.mod_lt _ hM0
    obtain ⟨g1, -⟩ := dr_ask (s := k) (m := digN R M k) (by omega) (by omega) (dyN_W (lR σ) (mo := fun k => digN R M k) k (fun j hj => ⟨by omega, by have : digN R M j < M := Nat.mod_lt _ hM0; omega⟩)) h1
    have e : lR (brF (begM σ) R M k) = lR σ := by
      unfold lR
      rw [h2 42 (by decide) (by decide) (by decide), h2 43 (by decide) (by decide) (by decide), h2 44 (by decide) (by decide) (by decide)]
    rw [e] at g1
    exact ⟨g1, fun a q1 q2 q3 => (askMm_row q1 q2 q3).trans (h2 a q1 q2 q3)⟩
theorem brG_iff {σ : Mem} {S M R : Nat} (hS : S ≤ 6) (hM : M ≤ 4) (hM0 : 0 < M) : brG σ S M R ↔ fm_b (kR σ) (lR σ) S M R := by
  obtain ⟨h1, h2⟩ := brF_dr (σ := σ) (R := R) hS hM hM0 S (Nat.le_refl _)
  have := frm_iff hS hM (fun m hm => (h1.1 m (by omega)).2) (fun s hs => h1.2 s (by omega)) (dyN_R (S := S) (M := M) S (fun j hj => ⟨hj, Nat.mod_lt _ hM0⟩))
  have e : kR (brF (begM σ) R M S) = kR σ := by
    unfold kR
    rw [h2 44 (by decide) (by decide) (by decide), h2 45 (by decide) (by decide) (by decide)]
  rw [e] at this
  exact this

/-! ===== the mathematics (4): there is a firm match ===== -/
section GS
variable {S M Z : Nat} {a b : Nat → Nat → Nat}
def gs_o (b : Nat → Nat → Nat) (bb : Nat → Option Nat) (s : Nat) : Nat := match bb s with | none => 0 | some m => b m s + 1
def gs_p (a : Nat → Nat → Nat) (hb : Nat → Option Nat) (m : Nat) : Nat := match hb m with | none => 0 | some s => a m s + 1
def gs_W (a b : Nat → Nat → Nat) (hb bb : Nat → Option Nat) (m s : Nat) : Prop := gs_o b bb s < b m s + 1 ∧ gs_p a hb m < a m s + 1
def gs_C (S M : Nat) (hb bb : Nat → Option Nat) : Prop := (∀ m, m < M → ∀ s, hb m = some s → s < S ∧ bb s = some m) ∧ ∀ s, s < S → ∀ m, bb s = some m → m < M ∧ hb m = some s
def gs_sum (f : Nat → Nat) : Nat → Nat
  | 0 => 0
  | k + 1 => gs_sum f k + f k
theorem gs_sum_le {f : Nat → Nat} {Z : Nat} : ∀ M, (∀ m, m < M → f m ≤ Z) → gs_sum f M ≤ M * Z
  | 0, _ => Nat.zero_le _
  | M + 1, h => by
    have := gs_sum_le M (fun m hm => h m (by omega))
    have h2 := h M (by omega)
    unfold gs_sum
    rw [Nat.succ_mul]; omega
theorem gs_sum_mono {f g : Nat → Nat} : ∀ M, (∀ m, m < M → f m ≤ g m) → gs_sum f M ≤ gs_sum g M
  | 0, _ => Nat.le_refl _
  | M + 1, h => by
    have := gs_sum_mono M (fun m hm => h m (by omega))
    have h2 := h M (by omega)
    unfold gs_sum
    omega
theorem gs_sum_lt {f g : Nat → Nat} : ∀ M m0, m0 < M → (∀ m, m < M → f m ≤ g m) → f m0 < g m0 → gs_sum f M < gs_sum g M
  | 0, _, h0, _, _ => absurd h0 (by omega)
  | M + 1, m0, h0, h, h1 => by
    unfold gs_sum
    by_cases e : m0 = M
    · subst e
      have := gs_sum_mono m0 (fun m hm => h m (by omega))
      omega
    · have := gs_sum_lt M m0 (by omega) (fun m hm => h m (by omega)) h1
      have h2 := h M (by omega)
      omega
/-- of those with P one that is greatest by f -/
theorem gs_max {P : Nat → Prop} {f : Nat → Nat} : ∀ M, (∃ m, m < M ∧ P m) → ∃ m, m < M ∧ P m ∧ ∀ x, x < M → P x → f x ≤ f m
  | 0, h => by obtain ⟨m, hm, _⟩ := h; omega
  | M + 1, h => by
    by_cases q : ∃ m, m < M ∧ P m
    · obtain ⟨m, hm, pm, hx⟩ := gs_max (f := f) M q
      by_cases c : P M ∧ f m < f M
      · refine ⟨M, by omega, c.1, fun x hx2 px => ?_⟩
        by_cases e : x = M
        · subst e; exact Nat.le_refl _
        · have := hx x (by omega) px; omega
      · refine ⟨m, by omega, pm, fun x hx2 px => ?_⟩
        by_cases e : x = M
        · subst e
          exact Nat.le_of_not_lt (fun z => c ⟨px, z⟩)
        · exact hx x (by omega) px
    · obtain ⟨m, hm, pm⟩ := h
      have e : m = M := Classical.byContradiction (fun z => q ⟨m, by omega, pm⟩)
      subst e
      refine ⟨m, by omega, pm, fun x hx2 px => ?_⟩
      have e : x = m := Classical.byContradiction (fun z => q ⟨x, by omega, px⟩)
      rw [e]; exact Nat.le_refl _
theorem gs_step {hb bb : Nat → Option Nat} (hC : gs_C S M hb bb) (hs : ∀ m, m < M → ∀ s, s < S → gs_W a b hb bb m s → bb s = none) {m s0 : Nat} (hm : m < M) (hs0 : s0 < S) (hW : gs_W a b hb bb m s0) (hx : ∀ x, x < M → gs_W a b hb bb x s0 → b x s0 ≤ b m s0) :
    gs_C S M (fun x => if x = m then some s0 else hb x) (fun s => if s = s0 then some m else if hb m = some s then none else bb s) ∧
    (∀ x, x < M → ∀ s, s < S → gs_W a b (fun x => if x = m then some s0 else hb x) (fun s => if s = s0 then some m else if hb m = some s then none else bb s) x s → (if s = s0 then some m else if hb m = some s then none else bb s) = none) ∧
    gs_sum (gs_p a hb) M < gs_sum (gs_p a (fun x => if x = m then some s0 else hb x)) M := by
  have hn : bb s0 = none := hs m hm s0 hs0 hW
  have pm : gs_p a (fun x => if x = m then some s0 else hb x) m = a m s0 + 1 := by unfold gs_p; simp
  have pn : ∀ x, x ≠ m → gs_p a (fun x => if x = m then some s0 else hb x) x = gs_p a hb x := fun x h => by unfold gs_p; simp [h]
  have ple : ∀ x, gs_p a hb x ≤ gs_p a (fun x => if x = m then some s0 else hb x) x := fun x => by
    by_cases e : x = m
    · subst e; rw [pm]; have := hW.2; omega
    · rw [pn x e]; exact Nat.le_refl _
  refine ⟨⟨fun x hxm s h => ?_, fun s hsS x h => ?_⟩, fun x hxm s hsS w => ?_, gs_sum_lt M m hm (fun x _ => ple x) (by rw [pm]; exact hW.2)⟩
  · by_cases e : x = m
    · subst e
      simp only [if_true] at h
      cases h
      exact ⟨hs0, by simp⟩
    · simp only [if_neg e] at h
      obtain ⟨h1, h2⟩ := hC.1 x hxm s h
      have n1 : s ≠ s0 := fun z => by rw [z, hn] at h2; cases h2
      have n2 : ¬ hb m = some s := fun z => by
        have := (hC.1 m hm s z).2
        rw [h2] at this
        exact e (Option.some.inj this)
      exact ⟨h1, by simp [n1, n2, h2]⟩
  · by_cases e : s = s0
    · subst e
      simp only [if_true] at h
      cases h
      exact ⟨hm, by simp⟩
    · by_cases q : hb m = some s
      · simp [e, q] at h
      · simp only [if_neg e, if_neg q] at h
        obtain ⟨h1, h2⟩ := hC.2 s hsS x h
        have n1 : x ≠ m := fun z => q (by rw [← z]; exact h2)
        exact ⟨h1, by simp [n1, h2]⟩
  · by_cases e : s = s0
    · subst e
      exfalso
      have o1 : gs_o b (fun t => if t = s then some m else if hb m = some t then none else bb t) s = b m s + 1 := by unfold gs_o; simp
      have w1 := w.1
      rw [o1] at w1
      by_cases e2 : x = m
      · subst e2; omega
      · have w2 := w.2
        rw [pn x e2] at w2
        have : gs_W a b hb bb x s := ⟨by unfold gs_o; rw [hn]; exact Nat.succ_pos _, w2⟩
        have := hx x hxm this
        omega
    · by_cases q : hb m = some s
      · simp [e, q]
      · simp only [if_neg e, if_neg q]
        have o1 : gs_o b (fun t => if t = s0 then some m else if hb m = some t then none else bb t) s = gs_o b bb s := by unfold gs_o; simp [e, q]
        have w1 := w.1
        rw [o1] at w1
        exact hs x hxm s hsS ⟨w1, Nat.lt_of_le_of_lt (ple x) w.2⟩
theorem gs_go (hZ : ∀ m, m < M → ∀ s, s < S → a m s + 1 ≤ Z) : ∀ n (hb bb : Nat → Option Nat), gs_C S M hb bb → (∀ m, m < M → ∀ s, s < S → gs_W a b hb bb m s → bb s = none) → M * Z < gs_sum (gs_p a hb) M + n → ∃ hb bb, gs_C S M hb bb ∧ ∀ m, m < M → ∀ s, s < S → ¬ gs_W a b hb bb m s
  | 0, hb, bb, hC, _, h => by
    have := gs_sum_le (f := gs_p a hb) (Z := Z) M (fun m hm => by
      unfold gs_p
      cases q : hb m with
      | none => exact Nat.zero_le _
      | some s => exact hZ m hm s (hC.1 m hm s q).1)
    omega
  | n + 1, hb, bb, hC, hs, h => by
    by_cases q : ∃ s, s < S ∧ ∃ m, m < M ∧ gs_W a b hb bb m s
    · obtain ⟨s0, hs0, hex⟩ := q
      obtain ⟨m, hm, hW, hx⟩ := gs_max (P := fun m => gs_W a b hb bb m s0) (f := fun m => b m s0) M hex
      obtain ⟨g1, g2, g3⟩ := gs_step hC hs hm hs0 hW hx
      exact gs_go hZ n _ _ g1 g2 (by omega)
    · exact ⟨hb, bb, hC, fun m hm s hs2 w => q ⟨s, hs2, m, hm, w⟩⟩
theorem gs_ex (hZ : ∀ m, m < M → ∀ s, s < S → a m s + 1 ≤ Z) : ∃ hb bb, gs_C S M hb bb ∧ ∀ m, m < M → ∀ s, s < S → ¬ gs_W a b hb bb m s :=
  gs_go hZ (M * Z + 1) (fun _ => none) (fun _ => none) ⟨fun _ _ _ h => (by cases h), fun _ _ _ h => (by cases h)⟩ (fun _ _ _ _ _ => rfl) (by omega)
end GS
/-- every row of figures has its number -/
theorem dig_ex {B : Nat} (hB : 0 < B) : ∀ (S : Nat) (w : Nat → Nat), (∀ s, s < S → w s < B) → ∃ R, R < B ^ S ∧ ∀ s, s < S → digN R B (S - 1 - s) = w s
  | 0, _, _ => ⟨0, by simp, fun s hs => absurd hs (by omega)⟩
  | S + 1, w, h => by
    obtain ⟨R, hR, h1⟩ := dig_ex hB S w (fun s hs => h s (by omega))
    refine ⟨R * B + w S, ?_, fun s hs => ?_⟩
    · have h2 := h S (by omega)
      have h3 : (R + 1) * B ≤ B ^ S * B := Nat.mul_le_mul_right _ hR
      rw [Nat.succ_mul] at h3
      rw [Nat.pow_succ]
      omega
    · by_cases e : s = S
      · subst e
        rw [show s + 1 - 1 - s = 0 by omega]
        exact dig_0 (h s (by omega))
      · rw [show S + 1 - 1 - s = 1 + (S - 1 - s) by omega, dig_s hB (h S (by omega))]
        exact h1 s (by omega)
def lk9 (K : LK) (S M : Nat) : Prop := ∀ m, m < M → ∀ s, s < S → (∃ j, j ≤ 9 ∧ K.1 m s = nI j) ∧ ∃ j, j ≤ 9 ∧ K.2 m s = nI j
theorem fm_ex {K : LK} {S M : Nat} (hS : S ≤ 6) (hM : M ≤ 4) (h9 : lk9 K S M) : ∃ R, R < (M + 1) ^ S ∧ fm_G K S M R := by
  have hA : ∀ m, m < M → ∀ s, s < S → cl (K.1 m s) ≤ 9 ∧ K.1 m s = nI (cl (K.1 m s)) ∧ cl (K.2 m s) ≤ 9 ∧ K.2 m s = nI (cl (K.2 m s)) := fun m hm s hs => by
    obtain ⟨⟨i, hi, e1⟩, j, hj, e2⟩ := h9 m hm s hs
    rw [e1, e2]
    unfold cl
    rw [nI_clamp (by omega), nI_clamp (by omega)]
    exact ⟨hi, rfl, hj, rfl⟩
  obtain ⟨hb, bb, hC, hF⟩ := gs_ex (S := S) (M := M) (Z := 10) (a := fun m s => cl (K.1 m s)) (b := fun m s => cl (K.2 m s)) (fun m hm s hs => by have := (hA m hm s hs).1; omega)
  obtain ⟨R, hR, hd⟩ := dig_ex (B := M + 1) (by omega) S (fun s => (bb s).getD M) (fun s hs => by
    show (bb s).getD M < M + 1
    cases q : bb s with
    | none => exact Nat.lt_succ_self _
    | some m => exact Nat.lt_succ_of_lt (hC.2 s hs m q).1)
  have hw : ∀ s, s < S → fm_w S M R s = (bb s).getD M := fun s hs => hd s hs
  let D : DT := (fun _ => 0, fun m => if m < M then (match hb m with | none => -1 | some s => nI s) else -1, fun s => if s < S then (match bb s with | none => -1 | some m => nI m) else -1)
  have d1 : ∀ m, m < M → D.2.1 m = (match hb m with | none => -1 | some s => nI s) := fun m hm => if_pos hm
  have d2 : ∀ s, s < S → D.2.2 s = (match bb s with | none => -1 | some m => nI m) := fun s hs => if_pos hs
  refine ⟨R, hR, D, ⟨fun s hs6 hs => ?_, fun s hs6 hs => if_neg hs, fun m hm4 s hs6 => ?_, fun m hm4 => ?_⟩, fun m hm s hs w => ?_⟩
  · rw [d2 s hs, hw s hs]
    cases q : bb s with
    | none => exact (if_neg (by show ¬ M < M; omega)).symm
    | some m => exact (if_pos (show m < M from (hC.2 s hs m q).1)).symm
  · by_cases hm : m < M
    · rw [d1 m hm]
      constructor
      · intro h
        cases q : hb m with
        | none => rw [q] at h; exact absurd h.symm (nI_nm1 (by omega))
        | some t =>
          rw [q] at h
          obtain ⟨t1, t2⟩ := hC.1 m hm t q
          have e := (nI_eq (by omega) (by omega)).mp h
          subst e
          exact ⟨t1, by rw [hw t t1, t2]; rfl, hm⟩
      · rintro ⟨h1, h2, h3⟩
        rw [hw s h1] at h2
        cases q : bb s with
        | none => rw [q] at h2; have h2' : M = m := h2; omega
        | some t =>
          rw [q] at h2
          have h2' : t = m := h2
          subst h2'
          rw [(hC.2 s h1 t q).2]
    · constructor
      · intro h
        rw [show D.2.1 m = -1 from if_neg hm] at h
        exact absurd h.symm (nI_nm1 (by omega))
      · rintro ⟨_, _, h3⟩
        exact absurd h3 hm
  · by_cases hm : m < M
    · rw [d1 m hm]
      cases q : hb m with
      | none => exact Or.inl rfl
      | some t => exact Or.inr ⟨t, by have := (hC.1 m hm t q).1; omega, rfl⟩
    · exact Or.inl (if_neg hm)
  · obtain ⟨w1, w2⟩ := w
    obtain ⟨a1, a2, a3, a4⟩ := hA m hm s hs
    refine hF m hm s hs ⟨?_, ?_⟩
    · show gs_o (fun m s => cl (K.2 m s)) bb s < cl (K.2 m s) + 1
      unfold gs_o
      cases q : bb s with
      | none => exact Nat.succ_pos _
      | some t =>
        have ht := (hC.2 s hs t q).1
        obtain ⟨_, _, b3, b4⟩ := hA t ht s hs
        unfold fm_H at w1
        rw [d2 s hs, q, if_neg (show ¬ nI t = -1 from nI_nm1 (by omega)), show cl (nI t) = t from nI_clamp (by omega), b4, a4, nI_ltI (by omega) (by omega)] at w1
        exact Nat.succ_lt_succ w1
    · show gs_p (fun m s => cl (K.1 m s)) hb m < cl (K.1 m s) + 1
      unfold gs_p
      cases q : hb m with
      | none => exact Nat.succ_pos _
      | some t =>
        have ht := (hC.1 m hm t q).1
        obtain ⟨b1, b2, _, _⟩ := hA m hm t ht
        unfold fm_S at w2
        rw [d1 m hm, q, if_neg (show ¬ nI t = -1 from nI_nm1 (by omega)), show cl (nI t) = t from nI_clamp (by omega), b2, a2, nI_ltI (by omega) (by omega)] at w2
        exact Nat.succ_lt_succ w2
theorem fstG_some {P : Nat → Prop} {k R : Nat} (hR : R < k) (h : P R) : ∃ x, fstG P k = some x ∧ P x := by
  cases q : fstG P k with
  | some x => exact ⟨x, rfl, (fstG_P q).1⟩
  | none =>
    exfalso
    have h0 := (fstG_0 (P := P) k).mp q
    have : ∀ k, R < k → 0 < cntG P k := fun k => by
      induction k with
      | zero => intro h; omega
      | succ k ih =>
        intro hk
        by_cases e : R = k
        · subst e; rw [cntG_y h]; omega
        · have := ih (by omega)
          by_cases c : P k
          · rw [cntG_y c]; omega
          · rw [cntG_n c]; exact this
    have := this k hR
    omega

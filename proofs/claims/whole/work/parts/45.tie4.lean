/-! ===== class and reference, held together (4): sheets ===== -/
theorem isSh_c {k : Int32} (h : isSh k) : k = nI (cl k) ∧ cl k < 4 := by
  obtain ⟨j, e, hj⟩ := isSh_n h
  have e2 : cl k = j := clN e hj (by decide)
  rw [e2]
  exact ⟨e, hj⟩
theorem INV.sh {σ ξ : Mem} (h : INV σ) {K : Nat} (h1 : ∀ a, a ≠ 0 → a ≠ 42 → a ≠ 34 + 2 * K → a ≠ 35 + 2 * K → a ≠ 59 → a ≠ 60 → a ≠ 61 → a ≠ 62 → ξ a = σ a) (hK : K < 4) (h2 : ξ 0 6 = σ 0 6) (h3 : ∀ j, j ≠ 0 → ξ 42 j = σ 42 j) (h4 : ξ 0 7 = ξ 42 0) (h5 : ∀ j, j ≠ K → ξ 59 j = σ 59 j ∧ ξ 60 j = σ 60 j) (h6 : ∀ j, ¬ (100 * K ≤ j ∧ j < 100 * K + 100) → ξ 61 j = σ 61 j) (h7 : iS1 ξ ξ K) : INV ξ := by
  obtain ⟨S, M, C, R, so, mo, rm, rs, hV, hO, hD, hR, hSt, hT⟩ := h
  have n : ∀ a, a ≠ 0 → a ≠ 42 → ¬ (34 ≤ a ∧ a ≤ 41) → ¬ (59 ≤ a ∧ a ≤ 62) → ξ a = σ a := fun a q1 q2 q3 q4 => h1 a q1 q2 (by omega) (by omega) (by omega) (by omega) (by omega) (by omega)
  refine ⟨S, M, C, R, so, mo, rm, rs, hV.cg (fun a _ _ => n a (by omega) (by omega) (by omega) (by omega)) (fun a _ _ => n a (by omega) (by omega) (by omega) (by omega)) (fun j hj => h3 j (by omega)), hO.cg (congrFun (n 13 (by decide) (by decide) (by decide) (by decide)) 4) (n 14 (by decide) (by decide) (by decide) (by decide)) (n 15 (by decide) (by decide) (by decide) (by decide)) (h3 13 (by decide)) (n 49 (by decide) (by decide) (by decide) (by decide)) (n 50 (by decide) (by decide) (by decide) (by decide)), hD.cg (fun a ha => n a (by omega) (by omega) (by omega) (by omega)) (lR_cg (h3 6 (by decide)) (n 43 (by decide) (by decide) (by decide) (by decide)) (n 44 (by decide) (by decide) (by decide) (by decide))), hR.cg (congrFun (n 21 (by decide) (by decide) (by decide) (by decide)) 4) (fun a _ _ => n a (by omega) (by omega) (by omega) (by omega)) (h3 20 (by decide)) (fun a _ _ => n a (by omega) (by omega) (by omega) (by omega)), fun k hk => ?_, ?_, h4⟩
  · by_cases e : k = K
    · rw [e]; exact h7
    · exact (hSt k hk).cg (h1 _ (by omega) (by omega) (by omega) (by omega) (by omega) (by omega) (by omega) (by omega)) (h1 _ (by omega) (by omega) (by omega) (by omega) (by omega) (by omega) (by omega) (by omega)) (h5 k e).1 (h5 k e).2 (fun j hj => h6 _ (by omega))
  · rw [h2, h3 29 (by decide)]; exact hT.1
theorem segR_in {σ : Mem} {b n j : Nat} {v : Int32} (h : b ≤ j ∧ j < b + n) : segR σ b n v 61 j = v := by
  unfold segR
  rw [upR_s]; exact if_pos h
theorem segR_out {σ : Mem} {b n j : Nat} {v : Int32} (h : ¬ (b ≤ j ∧ j < b + n)) : segR σ b n v 61 j = σ 61 j := by
  unfold segR
  rw [upR_s]; exact if_neg h
theorem segR_row {σ : Mem} {b n a : Nat} {v : Int32} (h : a ≠ 61) : segR σ b n v a = σ a := upR_n h
theorem in100_n {x : Int32} (h : 0 ≤ x) (h1 : x ≤ 100) : x = nI (cl x) ∧ cl x ≤ 100 := cl_le (C := 100) (by decide) ⟨h, h1⟩
theorem t_sheet {σ : Mem} (h : INV σ) (k l n : Int32) {d : Nat} (hd : 12 ≤ d) : TWi d mX7_sheet mX8_sheet [.int k, .int l, .int n] σ := by
  have c := c_sheet σ k l n d (by omega)
  have kk := fun τ => k_sheet τ k l n d (by omega)
  by_cases q1 : isSh k
  · simp only [cnd_t q1] at c kk
    by_cases q2 : isLn l
    · simp only [cnd_t q2] at c kk
      by_cases q3 : n ≤ 100
      · simp only [cnd_t q3] at c kk
        by_cases q4 : 0 ≤ n
        · simp only [cnd_t q4] at c kk
          obtain ⟨en, hn⟩ := in100_n q4 q3
          obtain ⟨ek, hK⟩ := isSh_c q1
          refine TWi.g c (kk _) rfl (fun σ2 e => ?_)
          rw [e]
          generalize hKK : cl k = K at hK
          have w : ∀ a j, ¬ (a = 0 ∧ j = 7) → ¬ (a = 34 + 2 * K ∧ (j = 1 ∨ j = 2 ∨ j = 3)) → a ≠ 35 + 2 * K → up (newF σ K l n) 0 7 0 a j = σ a j := fun a j h1 h2 h3 => by
            unfold newF
            rw [up_n (by omega), up_n (by omega), up_n (by omega), up_n (by omega), fillR_row h3]
          have wc : ∀ j, j < 100 → up (newF σ K l n) 0 7 0 (35 + 2 * K) j = 0 := fun j hj => by
            unfold newF
            rw [up_n (by omega), up_n (by omega), up_n (by omega), up_n (by omega), fillR_at, if_pos hj]
          have w1 : up (newF σ K l n) 0 7 0 (34 + 2 * K) 1 = 1 := by
            unfold newF
            rw [up_n (by omega), up_n (by omega), up_n (by omega), up_s]
          have w2 : up (newF σ K l n) 0 7 0 (34 + 2 * K) 2 = l := by
            unfold newF
            rw [up_n (by omega), up_n (by omega), up_s]
          have w3 : up (newF σ K l n) 0 7 0 (34 + 2 * K) 3 = n := by
            unfold newF
            rw [up_n (by omega), up_s]
          have w7 : up (newF σ K l n) 0 7 0 0 7 = 0 := up_s
          generalize up (newF σ K l n) 0 7 0 = ω at w wc w1 w2 w3 w7
          have p : ∀ a, a ≠ 42 → a ≠ 59 → a ≠ 60 → a ≠ 61 → up (segR (up (up ω 59 K n) 60 K l) (100 * K) (cl n) 0) 42 0 0 a = ω a := fun a h1 h2 h3 h4 => by
            rw [up_row h1, segR_row h4, up_row h3, up_row h2]
          have p42 : ∀ j, j ≠ 0 → up (segR (up (up ω 59 K n) 60 K l) (100 * K) (cl n) 0) 42 0 0 42 j = ω 42 j := fun j hj => by
            rw [up_n (by omega), segR_row (by decide), up_n (by omega), up_n (by omega)]
          have p0 : up (segR (up (up ω 59 K n) 60 K l) (100 * K) (cl n) 0) 42 0 0 42 0 = 0 := up_s
          have p59 : ∀ j, up (segR (up (up ω 59 K n) 60 K l) (100 * K) (cl n) 0) 42 0 0 59 j = up ω 59 K n 59 j := fun j => by
            rw [up_n (by omega), segR_row (by decide), up_n (by omega)]
          have p60 : ∀ j, up (segR (up (up ω 59 K n) 60 K l) (100 * K) (cl n) 0) 42 0 0 60 j = up ω 60 K l 60 j := fun j => by
            rw [up_n (by omega), segR_row (by decide)]
            by_cases e : j = K
            · subst e; rw [up_s, up_s]
            · rw [up_n (by omega), up_n (by omega), up_n (by omega)]
          have p61 : ∀ j, ¬ (100 * K ≤ j ∧ j < 100 * K + cl n) → up (segR (up (up ω 59 K n) 60 K l) (100 * K) (cl n) 0) 42 0 0 61 j = ω 61 j := fun j hj => by
            rw [up_n (by omega), segR_out hj, up_n (by omega), up_n (by omega)]
          have p61i : ∀ j, (100 * K ≤ j ∧ j < 100 * K + cl n) → up (segR (up (up ω 59 K n) 60 K l) (100 * K) (cl n) 0) 42 0 0 61 j = 0 := fun j hj => by
            rw [up_n (by omega), segR_in hj]
          generalize up (segR (up (up ω 59 K n) 60 K l) (100 * K) (cl n) 0) 42 0 0 = ξ at p p42 p0 p59 p60 p61 p61i
          refine h.sh (K := K) (fun a a1 a2 a3 a4 a5 a6 a7 a8 => ?_) hK ?_ (fun j hj => ?_) ?_ (fun j hj => ⟨?_, ?_⟩) (fun j hj => ?_) ?_
          · rw [p a a2 a5 a6 a7]; funext j; exact w a j (by omega) (by omega) a4
          · rw [p 0 (by decide) (by decide) (by decide) (by decide)]; exact w 0 6 (by omega) (by omega) (by omega)
          · rw [p42 j hj]; exact w 42 j (by omega) (by omega) (by omega)
          · rw [p 0 (by decide) (by decide) (by decide) (by decide), w7, p0]
          · rw [p59, up_n (by omega)]; exact w 59 j (by omega) (by omega) (by omega)
          · rw [p60, up_n (by omega)]; exact w 60 j (by omega) (by omega) (by omega)
          · rw [p61 j (by omega)]; exact w 61 j (by omega) (by omega) (by omega)
          · have r1 : ξ (34 + 2 * K) = ω (34 + 2 * K) := p _ (by omega) (by omega) (by omega) (by omega)
            have r2 : ξ (35 + 2 * K) = ω (35 + 2 * K) := p _ (by omega) (by omega) (by omega) (by omega)
            unfold iS1
            rw [r1, r2, w1, w2, w3, p59, up_s, p60, up_s]
            exact ⟨⟨cl n, hn, en⟩, Or.inr ⟨rfl, cl n, hn, en, en, rfl, fun j hj => by rw [wc j (by omega), p61i _ (by omega)]⟩⟩
        · simp only [cnd_f q4] at c kk
          exact TWi.g c (kk _) rfl (fun σ2 e => by rw [e]; exact h.flt _)
      · simp only [cnd_f q3] at c kk
        exact TWi.g c (kk _) rfl (fun σ2 e => by rw [e]; exact h.flt _)
    · simp only [cnd_f q2] at c kk
      exact TWi.g c (kk _) rfl (fun σ2 e => by rw [e]; exact h.flt _)
  · simp only [cnd_f q1] at c kk
    exact TWi.g c (kk _) rfl (fun σ2 e => by rw [e]; exact h.flt _)
theorem INV.iS {σ : Mem} (h : INV σ) : iS σ σ := by
  obtain ⟨S, M, C, R, so, mo, rm, rs, hV, hO, hD, hR, hSt, hT⟩ := h
  exact hSt
theorem INV.iT {σ : Mem} (h : INV σ) : iT σ σ := by
  obtain ⟨S, M, C, R, so, mo, rm, rs, hV, hO, hD, hR, hSt, hT⟩ := h
  exact hT
theorem t_lose {σ : Mem} (h : INV σ) (k : Int32) {d : Nat} (hd : 12 ≤ d) : TWi d mX7_lose mX8_lose [.int k] σ := by
  have c := c_lose σ k d (by omega)
  have kk := fun τ => k_lose τ k d (by omega)
  by_cases q1 : isSh k
  · simp only [cnd_t q1] at c kk
    obtain ⟨ek, hK⟩ := isSh_c q1
    have hs := h.iS _ hK
    refine TWi.g c (kk _) ?_ (fun σ2 e => ?_)
    · unfold mHas shH
      rw [up_n (by omega)]
      rcases hs.2 with ⟨a, b⟩ | ⟨a, L, hL, b1, b2, -⟩
      · rw [a, b, cnd_t rfl]; rfl
      · rw [a, b2, if_neg (nI_pos (by omega)), cnd_f (by decide)]
    · rw [e]
      generalize hKK : cl k = K at hK hs
      have p : ∀ a j, ¬ (a = 34 + 2 * K ∧ j = 1) → ¬ (a = 59 ∧ j = K) → up (up σ (34 + 2 * K) 1 0) 59 K (-1) a j = σ a j := fun a j h1 h2 => by
        rw [up_n (by omega), up_n (by omega)]
      have p1 : up (up σ (34 + 2 * K) 1 0) 59 K (-1) (34 + 2 * K) 1 = 0 := by
        rw [up_n (by omega), up_s]
      have p59 : up (up σ (34 + 2 * K) 1 0) 59 K (-1) 59 K = -1 := up_s
      generalize up (up σ (34 + 2 * K) 1 0) 59 K (-1) = ξ at p p1 p59
      refine h.sh (K := K) (fun a a1 a2 a3 a4 a5 a6 a7 a8 => ?_) hK ?_ (fun j hj => ?_) ?_ (fun j hj => ⟨?_, ?_⟩) (fun j hj => ?_) ?_
      · funext j; exact p a j (by omega) (by omega)
      · exact p 0 6 (by omega) (by omega)
      · exact p 42 j (by omega) (by omega)
      · rw [p 0 7 (by omega) (by omega), p 42 0 (by omega) (by omega)]; exact h.iT.2
      · exact p 59 j (by omega) (by omega)
      · exact p 60 j (by omega) (by omega)
      · exact p 61 j (by omega) (by omega)
      · obtain ⟨⟨l0, hl0, el0⟩, -⟩ := hs
        exact ⟨⟨l0, hl0, (p _ 3 (by omega) (by omega)).trans el0⟩, Or.inl ⟨p1, p59⟩⟩
  · simp only [cnd_f q1] at c kk
    exact TWi.g c (kk _) rfl (fun σ2 e => by rw [e]; exact h)
theorem t_put {σ : Mem} (h : INV σ) (k i v : Int32) {d : Nat} (hd : 12 ≤ d) : TWi d mX7_put mX8_put [.int k, .int i, .int v] σ := by
  have c := c_put σ h.iS.sht k i v d (by omega)
  have row : ∀ f a, a ≠ 0 → up σ 0 7 f a = σ a := fun f a ha => up_row ha
  have kk := fun (τ : Mem) (r2 : ∀ a, 42 ≤ a → τ a = σ a) => k_put τ (h.iS.r r2).szOK k i v d (by omega)
  by_cases q1 : isSh k
  · simp only [cnd_t q1] at c kk
    obtain ⟨ek, hK⟩ := isSh_c q1
    have hs := h.iS _ hK
    have bad : ∀ f : Int32, 0 < f → ncF (σ 59 (cl k)) i = f → PMet d mX7_put [.ref 0, .int k, .int i, .int v] σ (Pi (fun r σ2 => r = -10 - f ∧ σ2 = up σ 0 7 f)) → TWi d mX7_put mX8_put [.int k, .int i, .int v] σ := fun f hf e0 c => by
      have k2 := kk (up σ 0 7 f) (fun a ha => row f a (by omega))
      rw [row f 59 (by decide), e0, cnd_t hf, cnd_t hf] at k2
      exact TWi.g c k2 rfl (fun σ2 e => by rw [e]; exact h.flt _)
    rcases hs.2 with ⟨a, b⟩ | ⟨a, L, hL, b1, b2, b3, b4⟩
    · have a2 : shH σ k = 0 := a
      rw [cnd_t a2, cnd_t a2] at c
      exact bad 1 (by decide) (by rw [b]; rfl) (by rw [show (-10 : Int32) - 1 = -11 by decide]; exact c)
    · have a2 : ¬ shH σ k = 0 := by unfold shH; rw [a]; decide
      have a3 : shN σ k = nI L := b1
      rw [cnd_f a2, cnd_f a2, a3] at c
      by_cases q : 0 ≤ i ∧ i < nI L
      · rw [cnd_t q, cnd_t q] at c
        obtain ⟨j0, ej, -, hj⟩ := dig (a := 0) (b := L) (by decide) (by omega) q.1 q.2
        have ei : cl i = j0 := clN ej hj (by omega)
        have a4 : shV σ k = σ 60 (cl k) := b3
        generalize hKK : cl k = K at hK hs a b1 b2 b3 b4 a4 c kk
        rw [ei] at c kk
        have r2 : ∀ a, 42 ≤ a → up (up σ (35 + 2 * K) j0 (cutF (shV σ k) v)) 0 7 0 a = σ a := fun a ha => (up_row (by omega)).trans (up_row (by omega))
        have k2 := kk _ r2
        have e0 : ncF (nI L) i = 0 := by
          unfold ncF
          rw [if_neg (nI_pos (by omega)), if_pos q]
        rw [r2 59 (by decide), r2 60 (by decide), b2, e0, cnd_f (by decide), cnd_f (by decide)] at k2
        refine TWi.g c k2 rfl (fun σ2 e => ?_)
        rw [e, ← a4]
        generalize cutF (shV σ k) v = u
        have p : ∀ a j, ¬ (a = 35 + 2 * K ∧ j = j0) → ¬ (a = 0 ∧ j = 7) → ¬ (a = 61 ∧ j = 100 * K + j0) → ¬ (a = 42 ∧ j = 0) → up (up (up (up σ (35 + 2 * K) j0 u) 0 7 0) 61 (100 * K + j0) u) 42 0 0 a j = σ a j := fun a j h1 h2 h3 h4 => by
          rw [up_n (by omega), up_n (by omega), up_n (by omega), up_n (by omega)]
        have p1 : up (up (up (up σ (35 + 2 * K) j0 u) 0 7 0) 61 (100 * K + j0) u) 42 0 0 (35 + 2 * K) j0 = u := by
          rw [up_n (by omega), up_n (by omega), up_n (by omega), up_s]
        have p2 : up (up (up (up σ (35 + 2 * K) j0 u) 0 7 0) 61 (100 * K + j0) u) 42 0 0 61 (100 * K + j0) = u := by
          rw [up_n (by omega), up_s]
        have p3 : up (up (up (up σ (35 + 2 * K) j0 u) 0 7 0) 61 (100 * K + j0) u) 42 0 0 0 7 = up (up (up (up σ (35 + 2 * K) j0 u) 0 7 0) 61 (100 * K + j0) u) 42 0 0 42 0 := by
          rw [up_n (by omega), up_n (by omega), up_s, up_s]
        generalize up (up (up (up σ (35 + 2 * K) j0 u) 0 7 0) 61 (100 * K + j0) u) 42 0 0 = ξ at p p1 p2 p3
        refine h.sh (K := K) (fun a a1 a2 a3 a4 a5 a6 a7 a8 => ?_) hK ?_ (fun j hj => ?_) p3 (fun j hj => ⟨?_, ?_⟩) (fun j hj => ?_) ?_
        · funext j; exact p a j (by omega) (by omega) (by omega) (by omega)
        · exact p 0 6 (by omega) (by omega) (by omega) (by omega)
        · exact p 42 j (by omega) (by omega) (by omega) (by omega)
        · exact p 59 j (by omega) (by omega) (by omega) (by omega)
        · exact p 60 j (by omega) (by omega) (by omega) (by omega)
        · exact p 61 j (by omega) (by omega) (by omega) (by omega)
        · unfold iS1
          rw [p _ 1 (by omega) (by omega) (by omega) (by omega), p _ 2 (by omega) (by omega) (by omega) (by omega), p (34 + 2 * K) 3 (by omega) (by omega) (by omega) (by omega), p 59 K (by omega) (by omega) (by omega) (by omega), p 60 K (by omega) (by omega) (by omega) (by omega)]
          refine ⟨⟨L, hL, b1⟩, Or.inr ⟨a, L, hL, b1, b2, b3, fun j hj2 => ?_⟩⟩
          by_cases e : j = j0
          · rw [e, p1, p2]
          · rw [p (35 + 2 * K) j (by omega) (by omega) (by omega) (by omega), p 61 (100 * K + j) (by omega) (by omega) (by omega) (by omega)]; exact b4 j hj2
      · rw [cnd_f q, cnd_f q] at c
        exact bad 3 (by decide) (by rw [b2]; unfold ncF; rw [if_neg (nI_pos (by omega)), if_neg q]) (by rw [show (-10 : Int32) - 3 = -13 by decide]; exact c)
  · simp only [cnd_f q1] at c kk
    exact TWi.g c (kk _ (fun a ha => row 0 a (by omega))) rfl (fun σ2 e => by rw [e]; exact h.flt _)
theorem t_cell {σ : Mem} (h : INV σ) (k i l : Int32) {d : Nat} (hd : 12 ≤ d) : TWl d mX7_cell mX8_cell [.int k, .int i, .int l] σ := by
  have c := c_cell σ h.iS.sht k i l d (by omega)
  have row : ∀ f a, a ≠ 0 → up σ 0 7 f a = σ a := fun f a ha => up_row ha
  have kk := fun (f : Int32) => k_cell (up σ 0 7 f) (h.iS.r (fun a ha => row f a (by omega))).szOK k i l d (by omega)
  simp only [fun f => row f 59 (by decide), fun f => row f 60 (by decide), fun f => row f 61 (by decide)] at kk
  by_cases q1 : isSh k
  · simp only [cnd_t q1] at c kk
    by_cases q2 : isLn l
    · simp only [cnd_t q2] at c kk
      obtain ⟨ek, hK⟩ := isSh_c q1
      have hs := h.iS _ hK
      rcases hs.2 with ⟨a, b⟩ | ⟨a, L, hL, b1, b2, b3, b4⟩
      · have a2 : frF (shH σ k) (shV σ k) l = 1 := by
          unfold frF shH
          rw [a, if_pos rfl]
        have n1 : ¬ (¬ σ 59 (cl k) < 0 ∧ ¬ σ 60 (cl k) = l) := fun z => z.1 (by rw [b]; decide)
        have n2 : ncF (σ 59 (cl k)) i = 1 := by rw [b]; rfl
        simp only [a2, cnd_f (show ¬ (1 : Int32) = 0 by decide)] at c
        simp only [cnd_f n1, n2, cnd_t (show (0 : Int32) < 1 by decide)] at kk
        exact TWl.g c (kk _) rfl (fun σ2 e => by rw [e]; exact h.flt _)
      · have a1 : ¬ shH σ k = 0 := by unfold shH; rw [a]; decide
        have a4 : shV σ k = σ 60 (cl k) := b3
        have a3 : shN σ k = nI L := b1
        have n0 : ¬ σ 59 (cl k) < 0 := by rw [b2]; exact nI_pos (by omega)
        by_cases q3 : σ 60 (cl k) = l
        · have a2 : frF (shH σ k) (shV σ k) l = 0 := by
            unfold frF
            rw [if_neg a1, a4, if_pos q3]
          have n1 : ¬ (¬ σ 59 (cl k) < 0 ∧ ¬ σ 60 (cl k) = l) := fun z => z.2 q3
          simp only [a2, cnd_t trivial, cnd_t (show (0 : Int32) = 0 from rfl), a3] at c
          simp only [cnd_f n1] at kk
          simp only [b2] at kk
          by_cases q : 0 ≤ i ∧ i < nI L
          · have e0 : ncF (nI L) i = 0 := by
              unfold ncF
              rw [if_neg (nI_pos (by omega)), if_pos q]
            simp only [cnd_t q] at c
            simp only [e0, cnd_f (show ¬ (0 : Int32) < 0 by decide)] at kk
            obtain ⟨j0, ej, -, hj⟩ := dig (a := 0) (b := L) (by decide) (by omega) q.1 q.2
            have ei : cl i = j0 := clN ej hj (by omega)
            exact TWl.g c (kk _) (by rw [ei, b4 j0 hj]) (fun σ2 e => by rw [e]; exact h.flt _)
          · have e0 : ncF (nI L) i = 3 := by
              unfold ncF
              rw [if_neg (nI_pos (by omega)), if_neg q]
            simp only [cnd_f q] at c
            simp only [e0, cnd_t (show (0 : Int32) < 3 by decide)] at kk
            exact TWl.g c (kk _) rfl (fun σ2 e => by rw [e]; exact h.flt _)
        · have a2 : frF (shH σ k) (shV σ k) l = 2 := by
            unfold frF
            rw [if_neg a1, a4, if_neg q3]
          simp only [a2, cnd_f (show ¬ (2 : Int32) = 0 by decide)] at c
          simp only [cnd_t (show ¬ σ 59 (cl k) < 0 ∧ ¬ σ 60 (cl k) = l from ⟨n0, q3⟩)] at kk
          exact TWl.g c (kk _) rfl (fun σ2 e => by rw [e]; exact h.flt _)
    · simp only [cnd_f q2] at c kk
      exact TWl.g c (kk _) rfl (fun σ2 e => by rw [e]; exact h.flt _)
  · simp only [cnd_f q1] at c kk
    exact TWl.g c (kk _) rfl (fun σ2 e => by rw [e]; exact h.flt _)
theorem t_copy {σ : Mem} (h : INV σ) (k i o j n : Int32) {d : Nat} (hd : 12 ≤ d) : TWi d mX7_copy mX8_copy [.int k, .int i, .int o, .int j, .int n] σ := by
  have c := c_copy σ h.iS.sht k i o j n d (by omega)
  have row : ∀ f a, a ≠ 0 → up σ 0 7 f a = σ a := fun f a ha => up_row ha
  have kk := fun (τ : Mem) (r2 : ∀ a, 42 ≤ a → τ a = σ a) => k_copy τ (h.iS.r r2).szOK k i o j n d (by omega)
  have kf : ∀ f, _ := fun f => kk (up σ 0 7 f) (fun a ha => row f a (by omega))
  simp only [fun f => row f 59 (by decide), fun f => row f 60 (by decide)] at kf
  by_cases q1 : isSh k
  · simp only [cnd_t q1] at c kk kf
    by_cases q2 : isSh o
    · simp only [cnd_t q2] at c kk kf
      obtain ⟨ek, hK⟩ := isSh_c q1
      obtain ⟨eo, hO⟩ := isSh_c q2
      have hs := h.iS _ hK
      have ho := h.iS _ hO
      rcases hs.2 with ⟨a, b⟩ | ⟨a, L, hL, b1, b2, b3, b4⟩
      · have a2 : shH σ k = 0 := a
        have n2 : σ 59 (cl k) < 0 := by rw [b]; decide
        simp only [cnd_t a2] at c
        simp only [cnd_t n2] at kf
        exact TWi.g c (kf _) rfl (fun σ2 e => by rw [e]; exact h.flt _)
      · have a2 : ¬ shH σ k = 0 := by unfold shH; rw [a]; decide
        have n2 : ¬ σ 59 (cl k) < 0 := by rw [b2]; exact nI_pos (by omega)
        have a4 : shV σ k = σ 60 (cl k) := b3
        have a3 : shN σ k = nI L := b1
        simp only [cnd_f a2] at c
        simp only [cnd_f n2] at kf
        rcases ho.2 with ⟨a', b'⟩ | ⟨a', L', hL', b1', b2', b3', b4'⟩
        · have a2' : shH σ o = 0 := a'
          have n2' : σ 59 (cl o) < 0 := by rw [b']; decide
          simp only [cnd_t a2'] at c
          simp only [cnd_t n2'] at kf
          exact TWi.g c (kf _) rfl (fun σ2 e => by rw [e]; exact h.flt _)
        · have a2' : ¬ shH σ o = 0 := by unfold shH; rw [a']; decide
          have n2' : ¬ σ 59 (cl o) < 0 := by rw [b2']; exact nI_pos (by omega)
          have a4' : shV σ o = σ 60 (cl o) := b3'
          have a3' : shN σ o = nI L' := b1'
          simp only [cnd_f a2', a4, a4', a3, a3'] at c
          simp only [cnd_f n2'] at kf
          simp only [b2, b2'] at kf
          by_cases q3 : σ 60 (cl k) = σ 60 (cl o)
          · simp only [cnd_t q3] at c kf
            by_cases q4 : 0 ≤ i ∧ i ≤ nI L ∧ 0 ≤ n ∧ n ≤ nI L - i
            · simp only [cnd_t q4] at c kf
              by_cases q5 : 0 ≤ j ∧ j ≤ nI L' ∧ 0 ≤ n ∧ n ≤ nI L' - j
              · simp only [cnd_t q5] at c
                obtain ⟨ei, hi⟩ := cl_le (C := L) (by omega) ⟨q4.1, q4.2.1⟩
                obtain ⟨ej, hj⟩ := cl_le (C := L') (by omega) ⟨q5.1, q5.2.1⟩
                have q46 := q4.2.2.2
                rw [ei, nI_subN hi] at q46
                obtain ⟨en, hn⟩ := cl_le (C := L - cl i) (by omega) ⟨q4.2.2.1, q46⟩
                have q56 := q5.2.2.2
                rw [ej, nI_subN hj, en, nI_leI (by omega) (by omega)] at q56
                have r2 : ∀ a, 42 ≤ a → up (upR σ (35 + 2 * cl o) (va_cpy (σ (35 + 2 * cl k)) (σ (35 + 2 * cl o)) (cl i) (cl j) (cl n))) 0 7 0 a = σ a := fun a ha => (up_row (by omega)).trans (upR_n (by omega))
                have k2 := kk _ r2
                simp only [r2 59 (by decide), r2 60 (by decide)] at k2
                simp only [cnd_f n2, cnd_f n2', cnd_t q3] at k2
                simp only [b2, b2', cnd_t q4, cnd_t q5] at k2
                refine TWi.g c k2 rfl (fun σ2 e => ?_)
                rw [e]
                generalize cl i = I at *
                generalize cl j = J at *
                generalize cl n = N at *
                generalize cl k = K at *
                generalize cl o = O at *
                have w : ∀ a b, ¬ (a = 0 ∧ b = 7) → ¬ (a = 35 + 2 * O ∧ J ≤ b ∧ b < J + N) → up (upR σ (35 + 2 * O) (va_cpy (σ (35 + 2 * K)) (σ (35 + 2 * O)) I J N)) 0 7 0 a b = σ a b := fun a b h1 h2 => by
                  rw [up_n h1]
                  by_cases e : a = 35 + 2 * O
                  · subst e
                    rw [upR_s]
                    unfold va_cpy
                    exact if_neg (by omega)
                  · rw [upR_n e]
                have wi : ∀ b, J ≤ b ∧ b < J + N → up (upR σ (35 + 2 * O) (va_cpy (σ (35 + 2 * K)) (σ (35 + 2 * O)) I J N)) 0 7 0 (35 + 2 * O) b = σ (35 + 2 * K) (I + (b - J)) := fun b hb => by
                  rw [up_n (by omega), upR_s]
                  unfold va_cpy
                  exact if_pos hb
                have w7 : up (upR σ (35 + 2 * O) (va_cpy (σ (35 + 2 * K)) (σ (35 + 2 * O)) I J N)) 0 7 0 0 7 = 0 := up_s
                generalize up (upR σ (35 + 2 * O) (va_cpy (σ (35 + 2 * K)) (σ (35 + 2 * O)) I J N)) 0 7 0 = ω at w wi w7
                have p : ∀ a b, ¬ (a = 42 ∧ b = 0) → a ≠ 62 → ¬ (a = 61 ∧ 100 * O + J ≤ b ∧ b < 100 * O + J + N) → up (cpB (cpA ω (100 * K + I) N) (100 * O + J) N) 42 0 0 a b = ω a b := fun a b h1 h2 h3 => by
                  rw [up_n h1]
                  unfold cpB
                  by_cases e : a = 61
                  · subst e
                    rw [upR_s]
                    show (if 100 * O + J ≤ b ∧ b < 100 * O + J + N then _ else cpA ω (100 * K + I) N 61 b) = _
                    rw [if_neg (by omega)]
                    unfold cpA
                    rw [upR_n (by decide)]
                  · rw [upR_n e]
                    unfold cpA
                    rw [upR_n h2]
                have pi : ∀ b, b < N → up (cpB (cpA ω (100 * K + I) N) (100 * O + J) N) 42 0 0 61 (100 * O + J + b) = ω 61 (100 * K + I + b) := fun b hb => by
                  rw [up_n (by omega)]
                  unfold cpB
                  rw [upR_s]
                  show (if 100 * O + J ≤ 100 * O + J + b ∧ 100 * O + J + b < 100 * O + J + N then cpA ω (100 * K + I) N 62 (100 * O + J + b - (100 * O + J)) else _) = _
                  rw [if_pos (by omega), show 100 * O + J + b - (100 * O + J) = b by omega]
                  unfold cpA
                  rw [upR_s]
                  exact if_pos hb
                have p0 : up (cpB (cpA ω (100 * K + I) N) (100 * O + J) N) 42 0 0 42 0 = 0 := up_s
                generalize up (cpB (cpA ω (100 * K + I) N) (100 * O + J) N) 42 0 0 = ξ at p pi p0
                refine h.sh (K := O) (fun a a1 a2 a3 a4 a5 a6 a7 a8 => ?_) hO ?_ (fun b hb => ?_) ?_ (fun b hb => ⟨?_, ?_⟩) (fun b hb => ?_) ?_
                · funext b; rw [p a b (by omega) (by omega) (by omega)]; exact w a b (by omega) (by omega)
                · rw [p 0 6 (by omega) (by omega) (by omega)]; exact w 0 6 (by omega) (by omega)
                · rw [p 42 b (by omega) (by omega) (by omega)]; exact w 42 b (by omega) (by omega)
                · rw [p 0 7 (by omega) (by omega) (by omega), w7, p0]
                · rw [p 59 b (by omega) (by omega) (by omega)]; exact w 59 b (by omega) (by omega)
                · rw [p 60 b (by omega) (by omega) (by omega)]; exact w 60 b (by omega) (by omega)
                · rw [p 61 b (by omega) (by omega) (by omega)]; exact w 61 b (by omega) (by omega)
                · have g1 : ∀ b, ξ (34 + 2 * O) b = σ (34 + 2 * O) b := fun b => by rw [p _ b (by omega) (by omega) (by omega)]; exact w _ b (by omega) (by omega)
                  unfold iS1
                  rw [g1 1, g1 2, g1 3, p 59 O (by omega) (by omega) (by omega), w 59 O (by omega) (by omega), p 60 O (by omega) (by omega) (by omega), w 60 O (by omega) (by omega)]
                  refine ⟨⟨L', hL', b1'⟩, Or.inr ⟨a', L', hL', b1', b2', b3', fun b hb => ?_⟩⟩
                  rw [p (35 + 2 * O) b (by omega) (by omega) (by omega)]
                  by_cases e : J ≤ b ∧ b < J + N
                  · rw [wi b e, b4 (I + (b - J)) (by omega), show 100 * O + b = 100 * O + J + (b - J) by omega, pi (b - J) (by omega), w 61 _ (by omega) (by omega), show 100 * K + (I + (b - J)) = 100 * K + I + (b - J) by omega]
                  · rw [w (35 + 2 * O) b (by omega) (by omega), p 61 (100 * O + b) (by omega) (by omega) (by omega), w 61 _ (by omega) (by omega)]
                    exact b4' b hb
              · simp only [cnd_f q5] at c kf
                exact TWi.g c (kf _) rfl (fun σ2 e => by rw [e]; exact h.flt _)
            · simp only [cnd_f q4] at c kf
              exact TWi.g c (kf _) rfl (fun σ2 e => by rw [e]; exact h.flt _)
          · simp only [cnd_f q3] at c kf
            exact TWi.g c (kf _) rfl (fun σ2 e => by rw [e]; exact h.flt _)
    · simp only [cnd_f q2] at c kk kf
      exact TWi.g c (kf _) rfl (fun σ2 e => by rw [e]; exact h.flt _)
  · simp only [cnd_f q1] at c kk kf
    exact TWi.g c (kf _) rfl (fun σ2 e => by rw [e]; exact h.flt _)

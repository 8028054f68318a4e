/-! ===== class and reference, held together (5): cells as a row, asked ===== -/
theorem fc_eq {σ τ : Mem} (h : iS σ τ) {k l i n : Int32} (q : isSh k) : fcM τ k l i n = fcS σ k l i n := by
  obtain ⟨ek, hK⟩ := isSh_c q
  rcases (h _ hK).2 with ⟨a, b⟩ | ⟨a, L, hL, b1, b2, b3, b4⟩
  · have e1 : mHas τ k = 0 := by unfold mHas; rw [b]; exact if_pos (by decide)
    have e2 : shH σ k = 0 := a
    unfold fcM fcS fcF
    have f1 : ∀ x y : Int32, frF 0 x y = 1 := fun x y => if_pos rfl
    rw [e1, e2, f1, f1, if_pos (show ¬ (1 : Int32) = 0 by decide), if_pos (show ¬ (1 : Int32) = 0 by decide)]
  · have e1 : mHas τ k = 1 := by unfold mHas; rw [b2]; exact if_neg (nI_pos (by omega))
    have e2 : shH σ k = 1 := a
    have e3 : shV σ k = τ 60 (cl k) := b3
    have e4 : shN σ k = nI L := b1
    unfold fcM fcS
    rw [e1, e2, e3, e4, b2]
/-- cells that no fault bars are the same on both sides -/
theorem ce_eq {σ τ : Mem} (h : iS σ τ) {k l i n : Int32} (q : isSh k) (h0 : fcS σ k l i n = 0) : ∀ j, j < cl n → ceM τ k i j = ceS σ k i j := by
  intro j hj
  obtain ⟨ek, hK⟩ := isSh_c q
  rcases (h _ hK).2 with ⟨a, b⟩ | ⟨a, L, hL, b1, b2, b3, b4⟩
  · exfalso
    have e2 : shH σ k = 0 := a
    unfold fcS fcF at h0
    have f1 : frF (shH σ k) (shV σ k) l = 1 := by rw [e2]; exact if_pos rfl
    rw [f1, if_pos (by decide)] at h0
    exact absurd h0 (by decide)
  · obtain ⟨h1, h2, h3, h4⟩ := fc_0 h0
    have e4 : shN σ k = nI L := b1
    rw [e4] at h2 h4
    obtain ⟨ei, hi⟩ := cl_le (C := L) (by omega) ⟨h1, h2⟩
    rw [ei, nI_subN hi] at h4
    obtain ⟨en, hn⟩ := cl_le (C := L - cl i) (by omega) ⟨h3, h4⟩
    unfold ceM ceS
    rw [b4 (cl i + j) (by omega), Nat.add_assoc]
theorem bestF_cg {law : Int32} {f g : Nat → Int32} : ∀ n, (∀ j, j < n → f j = g j) → bestF law f n = bestF law g n
  | 0, _ => rfl
  | n + 1, h => by
    have e := bestF_cg (law := law) n (fun j hj => h j (by omega))
    show (if nI n ≤ law then (if bestF law f n < f n then f n else bestF law f n) else bestF law f n) = (if nI n ≤ law then (if bestF law g n < g n then g n else bestF law g n) else bestF law g n)
    rw [e, h n (by omega)]
theorem mndR_cg {P Q : Nat → Prop} {f g : Nat → Int32} : ∀ n k, (∀ j, j < k + n → (P j ↔ Q j) ∧ f j = g j) → mndR P f n k = mndR Q g n k
  | 0, _, _ => rfl
  | n + 1, k, h => by
    show cnd (P k) (f k) (mndR P f n (k + 1)) = cnd (Q k) (g k) (mndR Q g n (k + 1))
    rw [mndR_cg n (k + 1) (fun j hj => h j (by omega)), (h k (by omega)).2]
    exact cnd_cg (h k (by omega)).1 (fun _ => rfl) (fun _ => rfl)
theorem SC_sm {σ ω τ : Mem} {f : Int32} (h : INV σ) (h1 : ∀ a, a ≠ 0 → a ≠ 33 → ω a = σ a) (h2 : ω 0 6 = σ 0 6) (h3 : ω 0 7 = f) (hs : SC ω τ) : INV (up τ 42 0 f) := by
  have h0 := hs.1
  refine h.sm (fun a ha => ?_) ?_ (fun j hj => ?_) ?_
  · unfold scr at ha
    rw [up_row (by omega), h0 a (by omega) (by omega) (by omega), h1 a (by omega) (by omega)]
  · rw [up_n (by omega), h0 0 (by decide) (by decide) (by decide)]; exact h2
  · rw [up_n (by omega), h0 42 (by decide) (by decide) (by decide), h1 42 (by decide) (by decide)]
  · rw [up_n (by omega), h0 0 (by decide) (by decide) (by decide), h3, up_s]
theorem t_asked {σ : Mem} (h : INV σ) (x k l i n z : Int32) {d : Nat} (hd : 12 ≤ d) : TWi d mX7_asked mX8_asked [.int x, .int k, .int l, .int i, .int n, .int z] σ := by
  obtain ⟨S, M, C, R, so, mo, rm, rs, hV, hO, hD, hR, hSt, hT⟩ := id h
  refine TWi.b (c_asked σ S M hV.VA hSt.sht x k l i n z d (by omega)) (fun v σ1 hc => ?_)
  obtain ⟨ev, ρ, e1⟩ := hc
  generalize hf : cnd (hM σ x) (cnd (isSh k) (cnd (isLn l) (cnd (z = 0 ∨ z = 1) (fcS σ k l i n) 0) 0) 0) 0 = f at e1
  have w : ∀ a, a ≠ 0 → a ≠ 33 → σ1 a = σ a := fun a h1 h2 => by rw [e1, up_row h1, upR_n h2]
  have w6 : σ1 0 6 = σ 0 6 := by rw [e1, up_n (by omega), upR_n (by decide)]
  have w7 : σ1 0 7 = f := by rw [e1, up_s]
  have r2 : ∀ a, 42 ≤ a → σ1 a = σ a := fun a ha => w a (by omega) (by omega)
  have hVω := hV.r r2
  have hSω := hSt.r r2
  refine ⟨_, k_asked σ1 S M hVω.VM hSω.szOK hVω.kOK x k l i n z d (by omega), fun u σ2 hk => ?_⟩
  obtain ⟨eu, τ, hs, e2⟩ := hk
  have ef : cnd (hMm σ1 x) (cnd (isSh k) (cnd (isLn l) (cnd (z = 0 ∨ z = 1) (fcM σ1 k l i n) 0) 0) 0) 0 = f := by
    rw [← hf, hVω.eM]
    exact cnd_cg Iff.rfl (fun _ => cnd_cg Iff.rfl (fun q => cnd_cg Iff.rfl (fun _ => cnd_cg Iff.rfl (fun _ => fc_eq hSω q) (fun _ => rfl)) (fun _ => rfl)) (fun _ => rfl)) (fun _ => rfl)
  refine ⟨?_, by rw [e2, ef]; exact SC_sm h w w6 w7 hs⟩
  rw [eu, ev, hVω.eM, hVω.eS]
  refine cnd_cg Iff.rfl (fun hx => cnd_cg Iff.rfl (fun q => cnd_cg Iff.rfl (fun _ => cnd_cg Iff.rfl (fun _ => ?_) (fun _ => rfl)) (fun _ => rfl)) (fun _ => rfl)) (fun _ => rfl)
  rw [fc_eq hSω q]
  refine cnd_cg Iff.rfl (fun h0 => cnd_cg Iff.rfl (fun _ => ?_) (fun _ => rfl)) (fun _ => rfl)
  have hce := ce_eq hSω q h0
  have hm := (hVω.cM hx).2.1
  refine cnd_cg ⟨fun q j hj => by rw [← hce j hj]; exact q j hj, fun q j hj => by rw [hce j hj]; exact q j hj⟩ (fun hj => ?_) (fun _ => rfl)
  have hq : ∀ j, j < cl n → cl (ceS σ k i j) < S := fun j hj2 => by rw [← hce j hj2]; exact (hVω.cS (hj j hj2)).2.1
  have hf : ∀ j, j < cl n → aqFm σ1 x k i j = aqF σ x k i j := fun j hj2 => by
    unfold aqFm aqF
    rw [hce j hj2]
    exact (hVω.her hm (hq j hj2)).symm
  have hp : ∀ j, j < cl n → (aqPm σ1 x k i j ↔ aqP σ x k i j) := fun j hj2 => by
    unfold aqPm aqP
    rw [hce j hj2, ← hVω.law, ← hVω.kd hm, ← hVω.her hm (hq j hj2)]
  refine cnd_cg Iff.rfl (fun _ => ?_) (fun _ => ?_)
  · rw [← hVω.law]
    exact bestF_cg _ hf
  · exact mndR_cg _ _ (fun j hj2 => ⟨hp j (by omega), hf j (by omega)⟩)
/-! texts -/
theorem fitC_cg {c c2 : Nat → Int32} {N q : Nat} (h : ∀ j, j < N → c j = c2 j) (hq : q < N) : fitC c q ↔ fitC c2 q := by
  unfold fitC
  rw [h q hq]
  by_cases q3 : q < 3
  · constructor
    · rintro (a | a)
      · exact Or.inl a
      · omega
    · rintro (a | a)
      · exact Or.inl a
      · omega
  · have e1 : dS c = dS c2 := by unfold dS; rw [h 1 (by omega)]
    have e2 : dM c = dM c2 := by unfold dM; rw [h 2 (by omega)]
    rw [e1, e2]
theorem fstP_cg {c c2 : Nat → Int32} {N p : Nat} (h : ∀ j, j < N → c j = c2 j) (hp : fstP c N p) : fstP c2 N p :=
  ⟨fun q hq => ⟨(hp.1 q hq).1, (fitC_cg h (hp.1 q hq).1).mp (hp.1 q hq).2⟩, fun z => hp.2 ⟨z.1, (fitC_cg h z.1).mpr z.2⟩⟩
theorem tkn_cg {c c2 : Nat → Int32} {N p : Nat} (h : ∀ j, j < N → c j = c2 j) : tkn c N p ↔ tkn c2 N p := by
  unfold tkn
  refine and_congr_right (fun h3 => and_congr_right (fun e => ?_))
  have e1 : dS c = dS c2 := by unfold dS; rw [h 1 (by omega)]
  have e2 : dM c = dM c2 := by unfold dM; rw [h 2 (by omega)]
  rw [e1, e2]
theorem mul_lt1 {a b c : Nat} (h : a < b) : a * c + c ≤ b * c := by
  have := Nat.mul_le_mul_right c (show a + 1 ≤ b from h)
  rw [Nat.succ_mul] at this
  exact this
/-- what a taken text tells -/
theorem txt_facts {c : Nat → Int32} {N p : Nat} (hf : fstP c N p) (ht : tkn c N p) : (1 ≤ dS c ∧ dS c ≤ 6 ∧ 1 ≤ dM c ∧ dM c ≤ 4) ∧ (∀ m, m < dM c → (4 + m * (dS c + 2) < N ∧ ∃ j, j < 3 ∧ kdF (c (4 + m * (dS c + 2))) = nI j) ∧ ∀ s, s < dS c → (5 + m * (dS c + 2) + s < N ∧ ∃ j, j ≤ 9 ∧ c (5 + m * (dS c + 2) + s) - 48 = nI j) ∧ (4 + dM c * (dS c + 2) + s * (dM c + 1) + m < N ∧ ∃ j, j ≤ 9 ∧ c (4 + dM c * (dS c + 2) + s * (dM c + 1) + m) - 48 = nI j)) := by
  obtain ⟨h3, ep, eN⟩ := ht
  obtain ⟨q1, q2⟩ := dM_hd hf h3
  obtain ⟨-, s1, s2⟩ := dS_of q1
  obtain ⟨-, m1, m2⟩ := dM_of q2
  refine ⟨⟨s1, s2, m1, m2⟩, fun m hm => ?_⟩
  have all : ∀ q, 3 ≤ q → q < N → fitB (dS c) (dM c) q (c q) := fun q h1 h2 => by
    rcases (hf.1 q (by omega)).2 with a | a
    · omega
    · exact a.2.2
  have digit : ∀ {B : Prop} {i : Nat} {x : Int32}, partP B i x → ¬ i = 0 → ¬ (B ∧ i = 1) → ∃ j, j ≤ 9 ∧ x - 48 = nI j := fun {B i x} hp n0 n1 => by
    rcases hp with a | a | a
    · exact absurd a.1 n0
    · exact absurd ⟨a.2.1, a.2.2.1⟩ n1
    · obtain ⟨j, e, j1, j2⟩ := dig (a := 48) (b := 58) (c := x) (by decide) (by decide) a.2.2.1 (Int32.lt_of_le_of_lt a.2.2.2 (by decide))
      exact ⟨j - 48, by omega, by rw [e, show (48 : Int32) = nI 48 from rfl, nI_subN j1]⟩
  unfold endT at eN
  generalize dS c = S at *
  generalize dM c = M at *
  have l1 : m * (S + 2) + (S + 2) ≤ M * (S + 2) := mul_lt1 hm
  refine ⟨⟨by omega, ?_⟩, fun s hs => ?_⟩
  · have f := all (4 + m * (S + 2)) (by omega) (by omega)
    rcases f with ⟨-, f⟩ | ⟨f, -⟩
    · rw [show 4 + m * (S + 2) - 3 = 1 + m * (S + 2) by omega, Nat.add_mul_mod_self_right, Nat.mod_eq_of_lt (show 1 < S + 2 by omega)] at f
      rcases f with a | a | a
      · exact absurd a.1 (by decide)
      · have a2 := a.2.2.2
        unfold kdF at a2 ⊢
        by_cases c1 : c (4 + m * (S + 2)) = 104
        · rw [if_pos c1]; exact ⟨2, by decide, rfl⟩
        · rw [if_neg c1] at a2 ⊢
          by_cases c2 : c (4 + m * (S + 2)) = 109
          · rw [if_pos c2]; exact ⟨0, by decide, rfl⟩
          · rw [if_neg c2] at a2 ⊢
            by_cases c3 : c (4 + m * (S + 2)) = 112
            · rw [if_pos c3]; exact ⟨1, by decide, rfl⟩
            · rw [if_neg c3] at a2; exact absurd rfl a2
      · exact absurd ⟨trivial, rfl⟩ a.2.1
    · omega
  · have l2 : s * (M + 1) + (M + 1) ≤ S * (M + 1) := mul_lt1 hs
    refine ⟨⟨by omega, ?_⟩, by omega, ?_⟩
    · have f := all (5 + m * (S + 2) + s) (by omega) (by omega)
      rcases f with ⟨-, f⟩ | ⟨f, -⟩
      · rw [show 5 + m * (S + 2) + s - 3 = (2 + s) + m * (S + 2) by omega, Nat.add_mul_mod_self_right, Nat.mod_eq_of_lt (show 2 + s < S + 2 by omega)] at f
        exact digit f (by omega) (by omega)
      · omega
    · have f := all (4 + M * (S + 2) + s * (M + 1) + m) (by omega) (by omega)
      rcases f with ⟨f, -⟩ | ⟨-, f⟩
      · omega
      · rw [show 4 + M * (S + 2) + s * (M + 1) + m - 3 - M * (S + 2) = (1 + m) + s * (M + 1) by omega, Nat.add_mul_mod_self_right, Nat.mod_eq_of_lt (show 1 + m < M + 1 by omega)] at f
        exact digit f (by omega) (fun z => z.1)
theorem t_valley {σ : Mem} (h : INV σ) (k l i n : Int32) {d : Nat} (hd : 12 ≤ d) : TWi d mX7_valley mX8_valley [.int k, .int l, .int i, .int n] σ := by
  obtain ⟨S, M, C, R, so, mo, rm, rs, hV, hO, hD, hR, hSt, hT⟩ := id h
  refine TWi.b (c_valley σ hSt.sht k l i n d (by omega)) (fun v σ1 hc => ?_)
  rcases hc with ⟨hn, ev, e1⟩ | ⟨q1, q2, q3, τ, eτ, hτ, p, hp, hp65, hc⟩
  · have r2 : ∀ a, 42 ≤ a → σ1 a = σ a := fun a ha => by rw [e1, up_row (by omega)]
    have hSω := hSt.r r2
    refine ⟨_, k_valley σ1 hSω.szOK k l i n d (by omega), fun u σ2 hk => ?_⟩
    rcases hk with ⟨hn2, eu, e2⟩ | ⟨q1, q2, q3, -⟩
    · refine ⟨?_, ?_⟩
      · rw [eu, ev]
        exact cnd_cg Iff.rfl (fun q => by rw [fc_eq hSω q]) (fun _ => rfl)
      · have ef : cnd (isSh k) (cnd (isLn l) (fcM σ1 k l i n) 0) 0 = cnd (isSh k) (cnd (isLn l) (fcS σ k l i n) 0) (0 : Int32) := cnd_cg Iff.rfl (fun q => by rw [fc_eq hSω q]) (fun _ => rfl)
        rw [e2, ef, e1]
        exact h.flt _
    · exact absurd ⟨q1, q2, by rw [← fc_eq hSω q1]; exact q3⟩ hn
  · have t33 : ∀ a, a ≠ 33 → τ a = σ a := fun a ha => by rw [eτ, upR_n ha]
    rcases hc with ⟨ht, ω, hω, ev, e1⟩ | ⟨ht, ev, e1⟩
    · obtain ⟨⟨hS1, hS6, hM1, hM4⟩, hfx⟩ := txt_facts hp ht
      have hdd : dS (τ 33) = dS (τ 33) ∧ dM (τ 33) = dM (τ 33) := ⟨rfl, rfl⟩
      generalize hS' : dS (τ 33) = S' at *
      generalize hM' : dM (τ 33) = M' at *
      have wo : ∀ a b, a ≠ 1 → a ≠ 2 → ¬ (4 ≤ a ∧ a < 8) → ¬ (9 ≤ a ∧ a < 13) → a ≠ 33 → ω a b = σ a b := fun a b h1 h2 h3 h4 h5 => by
        rw [hω.1 a b h2 h3 h4, up_n (by omega), up_n (by omega), up_n (by omega), t33 a h5]
      have w : ∀ a b, a ≠ 1 → a ≠ 2 → ¬ (4 ≤ a ∧ a < 8) → ¬ (9 ≤ a ∧ a < 13) → a ≠ 13 → ¬ (18 ≤ a ∧ a ≤ 20) → a ≠ 21 → a ≠ 33 → ¬ (a = 0 ∧ b = 7) → σ1 a b = σ a b := fun a b h1 h2 h3 h4 h5 h6 h7 h8 h9 => by
        rw [e1, up_n h9, up_row h7]
        unfold forgF
        rw [begF_row (by omega) (by omega) (by omega), up_row h5]
        exact wo a b h1 h2 h3 h4 h8
      have wl : ∀ a b, 1 ≤ a → a < 13 → σ1 a b = ω a b := fun a b h1 h2 => by
        rw [e1, up_n (by omega), up_row (by omega)]
        unfold forgF
        rw [begF_row (by omega) (by omega) (by omega), up_row (by omega)]
      have w10 : σ1 1 0 = nI S' := by
        rw [wl 1 0 (by decide) (by decide), hω.1 1 0 (by decide) (by decide) (by decide), up_n (by omega), up_n (by omega), up_s]
      have w11 : σ1 1 1 = nI M' := by
        rw [wl 1 1 (by decide) (by decide), hω.1 1 1 (by decide) (by decide) (by decide), up_n (by omega), up_s]
      have w12 : σ1 1 2 = 3 := by
        rw [wl 1 2 (by decide) (by decide), hω.1 1 2 (by decide) (by decide) (by decide), up_s]
      have w13 : σ1 13 4 = nI 0 := by
        rw [e1, up_n (by omega), up_n (by omega)]
        unfold forgF
        rw [begF_row (by omega) (by omega) (by omega), up_s]; rfl
      have w21 : σ1 21 4 = nI 0 := by
        rw [e1, up_n (by omega), up_s]; rfl
      have w07 : σ1 0 7 = 0 := by rw [e1, up_s]
      have wd : dcR 17 σ1 dy0 := by
        have g := dc_beg (t := 17) (σ := up ω 13 4 0)
        have e : ∀ a, a ≠ 0 → a ≠ 21 → σ1 a = begF 17 (up ω 13 4 0) a := fun a h1 h2 => by rw [e1, up_row h1, up_row h2]; rfl
        refine ⟨fun m hm => ?_, fun s hs => ?_⟩
        · rw [e _ (by omega) (by omega), e _ (by omega) (by omega)]; exact g.1 m hm
        · rw [e _ (by omega) (by omega)]; exact g.2 s hs
      have r2 : ∀ a, 42 ≤ a → σ1 a = σ a := fun a ha => by
        funext b
        exact w a b (by omega) (by omega) (by omega) (by omega) (by omega) (by omega) (by omega) (by omega) (by omega)
      have hSω := hSt.r r2
      refine ⟨_, k_valley σ1 hSω.szOK k l i n d (by omega), fun u σ2 hk => ?_⟩
      have hcc : ∀ j, j < cl n → τ 33 j = ceM σ1 k i j := fun j hj => by
        rw [hτ j hj, ce_eq hSω q1 q3 j hj]
      rcases hk with ⟨hn2, -⟩ | ⟨-, -, -, p2, hp2, -, hk⟩
      · exact absurd ⟨q1, q2, by rw [fc_eq hSω q1]; exact q3⟩ hn2
      · have ep := fstP_uniq (fstP_cg hcc hp) hp2
        subst ep
        rcases hk with ⟨ht2, eu, τ2, hv, e2⟩ | ⟨ht2, -⟩
        · have d1 : dS (ceM σ1 k i) = S' := by rw [← hS']; unfold dS; rw [hcc 1 (by have := ht.1; have := ht.2.1; omega)]
          have d2 : dM (ceM σ1 k i) = M' := by rw [← hM']; unfold dM; rw [hcc 2 (by have := ht.1; have := ht.2.1; omega)]
          rw [d1, d2] at hv
          obtain ⟨-, -, ⟨x1, x2⟩, v1, v2, v6, v13, v20, hvc⟩ := hv
          refine ⟨by rw [eu, ev, d2], ?_⟩
          have y : ∀ a, a ≠ 42 → ¬ (43 ≤ a ∧ a ≤ 48) → σ2 a = σ1 a := fun a h1 h2 => by rw [e2, up_row h1, x1 a h1 h2]
          have y42 : ∀ j, j ≠ 0 → σ2 42 j = τ2 42 j := fun j hj => by rw [e2, up_n (by omega)]
          have y0 : σ2 42 0 = 0 := by rw [e2, up_s]
          have yr : ∀ a, a ≠ 42 → σ2 a = τ2 a := fun a h1 => by rw [e2, up_row h1]
          have told : ∀ m, m < M' → (σ2 2 m = σ2 43 m ∧ ∃ j, j < 3 ∧ σ2 43 m = nI j) ∧ ∀ s, s < S' → (σ2 (4 + m) s = σ2 44 (6 * m + s) ∧ ∃ j, j ≤ 9 ∧ σ2 44 (6 * m + s) = nI j) ∧ (σ2 (9 + m) s = σ2 45 (6 * m + s) ∧ ∃ j, j ≤ 9 ∧ σ2 45 (6 * m + s) = nI j) := fun m hm => by
            obtain ⟨⟨f1, f2⟩, f3⟩ := hfx m hm
            obtain ⟨g1, g2⟩ := hω.2 m hm
            obtain ⟨c1, c2⟩ := hvc m hm
            refine ⟨?_, fun s hs => ?_⟩
            · rw [y 2 (by decide) (by decide), wl 2 m (by decide) (by decide), g1, yr 43 (by decide), c1, ← hcc _ f1]
              exact ⟨rfl, f2⟩
            · obtain ⟨⟨f4, f5⟩, f6, f7⟩ := f3 s hs
              obtain ⟨g3, g4⟩ := g2 s hs
              obtain ⟨c3, c4⟩ := c2 s hs
              rw [y (4 + m) (by omega) (by omega), wl (4 + m) s (by omega) (by omega), g3, yr 44 (by decide), c3, ← hcc _ f4, y (9 + m) (by omega) (by omega), wl (9 + m) s (by omega) (by omega), g4, yr 45 (by decide), c4, ← hcc _ f6]
              exact ⟨⟨rfl, f5⟩, rfl, f7⟩
          have z : ∀ a b, a ≠ 1 → a ≠ 2 → ¬ (4 ≤ a ∧ a < 8) → ¬ (9 ≤ a ∧ a < 13) → a ≠ 13 → ¬ (18 ≤ a ∧ a ≤ 20) → a ≠ 21 → a ≠ 33 → ¬ (a = 0 ∧ b = 7) → a ≠ 42 → ¬ (43 ≤ a ∧ a ≤ 48) → σ2 a b = σ a b := fun a b h1 h2 h3 h4 h5 h6 h7 h8 h9 h10 h11 => by
            rw [y a h10 h11]; exact w a b h1 h2 h3 h4 h5 h6 h7 h8 h9
          refine ⟨S', M', 0, 0, so, mo, rm, rs, ?_, ?_, fun _ => ⟨?_, fun j hj => absurd hj (by omega)⟩, ?_, ?_, ?_⟩
          · refine ⟨⟨?_, ?_⟩, ⟨?_, ?_⟩, ⟨hS6, hM4, fun _ => hS1⟩, ?_, fun m hm => (told m hm).1, fun m hm s hs => ⟨((told m hm).2 s hs).1.1, ((told m hm).2 s hs).2.1⟩, fun m hm s hs => ⟨((told m hm).2 s hs).1.2, ((told m hm).2 s hs).2.2⟩⟩
            · rw [y 1 (by decide) (by decide)]; exact w10
            · rw [y 1 (by decide) (by decide)]; exact w11
            · rw [y42 1 (by decide)]; exact v1
            · rw [y42 2 (by decide)]; exact v2
            · rw [y 1 (by decide) (by decide), w12, y42 6 (by decide), v6]
          · exact ⟨by rw [y 13 (by decide) (by decide)]; exact w13, by rw [y42 13 (by decide)]; exact v13, by omega, fun j hj => absurd hj (by omega)⟩
          · have e : ∀ a, 18 ≤ a → a ≤ 20 → σ2 a = σ1 a := fun a h1 h2 => y a (by omega) (by omega)
            refine ⟨fun m hm => ?_, fun s hs => ?_⟩
            · rw [e _ (by omega) (by omega), e _ (by omega) (by omega)]; exact wd.1 m hm
            · rw [e _ (by omega) (by omega)]; exact wd.2 s hs
          · exact ⟨by rw [y 21 (by decide) (by decide)]; exact w21, by rw [y42 20 (by decide)]; exact v20, by omega, fun j hj => absurd hj (by omega)⟩
          · exact hSt.cg (fun a h1 h2 => by funext b; exact z a b (by omega) (by omega) (by omega) (by omega) (by omega) (by omega) (by omega) (by omega) (by omega) (by omega) (by omega)) (fun a h1 h2 => by funext b; exact z a b (by omega) (by omega) (by omega) (by omega) (by omega) (by omega) (by omega) (by omega) (by omega) (by omega) (by omega))
          · refine ⟨?_, ?_⟩
            · rw [z 0 6 (by omega) (by omega) (by omega) (by omega) (by omega) (by omega) (by omega) (by omega) (by omega) (by omega) (by omega), y42 29 (by decide), x2 29 (by decide) (by decide) (by decide) (by decide) (by decide) (by decide), r2 42 (by decide)]; exact hT.1
            · rw [y 0 (by decide) (by decide), w07, y0]
        · exact absurd ((tkn_cg hcc).mp ht) ht2
    · have r2 : ∀ a, 42 ≤ a → σ1 a = σ a := fun a ha => by rw [e1, up_row (by omega), t33 a (by omega)]
      have hSω := hSt.r r2
      refine ⟨_, k_valley σ1 hSω.szOK k l i n d (by omega), fun u σ2 hk => ?_⟩
      have hcc : ∀ j, j < cl n → τ 33 j = ceM σ1 k i j := fun j hj => by
        rw [hτ j hj, ce_eq hSω q1 q3 j hj]
      rcases hk with ⟨hn2, -⟩ | ⟨-, -, -, p2, hp2, -, hk⟩
      · exact absurd ⟨q1, q2, by rw [fc_eq hSω q1]; exact q3⟩ hn2
      · have ep := fstP_uniq (fstP_cg hcc hp) hp2
        subst ep
        rcases hk with ⟨ht2, -⟩ | ⟨ht2, eu, τ2, ⟨x1, x2⟩, e2⟩
        · exact absurd ((tkn_cg hcc).mpr ht2) ht
        · refine ⟨by rw [eu, ev], ?_⟩
          refine h.sm (fun a ha => ?_) ?_ (fun j hj => ?_) ?_
          · unfold scr at ha
            rw [e2, up_row (by omega), x1 a (by omega) (by omega) (by omega) (by omega), e1, up_row (by omega), t33 a (by omega)]
          · rw [e2, up_n (by omega), x1 0 (by decide) (by decide) (by decide) (by decide), e1, up_n (by omega), t33 0 (by decide)]
          · rw [e2, up_n (by omega), x2 j (by omega) (by omega) (by omega), r2 42 (by decide)]
          · rw [e2, up_n (by omega), x1 0 (by decide) (by decide) (by decide) (by decide), e1, up_s, up_s]

/-! ===== class and reference, held together (2): what changes offers, readings, the trace ===== -/
section I2
variable {σ τ ω σ' τ' : Mem} {S M C R : Nat} {so mo rm rs : Nat → Nat}
theorem iV.r (h : iV σ τ S M) (r2 : ∀ a, 42 ≤ a → ω a = τ a) : iV σ ω S M := h.cg (fun _ _ _ => rfl) (fun a h1 _ => r2 a (by omega)) (fun j _ => congrFun (r2 42 (by decide)) j)
theorem iO.r (h : iO σ τ S M C so mo) (r2 : ∀ a, 42 ≤ a → ω a = τ a) : iO σ ω S M C so mo := h.cg rfl rfl rfl (congrFun (r2 42 (by decide)) 13) (r2 49 (by decide)) (r2 50 (by decide))
theorem iR.r (h : iR σ τ S M R rm rs) (r2 : ∀ a, 42 ≤ a → ω a = τ a) : iR σ ω S M R rm rs := h.cg rfl (fun _ _ _ => rfl) (congrFun (r2 42 (by decide)) 20) (fun a _ _ => r2 a (by omega))
theorem iS.r (h : iS σ τ) (r2 : ∀ a, 42 ≤ a → ω a = τ a) : iS σ ω := h.cg (fun _ _ _ => rfl) (fun a _ _ => r2 a (by omega))
theorem iD_go {L : LT} (hS : S ≤ 6) (hM : M ≤ 4) (hO : ∀ j, j < C → so j < S ∧ mo j < M) (hL : lcE (lC σ) L S M) : iD (goF σ so mo C) L M C so mo := fun _ => by
  obtain ⟨g1, g2⟩ := dc_go (σ := σ) (so := so) (mo := mo) C (fun j hj => by have := hO j hj; omega)
  have e : ∀ k, k ≤ C → dyN (lC σ) so mo k = dyN L so mo k := fun k hk => dyN_cg hL.1 k (fun j hj => by
    obtain ⟨a, b⟩ := hO j (by omega)
    exact ⟨rfl, rfl, (hL.2 _ b).1, (hL.2 _ b).2 _ a⟩)
  rw [e C (Nat.le_refl _)] at g1
  refine ⟨g1, fun j hj => ?_⟩
  obtain ⟨a, b⟩ := hO j hj
  rw [g2 j hj, e j (by omega), (dyS_cg (D := dyN L so mo j) hL.1 (hL.2 _ b).1 ((hL.2 _ b).2 _ a)).2]
theorem iO.lt2 (h : iO σ τ S M C so mo) : ∀ j, j < C → so j < S ∧ mo j < M := fun k hk => by
  obtain ⟨a, b, c, e, f, g⟩ := h.2.2.2 k hk
  exact ⟨f, g⟩
theorem iV.of (h : iV σ τ S M) (h1 : σ' 1 0 = σ 1 0 ∧ σ' 1 1 = σ 1 1) (h2 : σ' 2 = σ 2) (h3 : τ' 43 = τ 43) (h4 : τ' 42 1 = τ 42 1 ∧ τ' 42 2 = τ 42 2) (h5 : σ' 1 2 = τ' 42 6) (h6 : fm_E (kC σ') (kR τ') S M) (h7 : lk9 (kR τ') S M) : iV σ' τ' S M := by
  obtain ⟨a, b, c, e, f, g, i⟩ := h
  exact ⟨by rw [h1.1, h1.2]; exact a, by rw [h4.1, h4.2]; exact b, c, h5, fun m hm => by rw [h2, h3]; exact f m hm, h6, h7⟩
end I2
theorem t_like {σ : Mem} (h : INV σ) (x y z v : Int32) {d : Nat} (hd : 12 ≤ d) : TWi d mX7_like mX8_like [.int x, .int y, .int z, .int v] σ := by
  obtain ⟨S, M, C, R, so, mo, rm, rs, hV, hO, hD, hR, hSt, hT⟩ := id h
  have hS6 := hV.2.2.1.1
  have hM4 := hV.2.2.1.2.1
  have c := c_like σ S M C so mo hV.VA (hO.OF hV) x y z v d (by omega)
  have k := k_like σ S M hV.VM x y z v d (by omega)
  by_cases hx : hMm σ x
  · by_cases hy : hSm σ y
    · have hx2 : hM σ x := by rw [hV.eM]; exact hx
      have hy2 : hS σ y := by rw [hV.eS]; exact hy
      obtain ⟨ex, hm, hm4⟩ := hV.cM hx
      obtain ⟨ey, hs, hs6⟩ := hV.cS hy
      by_cases hz : z = 0 ∨ z = 1
      · have hl : ∃ j, j ≤ 9 ∧ likesF σ x y z = nI j := by
          unfold likesF
          rw [cnd_t hx2, cnd_t hy2]
          obtain ⟨⟨i, hi, e1⟩, j, hj, e2⟩ := hV.h9 _ hm _ hs
          by_cases z0 : z = 0
          · rw [cnd_t z0, hV.her hm hs]; exact ⟨i, hi, e1⟩
          · rw [cnd_f z0, cnd_t (hz.resolve_left z0), hV.his hm hs]; exact ⟨j, hj, e2⟩
        obtain ⟨j, hj, el⟩ := hl
        have nl : ¬ likesF σ x y z < 0 := by rw [el]; exact nI_pos (by omega)
        by_cases hv : 0 ≤ v ∧ v ≤ 9
        · rw [cnd_f nl, cnd_t hv, cnd_f nl, cnd_t hv] at c
          have r1 : ∀ a, a ≠ 18 → a ≠ 19 → a ≠ 20 → a ≠ 16 → a ≠ 4 + cl x → a ≠ 9 + cl x → goF (up σ (cnd (z = 0) (4 + cl x) (9 + cl x)) (cl y) v) so mo C a = σ a := fun a h1 h2 h3 h4 h5 h6 => by
            rw [goF_row _ so mo h1 h2 h3 h4 C]
            refine up_row ?_
            by_cases z0 : z = 0
            · rw [cnd_t z0]; exact h5
            · rw [cnd_f z0]; exact h6
          have r2 : ∀ a, 42 ≤ a → goF (up σ (cnd (z = 0) (4 + cl x) (9 + cl x)) (cl y) v) so mo C a = σ a := fun a ha => r1 a (by omega) (by omega) (by omega) (by omega) (by omega) (by omega)
          have r3 : ∀ a, a < 13 → goF (up σ (cnd (z = 0) (4 + cl x) (9 + cl x)) (cl y) v) so mo C a = up σ (cnd (z = 0) (4 + cl x) (9 + cl x)) (cl y) v a := fun a ha => goF_row _ so mo (by omega) (by omega) (by omega) (by omega) C
          have hL0 : lcE (lC (up σ (cnd (z = 0) (4 + cl x) (9 + cl x)) (cl y) v)) (lR (cnd (z = 0) (up σ 44 (6 * cl x + cl y) v) (up σ 45 (6 * cl x + cl y) v))) S M := by
            by_cases z0 : z = 0
            · rw [cnd_t z0, cnd_t z0]
              refine ⟨?_, fun m hm2 => ⟨?_, fun s hs2 => ?_⟩⟩
              · show up σ (4 + cl x) (cl y) v 1 2 = up σ 44 (6 * cl x + cl y) v 42 6
                rw [up_n (by omega), up_n (by omega)]; exact hV.law
              · show up σ (4 + cl x) (cl y) v 2 m = up σ 44 (6 * cl x + cl y) v 43 m
                rw [up_n (by omega), up_n (by omega)]; exact hV.kd hm2
              · show up σ (4 + cl x) (cl y) v (4 + m) s = up σ 44 (6 * cl x + cl y) v 44 (6 * m + s)
                by_cases e : m = cl x ∧ s = cl y
                · rw [e.1, e.2, up_s, up_s]
                · rw [up_n (by omega), up_n (by omega)]; exact hV.her hm2 hs2
            · rw [cnd_f z0, cnd_f z0]
              refine ⟨?_, fun m hm2 => ⟨?_, fun s hs2 => ?_⟩⟩
              · show up σ (9 + cl x) (cl y) v 1 2 = up σ 45 (6 * cl x + cl y) v 42 6
                rw [up_n (by omega), up_n (by omega)]; exact hV.law
              · show up σ (9 + cl x) (cl y) v 2 m = up σ 45 (6 * cl x + cl y) v 43 m
                rw [up_n (by omega), up_n (by omega)]; exact hV.kd hm2
              · show up σ (9 + cl x) (cl y) v (4 + m) s = up σ 45 (6 * cl x + cl y) v 44 (6 * m + s)
                rw [up_n (by omega), up_n (by omega)]; exact hV.her hm2 hs2
          have hDn := iD_go (L := lR (cnd (z = 0) (up σ 44 (6 * cl x + cl y) v) (up σ 45 (6 * cl x + cl y) v))) hS6 hM4 hO.lt2 hL0
          have hK9 : ∀ s, s < S → ∀ m, m < M → up σ (cnd (z = 0) (4 + cl x) (9 + cl x)) (cl y) v (4 + m) s = cnd (z = 0) (up σ 44 (6 * cl x + cl y) v) (up σ 45 (6 * cl x + cl y) v) 44 (6 * m + s) := fun s hs2 m hm2 => (hL0.2 m hm2).2 s hs2
          have hK8 : ∀ s, s < S → ∀ m, m < M → up σ (cnd (z = 0) (4 + cl x) (9 + cl x)) (cl y) v (9 + m) s = cnd (z = 0) (up σ 44 (6 * cl x + cl y) v) (up σ 45 (6 * cl x + cl y) v) 45 (6 * m + s) := fun s hs2 m hm2 => by
            by_cases z0 : z = 0
            · rw [cnd_t z0, cnd_t z0, up_n (by omega), up_n (by omega)]; exact hV.his hm2 hs2
            · rw [cnd_f z0, cnd_f z0]
              by_cases e : m = cl x ∧ s = cl y
              · rw [e.1, e.2, up_s, up_s]
              · rw [up_n (by omega), up_n (by omega)]; exact hV.his hm2 hs2
          have h9 : lk9 (kR (cnd (z = 0) (up σ 44 (6 * cl x + cl y) v) (up σ 45 (6 * cl x + cl y) v))) S M := fun m hm2 s hs2 => by
            obtain ⟨i1, i2⟩ := hV.h9 m hm2 s hs2
            obtain ⟨w, ew, hw⟩ := in9_n hv
            by_cases z0 : z = 0
            · rw [cnd_t z0]
              refine ⟨?_, ?_⟩
              · show ∃ j, j ≤ 9 ∧ up σ 44 (6 * cl x + cl y) v 44 (6 * m + s) = nI j
                by_cases e : 6 * m + s = 6 * cl x + cl y
                · rw [e, up_s]; exact ⟨w, by omega, ew⟩
                · rw [up_n (by omega)]; exact i1
              · show ∃ j, j ≤ 9 ∧ up σ 44 (6 * cl x + cl y) v 45 (6 * m + s) = nI j
                rw [up_n (by omega)]; exact i2
            · rw [cnd_f z0]
              refine ⟨?_, ?_⟩
              · show ∃ j, j ≤ 9 ∧ up σ 45 (6 * cl x + cl y) v 44 (6 * m + s) = nI j
                rw [up_n (by omega)]; exact i1
              · show ∃ j, j ≤ 9 ∧ up σ 45 (6 * cl x + cl y) v 45 (6 * m + s) = nI j
                by_cases e : 6 * m + s = 6 * cl x + cl y
                · rw [e, up_s]; exact ⟨w, by omega, ew⟩
                · rw [up_n (by omega)]; exact i2
          have rl : ∀ a, a ≠ 44 → a ≠ 45 → cnd (z = 0) (up σ 44 (6 * cl x + cl y) v) (up σ 45 (6 * cl x + cl y) v) a = σ a := fun a h1 h2 => cnd_in (fun ω : Mem => ω a = σ a) (fun _ => up_row h1) (fun _ => up_row h2)
          generalize hρ : cnd (z = 0) (up σ 44 (6 * cl x + cl y) v) (up σ 45 (6 * cl x + cl y) v) = ρ at hL0 hDn hK9 hK8 h9 rl
          generalize hω : goF (up σ (cnd (z = 0) (4 + cl x) (9 + cl x)) (cl y) v) so mo C = ω at c r1 r2 r3 hDn
          have hVω := hV.r r2
          have k2 := k_like ω S M hVω.VM x y z v d (by omega)
          have hx3 : hMm ω x := by rw [← hVω.eM]; exact hx2
          have hy3 : hSm ω y := by rw [← hVω.eS]; exact hy2
          rw [cnd_t hx3, cnd_t hy3, cnd_t hz, cnd_t hv, cnd_t hx3, cnd_t hy3, cnd_t hz, cnd_t hv] at k2
          have rz : ∀ a, a ≠ 44 → a ≠ 45 → cnd (z = 0) (up ω 44 (6 * cl x + cl y) v) (up ω 45 (6 * cl x + cl y) v) a = ω a := fun a h1 h2 => cnd_in (fun ξ : Mem => ξ a = ω a) (fun _ => up_row h1) (fun _ => up_row h2)
          have rk : ∀ a, 42 ≤ a → cnd (z = 0) (up ω 44 (6 * cl x + cl y) v) (up ω 45 (6 * cl x + cl y) v) a = ρ a := fun a ha => by
            rw [← hρ]
            by_cases z0 : z = 0
            · rw [cnd_t z0, cnd_t z0]
              by_cases e : a = 44
              · subst e; unfold up; rw [upR_s, upR_s, r2 44 ha]
              · rw [up_row e, up_row e, r2 a ha]
            · rw [cnd_f z0, cnd_f z0]
              by_cases e : a = 45
              · subst e; unfold up; rw [upR_s, upR_s, r2 45 ha]
              · rw [up_row e, up_row e, r2 a ha]
          refine TWi.g c k2 ?_ (fun σ2 e => ?_)
          · unfold likesF
            rw [cnd_t hx2, cnd_t hy2]
            by_cases z0 : z = 0
            · rw [cnd_t z0, cnd_t z0]; exact (hVω.her hm hs).symm
            · rw [cnd_f z0, cnd_f z0, cnd_t (hz.resolve_left z0)]; exact (hVω.his hm hs).symm
          · rw [e]
            generalize hξ : cnd (z = 0) (up ω 44 (6 * cl x + cl y) v) (up ω 45 (6 * cl x + cl y) v) = ξ at rz rk
            have q : ∀ a, a ≠ 18 → a ≠ 19 → a ≠ 20 → a ≠ 16 → a ≠ 44 → a ≠ 45 → a ≠ 4 + cl x → a ≠ 9 + cl x → ξ a = σ a := fun a h1 h2 h3 h4 h5 h6 h7 h8 => (rz a h5 h6).trans (r1 a h1 h2 h3 h4 h7 h8)
            have ek : kR ξ = kR ρ := by unfold kR; rw [rk 44 (by decide), rk 45 (by decide)]
            have elr : lR ξ = lR ρ := lR_cg (congrFun (rk 42 (by decide)) 6) (rk 43 (by decide)) (rk 44 (by decide))
            refine ⟨S, M, C, R, so, mo, rm, rs, ?_, ?_, ?_, ?_, ?_, ?_⟩
            · refine hV.of ?_ (q 2 (by omega) (by omega) (by omega) (by omega) (by omega) (by omega) (by omega) (by omega)) (q 43 (by omega) (by omega) (by omega) (by omega) (by omega) (by omega) (by omega) (by omega)) ?_ ?_ ?_ ?_
              · rw [q 1 (by omega) (by omega) (by omega) (by omega) (by omega) (by omega) (by omega) (by omega)]; exact ⟨rfl, rfl⟩
              · rw [q 42 (by omega) (by omega) (by omega) (by omega) (by omega) (by omega) (by omega) (by omega)]; exact ⟨rfl, rfl⟩
              · rw [q 42 (by omega) (by omega) (by omega) (by omega) (by omega) (by omega) (by omega) (by omega), q 1 (by omega) (by omega) (by omega) (by omega) (by omega) (by omega) (by omega) (by omega)]; exact hV.law
              · rw [ek]
                refine fun m hm2 s hs2 => ⟨?_, ?_⟩
                · show ξ (4 + m) s = _
                  rw [rz (4 + m) (by omega) (by omega), r3 (4 + m) (by omega)]; exact hK9 s hs2 m hm2
                · show ξ (9 + m) s = _
                  rw [rz (9 + m) (by omega) (by omega), r3 (9 + m) (by omega)]; exact hK8 s hs2 m hm2
              · rw [ek]; exact h9
            · exact hO.cg (congrFun (q 13 (by omega) (by omega) (by omega) (by omega) (by omega) (by omega) (by omega) (by omega)) 4) (q 14 (by omega) (by omega) (by omega) (by omega) (by omega) (by omega) (by omega) (by omega)) (q 15 (by omega) (by omega) (by omega) (by omega) (by omega) (by omega) (by omega) (by omega)) (congrFun (q 42 (by omega) (by omega) (by omega) (by omega) (by omega) (by omega) (by omega) (by omega)) 13) (q 49 (by omega) (by omega) (by omega) (by omega) (by omega) (by omega) (by omega) (by omega)) (q 50 (by omega) (by omega) (by omega) (by omega) (by omega) (by omega) (by omega) (by omega))
            · exact hDn.cg (fun a ha => rz a (by omega) (by omega)) elr
            · exact hR.cg (congrFun (q 21 (by omega) (by omega) (by omega) (by omega) (by omega) (by omega) (by omega) (by omega)) 4) (fun a _ _ => q a (by omega) (by omega) (by omega) (by omega) (by omega) (by omega) (by omega) (by omega)) (congrFun (q 42 (by omega) (by omega) (by omega) (by omega) (by omega) (by omega) (by omega) (by omega)) 20) (fun a _ _ => q a (by omega) (by omega) (by omega) (by omega) (by omega) (by omega) (by omega) (by omega))
            · exact hSt.cg (fun a _ _ => q a (by omega) (by omega) (by omega) (by omega) (by omega) (by omega) (by omega) (by omega)) (fun a _ _ => q a (by omega) (by omega) (by omega) (by omega) (by omega) (by omega) (by omega) (by omega))
            · unfold iT
              rw [q 0 (by omega) (by omega) (by omega) (by omega) (by omega) (by omega) (by omega) (by omega), q 42 (by omega) (by omega) (by omega) (by omega) (by omega) (by omega) (by omega) (by omega)]; exact hT
        · rw [cnd_f nl, cnd_f hv, cnd_f nl, cnd_f hv] at c
          rw [cnd_t hx, cnd_t hy, cnd_t hz, cnd_f hv, cnd_t hx, cnd_t hy, cnd_t hz, cnd_f hv] at k
          exact TWi.g c k rfl (fun σ2 e => h.eq e)
      · have el : likesF σ x y z = -2 := by
          unfold likesF
          rw [cnd_t hx2, cnd_t hy2, cnd_f (fun e => hz (Or.inl e)), cnd_f (fun e => hz (Or.inr e))]
        rw [el, cnd_t (by decide), cnd_t (by decide)] at c
        rw [cnd_t hx, cnd_t hy, cnd_f hz, cnd_t hx, cnd_t hy, cnd_f hz] at k
        exact TWi.g c k rfl (fun σ2 e => h.eq e)
    · have el : likesF σ x y z = -1 := by
        unfold likesF
        rw [hV.eM, hV.eS, cnd_t hx, cnd_f hy]
      rw [el, cnd_t (by decide), cnd_t (by decide)] at c
      rw [cnd_t hx, cnd_f hy, cnd_t hx, cnd_f hy] at k
      exact TWi.g c k rfl (fun σ2 e => h.eq e)
  · have el : likesF σ x y z = -1 := by
      unfold likesF
      rw [hV.eM, cnd_f hx]
    rw [el, cnd_t (by decide), cnd_t (by decide)] at c
    rw [cnd_f hx, cnd_f hx] at k
    exact TWi.g c k rfl (fun σ2 e => h.eq e)
theorem t_law {σ : Mem} (h : INV σ) (v : Int32) {d : Nat} (hd : 12 ≤ d) : TWi d mX7_law mX8_law [.int v] σ := by
  obtain ⟨S, M, C, R, so, mo, rm, rs, hV, hO, hD, hR, hSt, hT⟩ := id h
  have hS6 := hV.2.2.1.1
  have hM4 := hV.2.2.1.2.1
  have c := c_law σ S M C so mo hV.VA (hO.OF hV) v d (by omega)
  have k := k_law σ v d (by omega)
  by_cases hv : 0 ≤ v ∧ v ≤ 9
  · by_cases q : 0 < σ 1 1
    · rw [cnd_t hv, cnd_t q, cnd_t hv, cnd_t q] at c
      have r1 : ∀ a, a ≠ 18 → a ≠ 19 → a ≠ 20 → a ≠ 16 → goF (up σ 1 2 v) so mo C a = up σ 1 2 v a := fun a h1 h2 h3 h4 => goF_row _ so mo h1 h2 h3 h4 C
      have r2 : ∀ a, 42 ≤ a → goF (up σ 1 2 v) so mo C a = σ a := fun a ha => (r1 a (by omega) (by omega) (by omega) (by omega)).trans (up_row (by omega))
      have hL0 : lcE (lC (up σ 1 2 v)) (lR (up σ 42 6 v)) S M := by
        refine ⟨?_, fun m hm2 => ⟨?_, fun s hs2 => ?_⟩⟩
        · show up σ 1 2 v 1 2 = up σ 42 6 v 42 6
          rw [up_s, up_s]
        · show up σ 1 2 v 2 m = up σ 42 6 v 43 m
          rw [up_n (by omega), up_n (by omega)]; exact hV.kd hm2
        · show up σ 1 2 v (4 + m) s = up σ 42 6 v 44 (6 * m + s)
          rw [up_n (by omega), up_n (by omega)]; exact hV.her hm2 hs2
      have hDn := iD_go hS6 hM4 hO.lt2 hL0
      generalize hω : goF (up σ 1 2 v) so mo C = ω at c r1 r2 hDn
      have hVω := hV.r r2
      have k2 := k_law ω v d (by omega)
      have q2 : ¬ ω 42 2 = 0 := hVω.st.mp q
      rw [cnd_t hv, cnd_f q2, cnd_t hv, cnd_f q2] at k2
      refine TWi.g c k2 hVω.law.symm (fun σ2 e => ?_)
      rw [e]
      have p : ∀ a, a ≠ 18 → a ≠ 19 → a ≠ 20 → a ≠ 16 → a ≠ 42 → a ≠ 1 → up ω 42 6 v a = σ a := fun a h1 h2 h3 h4 h5 h6 => (up_row h5).trans ((r1 a h1 h2 h3 h4).trans (up_row h6))
      have p42 : ∀ j, j ≠ 6 → up ω 42 6 v 42 j = σ 42 j := fun j hj => (up_n (by omega)).trans (congrFun (r2 42 (by decide)) j)
      have p1 : ∀ j, j ≠ 2 → up ω 42 6 v 1 j = σ 1 j := fun j hj => (up_n (by omega)).trans ((congrFun (r1 1 (by decide) (by decide) (by decide) (by decide)) j).trans (up_n (by omega)))
      have ek : kR (up ω 42 6 v) = kR σ := by unfold kR; rw [p 44 (by decide) (by decide) (by decide) (by decide) (by decide) (by decide), p 45 (by decide) (by decide) (by decide) (by decide) (by decide) (by decide)]
      refine ⟨S, M, C, R, so, mo, rm, rs, ?_, ?_, ?_, ?_, ?_, ?_⟩
      · refine hV.of ⟨p1 0 (by decide), p1 1 (by decide)⟩ (p 2 (by omega) (by omega) (by omega) (by omega) (by omega) (by omega)) (p 43 (by omega) (by omega) (by omega) (by omega) (by omega) (by omega)) ⟨p42 1 (by decide), p42 2 (by decide)⟩ ?_ ?_ (by rw [ek]; exact hV.h9)
        · rw [up_s, up_n (by omega), r1 1 (by decide) (by decide) (by decide) (by decide), up_s]
        · rw [ek]
          exact fm_E_row hM4 hV.hE (fun a h1 h2 => p a (by omega) (by omega) (by omega) (by omega) (by omega) (by omega))
      · exact hO.cg (congrFun (p 13 (by omega) (by omega) (by omega) (by omega) (by omega) (by omega)) 4) (p 14 (by omega) (by omega) (by omega) (by omega) (by omega) (by omega)) (p 15 (by omega) (by omega) (by omega) (by omega) (by omega) (by omega)) (p42 13 (by decide)) (p 49 (by omega) (by omega) (by omega) (by omega) (by omega) (by omega)) (p 50 (by omega) (by omega) (by omega) (by omega) (by omega) (by omega))
      · exact hDn.cg (fun a ha => up_row (by omega)) (lR_cg (by rw [up_s, up_s]) ((p 43 (by omega) (by omega) (by omega) (by omega) (by omega) (by omega)).trans (up_row (by decide)).symm) ((p 44 (by omega) (by omega) (by omega) (by omega) (by omega) (by omega)).trans (up_row (by decide)).symm))
      · exact hR.cg (congrFun (p 21 (by omega) (by omega) (by omega) (by omega) (by omega) (by omega)) 4) (fun a _ _ => p a (by omega) (by omega) (by omega) (by omega) (by omega) (by omega)) (p42 20 (by decide)) (fun a _ _ => p a (by omega) (by omega) (by omega) (by omega) (by omega) (by omega))
      · exact hSt.cg (fun a _ _ => p a (by omega) (by omega) (by omega) (by omega) (by omega) (by omega)) (fun a _ _ => p a (by omega) (by omega) (by omega) (by omega) (by omega) (by omega))
      · unfold iT
        rw [p 0 (by omega) (by omega) (by omega) (by omega) (by omega) (by omega), p42 29 (by decide), p42 0 (by decide)]; exact hT
    · rw [cnd_t hv, cnd_f q, cnd_t hv, cnd_f q] at c
      have q2 : σ 42 2 = 0 := Classical.byContradiction (fun z => q (hV.st.mpr z))
      rw [cnd_t hv, cnd_t q2, cnd_t hv, cnd_t q2] at k
      exact TWi.g c k rfl (fun σ2 e => h.eq e)
  · rw [cnd_f hv, cnd_f hv] at c
    rw [cnd_f hv, cnd_f hv] at k
    exact TWi.g c k rfl (fun σ2 e => h.eq e)

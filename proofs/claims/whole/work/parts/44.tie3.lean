/-! ===== class and reference, held together (3): offers, readings, the trace ===== -/
theorem t_offer {σ : Mem} (h : INV σ) (y x : Int32) {d : Nat} (hd : 12 ≤ d) : TWi d mX7_offer mX8_offer [.int y, .int x] σ := by
  obtain ⟨S, M, C, R, so, mo, rm, rs, hV, hO, hD, hR, hSt, hT⟩ := id h
  have hS6 := hV.2.2.1.1
  have hM4 := hV.2.2.1.2.1
  have hC24 := hO.2.2.1
  have c := c_offer σ S M C so mo hV.VA (hO.OF hV) y x d (by omega)
  have k := k_offer σ S M C so mo hV.VM (hO.OFm hV) y x d (by omega)
  by_cases hy : hSm σ y
  · by_cases hx : hMm σ x
    · have hx2 : hM σ x := by rw [hV.eM]; exact hx
      have hy2 : hS σ y := by rw [hV.eS]; exact hy
      obtain ⟨ex, hm, hm4⟩ := hV.cM hx
      obtain ⟨ey, hs, hs6⟩ := hV.cS hy
      by_cases q : C < 24
      · rw [cnd_t hy2, cnd_t hx2, cnd_t q, cnd_t hy2, cnd_t hx2, cnd_t q] at c
        have r1 : ∀ a, a ≠ 13 → ¬ (14 ≤ a ∧ a ≤ 20) → addF σ C (cl y) (cl x) a = σ a := fun a h1 h2 => addF_row h1 h2
        have r2 : ∀ a, 42 ≤ a → addF σ C (cl y) (cl x) a = σ a := fun a ha => r1 a (by omega) (by omega)
        have hM0 : 0 < M := by omega
        obtain ⟨d1, d2⟩ := hD hM0
        obtain ⟨g1, g2, g3⟩ := dc_add (C := C) hs6 hm4 d1
        rw [(dyS_cg (L := lC σ) (L2 := lR σ) (D := dyN (lR σ) so mo C) hV.law (hV.kd hm) (hV.her hm hs)).1] at g1
        rw [(dyS_cg (L := lC σ) (L2 := lR σ) (D := dyN (lR σ) so mo C) hV.law (hV.kd hm) (hV.her hm hs)).2] at g2
        have w14 : ∀ j, addF σ C (cl y) (cl x) 14 j = up σ 14 C (nI (cl y)) 14 j := fun j => by
          unfold addF addO
          rw [up_n (by omega), up_n (by omega), askM_row (by decide) (by decide) (by decide), up_n (by omega)]
        have w15 : ∀ j, addF σ C (cl y) (cl x) 15 j = up σ 15 C (nI (cl x)) 15 j := fun j => by
          unfold addF addO
          rw [up_n (by omega), up_n (by omega), askM_row (by decide) (by decide) (by decide)]
          by_cases e : j = C
          · subst e; rw [up_s, up_s]
          · rw [up_n (by omega), up_n (by omega), up_n (by omega)]
        have w13 : addF σ C (cl y) (cl x) 13 4 = nI (C + 1) := by unfold addF; exact up_s
        generalize hω : addF σ C (cl y) (cl x) = ω at c r1 r2 g1 g2 g3 w14 w15 w13
        have hVω := hV.r r2
        have hOω := hO.r r2
        have k2 := k_offer ω S M C so mo hVω.VM ⟨hOω.2.1, hC24, fun j hj => by
          obtain ⟨a1, a2, a3, a4, a5, a6⟩ := hOω.2.2.2 j hj
          exact ⟨a3, by omega, a4, by omega, hVω.kOK _ a6⟩⟩ y x d (by omega)
        have hx3 : hMm ω x := by rw [← hVω.eM]; exact hx2
        have hy3 : hSm ω y := by rw [← hVω.eS]; exact hy2
        rw [cnd_t hy3, cnd_t hx3, cnd_f (show ¬ C = 24 by omega), cnd_t hy3, cnd_t hx3, cnd_f (show ¬ C = 24 by omega)] at k2
        refine TWi.g c k2 rfl (fun σ2 e => ?_)
        rw [e]
        have p : ∀ a, a ≠ 42 → a ≠ 49 → a ≠ 50 → up (up (up ω 49 C (nI (cl y))) 50 C (nI (cl x))) 42 13 (nI (C + 1)) a = ω a := fun a h1 h2 h3 => (up_row h1).trans ((up_row h3).trans (up_row h2))
        have p42 : ∀ j, j ≠ 13 → up (up (up ω 49 C (nI (cl y))) 50 C (nI (cl x))) 42 13 (nI (C + 1)) 42 j = σ 42 j := fun j hj => (up_n (by omega)).trans ((up_n (by omega)).trans ((up_n (by omega)).trans (congrFun (r2 42 (by decide)) j)))
        have p49 : ∀ j, up (up (up ω 49 C (nI (cl y))) 50 C (nI (cl x))) 42 13 (nI (C + 1)) 49 j = up σ 49 C (nI (cl y)) 49 j := fun j => by
          rw [up_n (by omega), up_n (by omega)]
          by_cases e : j = C
          · subst e; rw [up_s, up_s]
          · rw [up_n (by omega), up_n (by omega), r2 49 (by decide)]
        have p50 : ∀ j, up (up (up ω 49 C (nI (cl y))) 50 C (nI (cl x))) 42 13 (nI (C + 1)) 50 j = up σ 50 C (nI (cl x)) 50 j := fun j => by
          rw [up_n (by omega)]
          by_cases e : j = C
          · subst e; rw [up_s, up_s]
          · rw [up_n (by omega), up_n (by omega), up_n (by omega), r2 50 (by decide)]
        have p13 : up (up (up ω 49 C (nI (cl y))) 50 C (nI (cl x))) 42 13 (nI (C + 1)) 42 13 = nI (C + 1) := up_s
        generalize hξ : up (up (up ω 49 C (nI (cl y))) 50 C (nI (cl x))) 42 13 (nI (C + 1)) = ξ at p p42 p49 p50 p13
        have n : ∀ a, a ≠ 13 → ¬ (14 ≤ a ∧ a ≤ 20) → a ≠ 42 → a ≠ 49 → a ≠ 50 → ξ a = σ a := fun a h1 h2 h3 h4 h5 => (p a h3 h4 h5).trans (r1 a h1 h2)
        have el : lR ξ = lR σ := lR_cg (p42 6 (by decide)) (n 43 (by omega) (by omega) (by omega) (by omega) (by omega)) (n 44 (by omega) (by omega) (by omega) (by omega) (by omega))
        have en : ∀ j, j ≤ C → dyN (lR σ) (fun i => if i = C then cl y else so i) (fun i => if i = C then cl x else mo i) j = dyN (lR σ) so mo j := fun j hj => dyN_cg rfl j (fun i hi => ⟨if_neg (by omega), if_neg (by omega), rfl, rfl⟩)
        refine ⟨S, M, C + 1, R, fun i => if i = C then cl y else so i, fun i => if i = C then cl x else mo i, rm, rs, ?_, ?_, ?_, ?_, ?_, ?_⟩
        · exact hV.cg (fun a h1 h2 => n a (by omega) (by omega) (by omega) (by omega) (by omega)) (fun a h1 h2 => n a (by omega) (by omega) (by omega) (by omega) (by omega)) (fun j hj => p42 j (by omega))
        · refine ⟨(congrFun (p 13 (by decide) (by decide) (by decide)) 4).trans w13, p13, by omega, fun j hj => ?_⟩
          rw [show ξ 14 j = up σ 14 C (nI (cl y)) 14 j from (congrFun (p 14 (by decide) (by decide) (by decide)) j).trans (w14 j), show ξ 15 j = up σ 15 C (nI (cl x)) 15 j from (congrFun (p 15 (by decide) (by decide) (by decide)) j).trans (w15 j), p49 j, p50 j]
          by_cases e : j = C
          · subst e
            dsimp only
            rw [if_pos rfl, if_pos rfl, up_s, up_s, up_s, up_s]
            exact ⟨rfl, rfl, rfl, rfl, hs, hm⟩
          · dsimp only
            rw [if_neg e, if_neg e, up_n (by omega), up_n (by omega), up_n (by omega), up_n (by omega)]
            exact hO.2.2.2 j (by omega)
        · rw [el]
          refine fun _ => ⟨?_, fun j hj => ?_⟩
          · have e2 : dyN (lR σ) (fun i => if i = C then cl y else so i) (fun i => if i = C then cl x else mo i) (C + 1) = dyS (lR σ) (dyN (lR σ) so mo C) (cl y) (cl x) := by
              show dyS (lR σ) (dyN (lR σ) (fun i => if i = C then cl y else so i) (fun i => if i = C then cl x else mo i) C) (if C = C then cl y else so C) (if C = C then cl x else mo C) = _
              rw [en C (Nat.le_refl _), if_pos rfl, if_pos rfl]
            rw [e2]
            refine ⟨fun m hm2 => ⟨?_, ?_⟩, fun s hs2 => ?_⟩
            · rw [show ξ (17 + 1) = ω 18 from p 18 (by decide) (by decide) (by decide)]; exact (g1.1 m hm2).1
            · rw [show ξ (17 + 2) = ω 19 from p 19 (by decide) (by decide) (by decide)]; exact (g1.1 m hm2).2
            · rw [show ξ (17 + 3) = ω 20 from p 20 (by decide) (by decide) (by decide)]; exact g1.2 s hs2
          · rw [show ξ 16 = ω 16 from p 16 (by decide) (by decide) (by decide), en j (by omega)]
            by_cases e : j = C
            · subst e
              dsimp only
              rw [if_pos rfl, if_pos rfl]; exact g2
            · dsimp only
              rw [if_neg e, if_neg e, g3 j e]; exact d2 j (by omega)
        · exact hR.cg (congrFun (n 21 (by omega) (by omega) (by omega) (by omega) (by omega)) 4) (fun a h1 h2 => n a (by omega) (by omega) (by omega) (by omega) (by omega)) (p42 20 (by decide)) (fun a h1 h2 => n a (by omega) (by omega) (by omega) (by omega) (by omega))
        · exact hSt.cg (fun a h1 h2 => n a (by omega) (by omega) (by omega) (by omega) (by omega)) (fun a h1 h2 => n a (by omega) (by omega) (by omega) (by omega) (by omega))
        · unfold iT
          rw [n 0 (by omega) (by omega) (by omega) (by omega) (by omega), p42 29 (by decide), p42 0 (by decide)]; exact hT
      · rw [cnd_t hy2, cnd_t hx2, cnd_f q, cnd_t hy2, cnd_t hx2, cnd_f q] at c
        rw [cnd_t hy, cnd_t hx, cnd_t (show C = 24 by omega), cnd_t hy, cnd_t hx, cnd_t (show C = 24 by omega)] at k
        exact TWi.g c k rfl (fun σ2 e => h.eq e)
    · rw [hV.eM, hV.eS, cnd_t hy, cnd_f hx, cnd_t hy, cnd_f hx] at c
      rw [cnd_t hy, cnd_f hx, cnd_t hy, cnd_f hx] at k
      exact TWi.g c k rfl (fun σ2 e => h.eq e)
  · rw [hV.eS, cnd_f hy, cnd_f hy] at c
    rw [cnd_f hy, cnd_f hy] at k
    exact TWi.g c k rfl (fun σ2 e => h.eq e)
theorem cl_le {x : Int32} {C : Nat} (hC : C < 2 ^ 31) (h : 0 ≤ x ∧ x ≤ nI C) : x = nI (cl x) ∧ cl x ≤ C := by
  obtain ⟨j, h1, h2⟩ := nI_of (x := x) (fun z => by
    have a := Int32.lt_iff_toInt_lt.mp z
    have b := Int32.le_iff_toInt_le.mp h.1
    omega)
  have e : cl x = j := by rw [h2]; exact nI_clamp h1
  have h3 := h.2
  rw [h2, nI_leI h1 hC] at h3
  rw [e]
  exact ⟨h2, h3⟩
theorem t_undo {σ : Mem} (h : INV σ) (x : Int32) {d : Nat} (hd : 12 ≤ d) : TWi d mX7_undo mX8_undo [.int x] σ := by
  obtain ⟨S, M, C, R, so, mo, rm, rs, hV, hO, hD, hR, hSt, hT⟩ := id h
  have hS6 := hV.2.2.1.1
  have hM4 := hV.2.2.1.2.1
  have hC24 := hO.2.2.1
  have c := c_undo σ S M C so mo hV.VA (hO.OF hV) x d (by omega)
  have k := k_undo σ S M C so mo hV.VM (hO.OFm hV) x d (by omega)
  by_cases q : 0 ≤ x ∧ x ≤ nI C
  · rw [cnd_t q, cnd_t q] at c
    have r1 : ∀ a, a ≠ 18 → a ≠ 19 → a ≠ 20 → a ≠ 16 → goF (up σ 13 4 (nI (C - cl x))) so mo (C - cl x) a = up σ 13 4 (nI (C - cl x)) a := fun a h1 h2 h3 h4 => goF_row _ so mo h1 h2 h3 h4 _
    have r2 : ∀ a, 42 ≤ a → goF (up σ 13 4 (nI (C - cl x))) so mo (C - cl x) a = σ a := fun a ha => (r1 a (by omega) (by omega) (by omega) (by omega)).trans (up_row (by omega))
    have hL0 : lcE (lC (up σ 13 4 (nI (C - cl x)))) (lR σ) S M := by
      refine ⟨?_, fun m hm2 => ⟨?_, fun s hs2 => ?_⟩⟩
      · show up σ 13 4 (nI (C - cl x)) 1 2 = _
        rw [up_n (by omega)]; exact hV.law
      · show up σ 13 4 (nI (C - cl x)) 2 m = _
        rw [up_n (by omega)]; exact hV.kd hm2
      · show up σ 13 4 (nI (C - cl x)) (4 + m) s = _
        rw [up_n (by omega)]; exact hV.her hm2 hs2
    have hDn := iD_go (so := so) (mo := mo) (C := C - cl x) hS6 hM4 (fun j hj => hO.lt2 j (by omega)) hL0
    generalize hω : goF (up σ 13 4 (nI (C - cl x))) so mo (C - cl x) = ω at c r1 r2 hDn
    have hVω := hV.r r2
    have hOω := hO.r r2
    have k2 := k_undo ω S M C so mo hVω.VM ⟨hOω.2.1, hC24, fun j hj => by
      obtain ⟨a1, a2, a3, a4, a5, a6⟩ := hOω.2.2.2 j hj
      exact ⟨a3, by omega, a4, by omega, hVω.kOK _ a6⟩⟩ x d (by omega)
    rw [cnd_t q, cnd_t q] at k2
    refine TWi.g c k2 rfl (fun σ2 e => ?_)
    rw [e]
    have p : ∀ a, a ≠ 18 → a ≠ 19 → a ≠ 20 → a ≠ 16 → a ≠ 42 → a ≠ 13 → up ω 42 13 (nI (C - cl x)) a = σ a := fun a h1 h2 h3 h4 h5 h6 => (up_row h5).trans ((r1 a h1 h2 h3 h4).trans (up_row h6))
    have p42 : ∀ j, j ≠ 13 → up ω 42 13 (nI (C - cl x)) 42 j = σ 42 j := fun j hj => (up_n (by omega)).trans (congrFun (r2 42 (by decide)) j)
    have p13 : up ω 42 13 (nI (C - cl x)) 13 4 = nI (C - cl x) := (up_n (by omega)).trans ((congrFun (r1 13 (by decide) (by decide) (by decide) (by decide)) 4).trans up_s)
    refine ⟨S, M, C - cl x, R, so, mo, rm, rs, ?_, ?_, ?_, ?_, ?_, ?_⟩
    · exact hV.cg (fun a h1 h2 => p a (by omega) (by omega) (by omega) (by omega) (by omega) (by omega)) (fun a h1 h2 => p a (by omega) (by omega) (by omega) (by omega) (by omega) (by omega)) (fun j hj => p42 j (by omega))
    · refine ⟨p13, up_s, by omega, fun j hj => ?_⟩
      rw [p 14 (by decide) (by decide) (by decide) (by decide) (by decide) (by decide), p 15 (by decide) (by decide) (by decide) (by decide) (by decide) (by decide), p 49 (by decide) (by decide) (by decide) (by decide) (by decide) (by decide), p 50 (by decide) (by decide) (by decide) (by decide) (by decide) (by decide)]
      exact hO.2.2.2 j (by omega)
    · exact hDn.cg (fun a ha => up_row (by omega)) (lR_cg (p42 6 (by decide)) (p 43 (by decide) (by decide) (by decide) (by decide) (by decide) (by decide)) (p 44 (by decide) (by decide) (by decide) (by decide) (by decide) (by decide)))
    · exact hR.cg (congrFun (p 21 (by decide) (by decide) (by decide) (by decide) (by decide) (by decide)) 4) (fun a h1 h2 => p a (by omega) (by omega) (by omega) (by omega) (by omega) (by omega)) (p42 20 (by decide)) (fun a h1 h2 => p a (by omega) (by omega) (by omega) (by omega) (by omega) (by omega))
    · exact hSt.cg (fun a h1 h2 => p a (by omega) (by omega) (by omega) (by omega) (by omega) (by omega)) (fun a h1 h2 => p a (by omega) (by omega) (by omega) (by omega) (by omega) (by omega))
    · unfold iT
      rw [p 0 (by decide) (by decide) (by decide) (by decide) (by decide) (by decide), p42 29 (by decide), p42 0 (by decide)]; exact hT
  · rw [cnd_f q, cnd_f q] at c
    rw [cnd_f q, cnd_f q] at k
    exact TWi.g c k rfl (fun σ2 e => h.eq e)
theorem t_back {σ : Mem} (h : INV σ) (x : Int32) {d : Nat} (hd : 12 ≤ d) : TWi d mX7_back mX8_back [.int x] σ := by
  obtain ⟨S, M, C, R, so, mo, rm, rs, hV, hO, hD, hR, hSt, hT⟩ := id h
  have c := c_back σ S M R rs hV.VA (hR.RD hV) x d (by omega)
  have k := k_back σ S M R hV.VM hR.2.1 hR.2.2.1 x d (by omega)
  by_cases q : 0 ≤ x ∧ x ≤ nI R
  · rw [cnd_t q, cnd_t q] at c
    have r2 : ∀ a, 42 ≤ a → up σ 21 4 (nI (R - cl x)) a = σ a := fun a ha => up_row (by omega)
    have hVω := hV.r r2
    have hRω := hR.r r2
    have k2 := k_back _ S M R hVω.VM hRω.2.1 hR.2.2.1 x d (by omega)
    rw [cnd_t q, cnd_t q] at k2
    refine TWi.g c k2 rfl (fun σ2 e => ?_)
    rw [e]
    have p : ∀ a, a ≠ 21 → a ≠ 42 → up (up σ 21 4 (nI (R - cl x))) 42 20 (nI (R - cl x)) a = σ a := fun a h1 h2 => (up_row h2).trans (up_row h1)
    have p42 : ∀ j, j ≠ 20 → up (up σ 21 4 (nI (R - cl x))) 42 20 (nI (R - cl x)) 42 j = σ 42 j := fun j hj => (up_n (by omega)).trans (up_n (by omega))
    have p21 : up (up σ 21 4 (nI (R - cl x))) 42 20 (nI (R - cl x)) 21 4 = nI (R - cl x) := (up_n (by omega)).trans up_s
    have p20 : up (up σ 21 4 (nI (R - cl x))) 42 20 (nI (R - cl x)) 42 20 = nI (R - cl x) := up_s
    generalize up (up σ 21 4 (nI (R - cl x))) 42 20 (nI (R - cl x)) = ξ at p p42 p21 p20
    refine ⟨S, M, C, R - cl x, so, mo, rm, rs, ?_, ?_, ?_, ?_, ?_, ?_⟩
    · exact hV.cg (fun a h1 h2 => p a (by omega) (by omega)) (fun a h1 h2 => p a (by omega) (by omega)) (fun j hj => p42 j (by omega))
    · exact hO.cg (congrFun (p 13 (by decide) (by decide)) 4) (p 14 (by decide) (by decide)) (p 15 (by decide) (by decide)) (p42 13 (by decide)) (p 49 (by decide) (by decide)) (p 50 (by decide) (by decide))
    · exact hD.cg (fun a ha => p a (by omega) (by omega)) (lR_cg (p42 6 (by decide)) (p 43 (by decide) (by decide)) (p 44 (by decide) (by decide)))
    · have hR8 := hR.2.2.1
      refine ⟨p21, p20, by omega, fun j hj => ?_⟩
      rw [p 22 (by decide) (by decide), p 23 (by decide) (by decide), p 24 (by decide) (by decide), p 25 (by decide) (by decide), p 55 (by decide) (by decide), p 56 (by decide) (by decide), p 57 (by decide) (by decide), p 58 (by decide) (by decide)]
      exact hR.2.2.2 j (by omega)
    · exact hSt.cg (fun a h1 h2 => p a (by omega) (by omega)) (fun a h1 h2 => p a (by omega) (by omega))
    · unfold iT
      rw [p 0 (by decide) (by decide), p42 29 (by decide), p42 0 (by decide)]; exact hT
  · rw [cnd_f q, cnd_f q] at c
    rw [cnd_f q, cnd_f q] at k
    exact TWi.g c k rfl (fun σ2 e => h.eq e)
theorem t_reading {σ : Mem} (h : INV σ) (x y r t : Int32) {d : Nat} (hd : 12 ≤ d) : TWi d mX7_reading mX8_reading [.int x, .int y, .int r, .int t] σ := by
  obtain ⟨S, M, C, R, so, mo, rm, rs, hV, hO, hD, hR, hSt, hT⟩ := id h
  have hR8 := hR.2.2.1
  have c := c_reading σ S M R rs hV.VA (hR.RD hV) x y r t d (by omega)
  have k := k_reading σ S M R hV.VM hR.2.1 hR8 x y r t d (by omega)
  by_cases hx : hMm σ x
  · by_cases hy : hSm σ y
    · have hx2 : hM σ x := by rw [hV.eM]; exact hx
      have hy2 : hS σ y := by rw [hV.eS]; exact hy
      obtain ⟨ex, hm, hm4⟩ := hV.cM hx
      obtain ⟨ey, hs, hs6⟩ := hV.cS hy
      by_cases hr : 0 ≤ r ∧ r ≤ 9
      · by_cases q : R < 8
        · rw [cnd_t hx2, cnd_t hy2, cnd_t hr, cnd_t q, cnd_t hx2, cnd_t hy2, cnd_t hr, cnd_t q] at c
          have r1 : ∀ a, ¬ (21 ≤ a ∧ a ≤ 25) → up (up (up (up (up σ 22 R (nI (cl x))) 23 R (nI (cl y))) 24 R r) 25 R (vp_nar .boolean t)) 21 4 (nI (R + 1)) a = σ a := fun a h1 => (up_row (by omega)).trans ((up_row (by omega)).trans ((up_row (by omega)).trans ((up_row (by omega)).trans (up_row (by omega)))))
          have w21 : up (up (up (up (up σ 22 R (nI (cl x))) 23 R (nI (cl y))) 24 R r) 25 R (vp_nar .boolean t)) 21 4 (nI (R + 1)) 21 4 = nI (R + 1) := up_s
          have w22 : ∀ j, up (up (up (up (up σ 22 R (nI (cl x))) 23 R (nI (cl y))) 24 R r) 25 R (vp_nar .boolean t)) 21 4 (nI (R + 1)) 22 j = up σ 22 R (nI (cl x)) 22 j := fun j => by
            rw [up_n (by omega), up_n (by omega), up_n (by omega), up_n (by omega)]
          have w23 : ∀ j, up (up (up (up (up σ 22 R (nI (cl x))) 23 R (nI (cl y))) 24 R r) 25 R (vp_nar .boolean t)) 21 4 (nI (R + 1)) 23 j = up σ 23 R (nI (cl y)) 23 j := fun j => by
            rw [up_n (by omega), up_n (by omega), up_n (by omega)]
            by_cases e : j = R
            · subst e; rw [up_s, up_s]
            · rw [up_n (by omega), up_n (by omega), up_n (by omega)]
          have w24 : ∀ j, up (up (up (up (up σ 22 R (nI (cl x))) 23 R (nI (cl y))) 24 R r) 25 R (vp_nar .boolean t)) 21 4 (nI (R + 1)) 24 j = up σ 24 R r 24 j := fun j => by
            rw [up_n (by omega), up_n (by omega)]
            by_cases e : j = R
            · subst e; rw [up_s, up_s]
            · rw [up_n (by omega), up_n (by omega), up_n (by omega), up_n (by omega)]
          have w25 : ∀ j, up (up (up (up (up σ 22 R (nI (cl x))) 23 R (nI (cl y))) 24 R r) 25 R (vp_nar .boolean t)) 21 4 (nI (R + 1)) 25 j = up σ 25 R (vp_nar .boolean t) 25 j := fun j => by
            rw [up_n (by omega)]
            by_cases e : j = R
            · subst e; rw [up_s, up_s]
            · rw [up_n (by omega), up_n (by omega), up_n (by omega), up_n (by omega), up_n (by omega)]
          generalize hω : up (up (up (up (up σ 22 R (nI (cl x))) 23 R (nI (cl y))) 24 R r) 25 R (vp_nar .boolean t)) 21 4 (nI (R + 1)) = ω at c r1 w21 w22 w23 w24 w25
          have r2 : ∀ a, 42 ≤ a → ω a = σ a := fun a ha => r1 a (by omega)
          have hVω := hV.r r2
          have hRω := hR.r r2
          have k2 := k_reading ω S M R hVω.VM hRω.2.1 hR8 x y r t d (by omega)
          have hx3 : hMm ω x := by rw [← hVω.eM]; exact hx2
          have hy3 : hSm ω y := by rw [← hVω.eS]; exact hy2
          rw [cnd_t hx3, cnd_t hy3, cnd_t hr, cnd_f (show ¬ R = 8 by omega), cnd_t hx3, cnd_t hy3, cnd_t hr, cnd_f (show ¬ R = 8 by omega)] at k2
          refine TWi.g c k2 rfl (fun σ2 e => ?_)
          rw [e]
          have p : ∀ a, a ≠ 42 → ¬ (55 ≤ a ∧ a ≤ 58) → up (up (up (up (up ω 55 R (nI (cl x))) 56 R (nI (cl y))) 57 R r) 58 R (vp_nar .boolean t)) 42 20 (nI (R + 1)) a = ω a := fun a h1 h2 => (up_row (by omega)).trans ((up_row (by omega)).trans ((up_row (by omega)).trans ((up_row (by omega)).trans (up_row (by omega)))))
          have p42 : ∀ j, j ≠ 20 → up (up (up (up (up ω 55 R (nI (cl x))) 56 R (nI (cl y))) 57 R r) 58 R (vp_nar .boolean t)) 42 20 (nI (R + 1)) 42 j = σ 42 j := fun j hj => by
            rw [up_n (by omega), up_n (by omega), up_n (by omega), up_n (by omega), up_n (by omega), r2 42 (by decide)]
          have p20 : up (up (up (up (up ω 55 R (nI (cl x))) 56 R (nI (cl y))) 57 R r) 58 R (vp_nar .boolean t)) 42 20 (nI (R + 1)) 42 20 = nI (R + 1) := up_s
          have p55 : ∀ j, up (up (up (up (up ω 55 R (nI (cl x))) 56 R (nI (cl y))) 57 R r) 58 R (vp_nar .boolean t)) 42 20 (nI (R + 1)) 55 j = up σ 55 R (nI (cl x)) 55 j := fun j => by
            rw [up_n (by omega), up_n (by omega), up_n (by omega), up_n (by omega)]
            by_cases e : j = R
            · subst e; rw [up_s, up_s]
            · rw [up_n (by omega), up_n (by omega), r2 55 (by decide)]
          have p56 : ∀ j, up (up (up (up (up ω 55 R (nI (cl x))) 56 R (nI (cl y))) 57 R r) 58 R (vp_nar .boolean t)) 42 20 (nI (R + 1)) 56 j = up σ 56 R (nI (cl y)) 56 j := fun j => by
            rw [up_n (by omega), up_n (by omega), up_n (by omega)]
            by_cases e : j = R
            · subst e; rw [up_s, up_s]
            · rw [up_n (by omega), up_n (by omega), up_n (by omega), r2 56 (by decide)]
          have p57 : ∀ j, up (up (up (up (up ω 55 R (nI (cl x))) 56 R (nI (cl y))) 57 R r) 58 R (vp_nar .boolean t)) 42 20 (nI (R + 1)) 57 j = up σ 57 R r 57 j := fun j => by
            rw [up_n (by omega), up_n (by omega)]
            by_cases e : j = R
            · subst e; rw [up_s, up_s]
            · rw [up_n (by omega), up_n (by omega), up_n (by omega), up_n (by omega), r2 57 (by decide)]
          have p58 : ∀ j, up (up (up (up (up ω 55 R (nI (cl x))) 56 R (nI (cl y))) 57 R r) 58 R (vp_nar .boolean t)) 42 20 (nI (R + 1)) 58 j = up σ 58 R (vp_nar .boolean t) 58 j := fun j => by
            rw [up_n (by omega)]
            by_cases e : j = R
            · subst e; rw [up_s, up_s]
            · rw [up_n (by omega), up_n (by omega), up_n (by omega), up_n (by omega), up_n (by omega), r2 58 (by decide)]
          generalize up (up (up (up (up ω 55 R (nI (cl x))) 56 R (nI (cl y))) 57 R r) 58 R (vp_nar .boolean t)) 42 20 (nI (R + 1)) = ξ at p p42 p20 p55 p56 p57 p58
          have n : ∀ a, ¬ (21 ≤ a ∧ a ≤ 25) → a ≠ 42 → ¬ (55 ≤ a ∧ a ≤ 58) → ξ a = σ a := fun a h1 h2 h3 => (p a h2 h3).trans (r1 a h1)
          refine ⟨S, M, C, R + 1, so, mo, fun i => if i = R then cl x else rm i, fun i => if i = R then cl y else rs i, ?_, ?_, ?_, ?_, ?_, ?_⟩
          · exact hV.cg (fun a h1 h2 => n a (by omega) (by omega) (by omega)) (fun a h1 h2 => n a (by omega) (by omega) (by omega)) (fun j hj => p42 j (by omega))
          · exact hO.cg (congrFun (n 13 (by decide) (by decide) (by decide)) 4) (n 14 (by decide) (by decide) (by decide)) (n 15 (by decide) (by decide) (by decide)) (p42 13 (by decide)) (n 49 (by decide) (by decide) (by decide)) (n 50 (by decide) (by decide) (by decide))
          · exact hD.cg (fun a ha => n a (by omega) (by omega) (by omega)) (lR_cg (p42 6 (by decide)) (n 43 (by decide) (by decide) (by decide)) (n 44 (by decide) (by decide) (by decide)))
          · refine ⟨(congrFun (p 21 (by decide) (by decide)) 4).trans w21, p20, by omega, fun j hj => ?_⟩
            rw [show ξ 22 j = up σ 22 R (nI (cl x)) 22 j from (congrFun (p 22 (by decide) (by decide)) j).trans (w22 j), show ξ 23 j = up σ 23 R (nI (cl y)) 23 j from (congrFun (p 23 (by decide) (by decide)) j).trans (w23 j), show ξ 24 j = up σ 24 R r 24 j from (congrFun (p 24 (by decide) (by decide)) j).trans (w24 j), show ξ 25 j = up σ 25 R (vp_nar .boolean t) 25 j from (congrFun (p 25 (by decide) (by decide)) j).trans (w25 j), p55 j, p56 j, p57 j, p58 j]
            by_cases e : j = R
            · subst e
              dsimp only
              rw [if_pos rfl, if_pos rfl, up_s, up_s, up_s, up_s, up_s, up_s, up_s, up_s]
              exact ⟨rfl, rfl, hm, rfl, rfl, hs, rfl, rfl⟩
            · dsimp only
              rw [if_neg e, if_neg e, up_n (by omega), up_n (by omega), up_n (by omega), up_n (by omega), up_n (by omega), up_n (by omega), up_n (by omega), up_n (by omega)]
              exact hR.2.2.2 j (by omega)
          · exact hSt.cg (fun a h1 h2 => n a (by omega) (by omega) (by omega)) (fun a h1 h2 => n a (by omega) (by omega) (by omega))
          · unfold iT
            rw [n 0 (by decide) (by decide) (by decide), p42 29 (by decide), p42 0 (by decide)]; exact hT
        · rw [cnd_t hx2, cnd_t hy2, cnd_t hr, cnd_f q, cnd_t hx2, cnd_t hy2, cnd_t hr, cnd_f q] at c
          rw [cnd_t hx, cnd_t hy, cnd_t hr, cnd_t (show R = 8 by omega), cnd_t hx, cnd_t hy, cnd_t hr, cnd_t (show R = 8 by omega)] at k
          exact TWi.g c k rfl (fun σ2 e => h.eq e)
      · rw [cnd_t hx2, cnd_t hy2, cnd_f hr, cnd_t hx2, cnd_t hy2, cnd_f hr] at c
        rw [cnd_t hx, cnd_t hy, cnd_f hr, cnd_t hx, cnd_t hy, cnd_f hr] at k
        exact TWi.g c k rfl (fun σ2 e => h.eq e)
    · rw [hV.eM, hV.eS, cnd_t hx, cnd_f hy, cnd_t hx, cnd_f hy] at c
      rw [cnd_t hx, cnd_f hy, cnd_t hx, cnd_f hy] at k
      exact TWi.g c k rfl (fun σ2 e => h.eq e)
  · rw [hV.eM, cnd_f hx, cnd_f hx] at c
    rw [cnd_f hx, cnd_f hx] at k
    exact TWi.g c k rfl (fun σ2 e => h.eq e)
/-! the trace -/
theorem INV.tr {σ ω : Mem} (h : INV σ) (h1 : ∀ a, a ≠ 0 → a ≠ 42 → ω a = σ a) (h2 : ω 0 7 = σ 0 7) (h3 : ∀ j, j ≠ 29 → ω 42 j = σ 42 j) (h4 : ω 0 6 = ω 42 29) : INV ω := by
  obtain ⟨S, M, C, R, so, mo, rm, rs, hV, hO, hD, hR, hSt, hT⟩ := h
  refine ⟨S, M, C, R, so, mo, rm, rs, hV.cg (fun a _ _ => h1 a (by omega) (by omega)) (fun a _ _ => h1 a (by omega) (by omega)) (fun j hj => h3 j (by omega)), hO.cg (congrFun (h1 13 (by decide) (by decide)) 4) (h1 14 (by decide) (by decide)) (h1 15 (by decide) (by decide)) (h3 13 (by decide)) (h1 49 (by decide) (by decide)) (h1 50 (by decide) (by decide)), hD.cg (fun a ha => h1 a (by omega) (by omega)) (lR_cg (h3 6 (by decide)) (h1 43 (by decide) (by decide)) (h1 44 (by decide) (by decide))), hR.cg (congrFun (h1 21 (by decide) (by decide)) 4) (fun a _ _ => h1 a (by omega) (by omega)) (h3 20 (by decide)) (fun a _ _ => h1 a (by omega) (by omega)), hSt.cg (fun a _ _ => h1 a (by omega) (by omega)) (fun a _ _ => h1 a (by omega) (by omega)), h4, ?_⟩
  rw [h2, h3 0 (by decide)]
  exact hT.2
/-- traces: the memory with another trace on both sides -/
def trC (σ τ : Mem) (t : Int32) : Prop := (∀ a, a ≠ 0 → τ a = σ a) ∧ (∀ j, j ≠ 6 → τ 0 j = σ 0 j) ∧ τ 0 6 = t
def trM (σ τ : Mem) (t : Int32) : Prop := (∀ a, a ≠ 42 → τ a = σ a) ∧ (∀ j, j ≠ 29 → τ 42 j = σ 42 j) ∧ τ 42 29 = t
theorem trC.mk {σ τ : Mem} {t : Int32} (h : trC σ τ t) (b : Int32) : trC σ (mkF τ b) (31 * t + b) := by
  obtain ⟨h1, h2, h3⟩ := h
  unfold mkF
  exact ⟨fun a ha => (up_row ha).trans (h1 a ha), fun j hj => (up_n (by omega)).trans (h2 j hj), by rw [up_s, h3]⟩
theorem trM.mk {σ τ : Mem} {t : Int32} (h : trM σ τ t) (b : Int32) : trM σ (mkM τ b) (31 * t + b) := by
  obtain ⟨h1, h2, h3⟩ := h
  unfold mkM
  exact ⟨fun a ha => (up_row ha).trans (h1 a ha), fun j hj => (up_n (by omega)).trans (h2 j hj), by rw [up_s, h3]⟩
theorem trC.rf (σ : Mem) : trC σ σ (σ 0 6) := ⟨fun _ _ => rfl, fun _ _ => rfl, rfl⟩
theorem trM.rf (σ : Mem) : trM σ σ (σ 42 29) := ⟨fun _ _ => rfl, fun _ _ => rfl, rfl⟩
theorem INV.trs {σ ω ξ : Mem} {t u : Int32} (h : INV σ) (h1 : trC σ ω t) (h2 : trM ω ξ u) (e : t = u) : INV ξ := by
  refine h.tr (fun a ha hb => (h2.1 a hb).trans (h1.1 a ha)) ?_ (fun j hj => ?_) ?_
  · rw [h2.1 0 (by decide)]; exact h1.2.1 7 (by decide)
  · rw [h2.2.1 j hj, h1.1 42 (by decide)]
  · rw [h2.2.2, h2.1 0 (by decide), h1.2.2]; exact e
theorem hey (x : Int32) : 2 * x + 100 = x + 100 + x := by
  have : (2 : Int32) * x = x + x := by
    rw [show (2 : Int32) = 1 + 1 by decide, Int32.add_mul, Int32.one_mul]
  rw [this, Int32.add_assoc, Int32.add_assoc, Int32.add_comm 100 x]
theorem t_tell {σ : Mem} (h : INV σ) (x : Int32) {d : Nat} (hd : 12 ≤ d) : TWi d mX7_tell mX8_tell [.int x] σ := by
  obtain ⟨S, M, C, R, so, mo, rm, rs, hV, hO, hD, hR, hSt, hT⟩ := id h
  have c := c_tell σ S M hV.VA x d (by omega)
  have k := k_tell σ S M hV.VM hV.kOK x d (by omega)
  by_cases hx : hMm σ x
  · have hx2 : hM σ x := by rw [hV.eM]; exact hx
    obtain ⟨ex, hm, hm4⟩ := hV.cM hx
    have hk := hV.kd hm
    have key : ∀ ω t, trC σ ω t → hMm ω x ∧ ω 43 (cl x) = σ 2 (cl x) ∧ ω 42 29 = σ 0 6 ∧ iV σ ω S M := fun ω t hω => by
      have hVω := hV.r (fun a ha => hω.1 a (by omega))
      refine ⟨by rw [← hVω.eM]; exact hx2, by rw [hω.1 43 (by decide)]; exact hk.symm, by rw [hω.1 42 (by decide)]; exact hT.1.symm, hVω⟩
    rw [cnd_t hx2, cnd_t hx2] at c
    by_cases k1 : σ 2 (cl x) = 1
    · rw [cnd_t k1, cnd_t k1] at c
      have w := ((trC.rf σ).mk 2).mk 1
      obtain ⟨a1, a2, a3, a4⟩ := key _ _ w
      have k2 := k_tell _ S M a4.VM a4.kOK x d (by omega)
      rw [cnd_t a1, cnd_t (a2.trans k1), cnd_t a1, cnd_t (a2.trans k1)] at k2
      exact TWi.g c k2 rfl (fun σ2 e => by rw [e]; exact h.trs w (((trM.rf _).mk 2).mk 1) (by rw [a3]))
    · rw [cnd_f k1, cnd_f k1] at c
      by_cases k0 : σ 2 (cl x) = 2
      · rw [cnd_t k0, cnd_t k0] at c
        have w := ((((trC.rf σ).mk 3).mk 2).mk 1).mk 1
        obtain ⟨a1, a2, a3, a4⟩ := key _ _ w
        have k2 := k_tell _ S M a4.VM a4.kOK x d (by omega)
        rw [cnd_t a1, cnd_f (fun z => k1 (a2.symm.trans z)), cnd_t (a2.trans k0), cnd_t a1, cnd_f (fun z => k1 (a2.symm.trans z)), cnd_t (a2.trans k0)] at k2
        exact TWi.g c k2 (hey x) (fun σ2 e => by rw [e]; exact h.trs w (((((trM.rf _).mk 3).mk 2).mk 1).mk 1) (by rw [a3]))
      · rw [cnd_f k0, cnd_f k0] at c
        have w := (trC.rf σ).mk 1
        obtain ⟨a1, a2, a3, a4⟩ := key _ _ w
        have k2 := k_tell _ S M a4.VM a4.kOK x d (by omega)
        rw [cnd_t a1, cnd_f (fun z => k1 (a2.symm.trans z)), cnd_f (fun z => k0 (a2.symm.trans z)), cnd_t a1, cnd_f (fun z => k1 (a2.symm.trans z)), cnd_f (fun z => k0 (a2.symm.trans z))] at k2
        exact TWi.g c k2 rfl (fun σ2 e => by rw [e]; exact h.trs w ((trM.rf _).mk 1) (by rw [a3]))
  · rw [hV.eM, cnd_f hx, cnd_f hx] at c
    rw [cnd_f hx, cnd_f hx] at k
    exact TWi.g c k rfl (fun σ2 e => h.eq e)
theorem t_greet {σ : Mem} (h : INV σ) (x : Int32) {d : Nat} (hd : 12 ≤ d) : TWi d mX7_greet mX8_greet [.int x] σ := by
  obtain ⟨S, M, C, R, so, mo, rm, rs, hV, hO, hD, hR, hSt, hT⟩ := id h
  have c := c_greet σ S M hV.VA x d (by omega)
  have k := k_greet σ S M hV.VM x d (by omega)
  by_cases hx : hMm σ x
  · have hx2 : hM σ x := by rw [hV.eM]; exact hx
    obtain ⟨ex, hm, hm4⟩ := hV.cM hx
    have hk := hV.kd hm
    have key : ∀ ω t, trC σ ω t → hMm ω x ∧ ω 43 (cl x) = σ 2 (cl x) ∧ ω 42 29 = σ 0 6 ∧ iV σ ω S M := fun ω t hω => by
      have hVω := hV.r (fun a ha => hω.1 a (by omega))
      refine ⟨by rw [← hVω.eM]; exact hx2, by rw [hω.1 43 (by decide)]; exact hk.symm, by rw [hω.1 42 (by decide)]; exact hT.1.symm, hVω⟩
    rw [cnd_t hx2, cnd_t hx2] at c
    by_cases k0 : σ 2 (cl x) = 2
    · rw [cnd_t k0, cnd_t k0] at c
      have w := (trC.rf σ).mk 5
      obtain ⟨a1, a2, a3, a4⟩ := key _ _ w
      have k2 := k_greet _ S M a4.VM x d (by omega)
      rw [cnd_t a1, cnd_t (a2.trans k0), cnd_t a1, cnd_t (a2.trans k0)] at k2
      exact TWi.g c k2 rfl (fun σ2 e => by rw [e]; exact h.trs w ((trM.rf _).mk 5) (by rw [a3]))
    · rw [cnd_f k0, cnd_f k0] at c
      have w := (trC.rf σ).mk 4
      obtain ⟨a1, a2, a3, a4⟩ := key _ _ w
      have k2 := k_greet _ S M a4.VM x d (by omega)
      rw [cnd_t a1, cnd_f (fun z => k0 (a2.symm.trans z)), cnd_t a1, cnd_f (fun z => k0 (a2.symm.trans z))] at k2
      exact TWi.g c k2 rfl (fun σ2 e => by rw [e]; exact h.trs w ((trM.rf _).mk 4) (by rw [a3]))
  · rw [hV.eM, cnd_f hx, cnd_f hx] at c
    rw [cnd_f hx, cnd_f hx] at k
    exact TWi.g c k rfl (fun σ2 e => h.eq e)
/-- a fault told on both sides -/
theorem INV.flt {σ : Mem} (h : INV σ) (f : Int32) : INV (up (up σ 0 7 f) 42 0 f) := by
  refine h.sm (fun a ha => ?_) ?_ (fun j hj => ?_) ?_
  · unfold scr at ha
    rw [up_row (by omega), up_row (by omega)]
  · rw [up_n (by omega), up_n (by omega)]
  · rw [up_n (by omega), up_n (by omega)]
  · rw [up_n (by omega), up_s, up_s]
theorem lt3 (k : Int32) : k < 3 ↔ k ≤ 2 := by
  rw [Int32.lt_iff_toInt_lt, Int32.le_iff_toInt_le, show (3 : Int32).toInt = 3 by decide, show (2 : Int32).toInt = 2 by decide]
  omega
theorem t_as {σ : Mem} (h : INV σ) (x kd : Int32) {d : Nat} (hd : 12 ≤ d) : TWi d mX7_as mX8_as [.int x, .int kd] σ := by
  obtain ⟨S, M, C, R, so, mo, rm, rs, hV, hO, hD, hR, hSt, hT⟩ := id h
  have c := c_as σ S M hV.VA x kd d (by omega)
  have row : ∀ f a, a ≠ 0 → up σ 0 7 f a = σ a := fun f a ha => up_row ha
  have hVω : ∀ f, iV σ (up σ 0 7 f) S M := fun f => hV.r (fun a ha => row f a (by omega))
  have k := fun f => k_as (up σ 0 7 f) S M (hVω f).VM x kd d (by omega)
  have e3 : (0 ≤ kd ∧ kd < 3) ↔ isLn kd := and_congr Iff.rfl (lt3 kd)
  have ef : ∀ f, cnd (hMm (up σ 0 7 f) x) (cnd (isLn kd) (cnd (kd ≤ up σ 0 7 f 43 (cl x)) 0 2) 0) 0 = cnd (hM σ x) (cnd (0 ≤ kd ∧ kd < 3) (cnd (kd ≤ σ 2 (cl x)) 0 2) 0) (0 : Int32) := fun f => by
    rw [← (hVω f).eM]
    refine cnd_cg Iff.rfl (fun hx => cnd_cg e3.symm (fun _ => cnd_cg ?_ (fun _ => rfl) (fun _ => rfl)) (fun _ => rfl)) (fun _ => rfl)
    rw [(hVω f).kd ((hVω f).cM (by rw [← (hVω f).eM]; exact hx)).2.1]
  have ev : ∀ f, cnd (hMm (up σ 0 7 f) x) (cnd (isLn kd) (cnd (kd ≤ up σ 0 7 f 43 (cl x)) 1 (-12)) (-2)) (-1) = cnd (hM σ x) (cnd (0 ≤ kd ∧ kd < 3) (cnd (kd ≤ σ 2 (cl x)) 1 (-12)) (-2)) (-1 : Int32) := fun f => by
    rw [← (hVω f).eM]
    refine cnd_cg Iff.rfl (fun hx => cnd_cg e3.symm (fun _ => cnd_cg ?_ (fun _ => rfl) (fun _ => rfl)) (fun _ => rfl)) (fun _ => rfl)
    rw [(hVω f).kd ((hVω f).cM (by rw [← (hVω f).eM]; exact hx)).2.1]
  exact TWi.g c (k _) (ev _) (fun σ2 e => by rw [e, ef]; exact h.flt _)

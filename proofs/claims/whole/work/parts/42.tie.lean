/-! ===== class and reference, held together ===== -/
def iV (σ τ : Mem) (S M : Nat) : Prop := (σ 1 0 = nI S ∧ σ 1 1 = nI M) ∧ (τ 42 1 = nI S ∧ τ 42 2 = nI M) ∧ (S ≤ 6 ∧ M ≤ 4 ∧ (0 < M → 0 < S)) ∧ σ 1 2 = τ 42 6 ∧ (∀ m, m < M → σ 2 m = τ 43 m ∧ ∃ j, j < 3 ∧ τ 43 m = nI j) ∧ fm_E (kC σ) (kR τ) S M ∧ lk9 (kR τ) S M
def iO (σ τ : Mem) (S M C : Nat) (so mo : Nat → Nat) : Prop := σ 13 4 = nI C ∧ τ 42 13 = nI C ∧ C ≤ 24 ∧ ∀ k, k < C → σ 14 k = nI (so k) ∧ σ 15 k = nI (mo k) ∧ τ 49 k = nI (so k) ∧ τ 50 k = nI (mo k) ∧ so k < S ∧ mo k < M
def iD (σ : Mem) (L : LT) (M C : Nat) (so mo : Nat → Nat) : Prop := 0 < M → dcR 17 σ (dyN L so mo C) ∧ ∀ j, j < C → σ 16 j = dyV L (dyN L so mo j) (so j) (mo j)
def iR (σ τ : Mem) (S M R : Nat) (rm rs : Nat → Nat) : Prop := σ 21 4 = nI R ∧ τ 42 20 = nI R ∧ R ≤ 8 ∧ ∀ k, k < R → σ 22 k = nI (rm k) ∧ τ 55 k = nI (rm k) ∧ rm k < M ∧ σ 23 k = nI (rs k) ∧ τ 56 k = nI (rs k) ∧ rs k < S ∧ σ 24 k = τ 57 k ∧ σ 25 k = τ 58 k
/-- a sheet: nothing, or a row, the same on both sides -/
def iS1 (σ τ : Mem) (k : Nat) : Prop := (∃ l, l ≤ 100 ∧ σ (34 + 2 * k) 3 = nI l) ∧ ((σ (34 + 2 * k) 1 = 0 ∧ τ 59 k = -1) ∨ (σ (34 + 2 * k) 1 = 1 ∧ ∃ L, L ≤ 100 ∧ σ (34 + 2 * k) 3 = nI L ∧ τ 59 k = nI L ∧ σ (34 + 2 * k) 2 = τ 60 k ∧ ∀ j, j < L → σ (35 + 2 * k) j = τ 61 (100 * k + j)))
def iS (σ τ : Mem) : Prop := ∀ k, k < 4 → iS1 σ τ k
def iT (σ τ : Mem) : Prop := σ 0 6 = τ 42 29 ∧ σ 0 7 = τ 42 0
def INV (σ : Mem) : Prop := ∃ S M C R : Nat, ∃ so mo rm rs : Nat → Nat, iV σ σ S M ∧ iO σ σ S M C so mo ∧ iD σ (lR σ) M C so mo ∧ iR σ σ S M R rm rs ∧ iS σ σ ∧ iT σ σ
section IV
variable {σ τ σ' τ' : Mem} {S M C R : Nat} {so mo rm rs : Nat → Nat}
theorem iV.VA (h : iV σ τ S M) : VA σ S M := ⟨h.1.1, h.1.2, h.2.2.1.1, h.2.2.1.2.1⟩
theorem iV.VM (h : iV σ τ S M) : VM τ S M := ⟨h.2.1.1, h.2.1.2, h.2.2.1.1, h.2.2.1.2.1⟩
theorem iV.kOK (h : iV σ τ S M) : kOK τ M := fun m hm => (h.2.2.2.2.1 m hm).2
theorem iV.kd (h : iV σ τ S M) {m : Nat} (hm : m < M) : σ 2 m = τ 43 m := (h.2.2.2.2.1 m hm).1
theorem iV.hE (h : iV σ τ S M) : fm_E (kC σ) (kR τ) S M := h.2.2.2.2.2.1
theorem iV.h9 (h : iV σ τ S M) : lk9 (kR τ) S M := h.2.2.2.2.2.2
theorem iV.her (h : iV σ τ S M) {m s : Nat} (hm : m < M) (hs : s < S) : σ (4 + m) s = τ 44 (6 * m + s) := (h.hE m hm s hs).1
theorem iV.his (h : iV σ τ S M) {m s : Nat} (hm : m < M) (hs : s < S) : σ (9 + m) s = τ 45 (6 * m + s) := (h.hE m hm s hs).2
theorem iV.lkOKm (h : iV σ τ S M) : lkOKm τ S M := fun m hm s hs => (h.h9 m hm s hs).1
theorem iV.lkOK (h : iV σ τ S M) : lkOK σ S M := fun m hm s hs => by
  obtain ⟨j, h1, h2⟩ := (h.h9 m hm s hs).1
  exact ⟨j, h1, (h.her hm hs).trans h2⟩
theorem iV.law (h : iV σ τ S M) : σ 1 2 = τ 42 6 := h.2.2.2.1
theorem iV.lc (h : iV σ τ S M) : lcE (lC σ) (lR τ) S M := ⟨h.law, fun _ hm => ⟨h.kd hm, fun _ hs => h.her hm hs⟩⟩
theorem iV.eM (h : iV σ τ S M) : hM σ = hMm τ := by
  funext x
  unfold hM hMm
  rw [h.1.2, h.2.1.2]
theorem iV.eS (h : iV σ τ S M) : hS σ = hSm τ := by
  funext x
  unfold hS hSm
  rw [h.1.1, h.2.1.1]
theorem iV.cM (h : iV σ τ S M) {x : Int32} (hx : hMm τ x) : x = nI (cl x) ∧ cl x < M ∧ cl x < 4 := by
  obtain ⟨m, e, h1, h2⟩ := hMm_n h.VM hx
  have e2 : cl x = m := clN e h2 (by decide)
  rw [e2]
  exact ⟨e, h1, h2⟩
theorem iV.cS (h : iV σ τ S M) {x : Int32} (hx : hSm τ x) : x = nI (cl x) ∧ cl x < S ∧ cl x < 6 := by
  obtain ⟨m, e, h1, h2⟩ := hSm_n h.VM hx
  have e2 : cl x = m := clN e h2 (by decide)
  rw [e2]
  exact ⟨e, h1, h2⟩
/-- a valley stands -/
theorem iV.st (h : iV σ τ S M) : 0 < σ 1 1 ↔ ¬ τ 42 2 = 0 := by
  have h4 := h.2.2.1.2.1
  rw [h.1.2, h.2.1.2, show (0 : Int32) = nI 0 from rfl, nI_ltI (by omega) (by omega), nI_eq (by omega) (by omega)]
  omega
theorem iV.M0 (h : iV σ τ S M) : 0 < σ 1 1 ↔ 0 < M := by
  have h4 := h.2.2.1.2.1
  rw [h.1.2, show (0 : Int32) = nI 0 from rfl, nI_ltI (by omega) (by omega)]
theorem iV.cg (h : iV σ τ S M) (h1 : ∀ a, 1 ≤ a → a ≤ 12 → σ' a = σ a) (h2 : ∀ a, 43 ≤ a → a ≤ 45 → τ' a = τ a) (h3 : ∀ j, j = 1 ∨ j = 2 ∨ j = 6 → τ' 42 j = τ 42 j) : iV σ' τ' S M := by
  have ek : kR τ' = kR τ := by unfold kR; rw [h2 44 (by decide) (by decide), h2 45 (by decide) (by decide)]
  obtain ⟨a, b, c, e, f, g, i⟩ := h
  refine ⟨by rw [h1 1 (by decide) (by decide)]; exact a, by rw [h3 1 (by decide), h3 2 (by decide)]; exact b, c, by rw [h1 1 (by decide) (by decide), h3 6 (by decide)]; exact e, fun m hm => by rw [h1 2 (by decide) (by decide), h2 43 (by decide) (by decide)]; exact f m hm, ?_, by rw [ek]; exact i⟩
  rw [ek]
  exact fm_E_row c.2.1 g (fun a q1 q2 => h1 a (by omega) (by omega))
theorem iO.cg (h : iO σ τ S M C so mo) (h1 : σ' 13 4 = σ 13 4) (h2 : σ' 14 = σ 14) (h3 : σ' 15 = σ 15) (h4 : τ' 42 13 = τ 42 13) (h5 : τ' 49 = τ 49) (h6 : τ' 50 = τ 50) : iO σ' τ' S M C so mo := by
  unfold iO
  rw [h1, h2, h3, h4, h5, h6]
  exact h
theorem iD.cg {L L' : LT} (h : iD σ L M C so mo) (h1 : ∀ a, a = 16 ∨ a = 18 ∨ a = 19 ∨ a = 20 → σ' a = σ a) (h2 : L' = L) : iD σ' L' M C so mo := by
  unfold iD dcR
  show 0 < M → ((∀ m, m < 4 → σ' 18 m = _ ∧ σ' 19 m = _) ∧ ∀ s, s < 6 → σ' 20 s = _) ∧ ∀ j, j < C → σ' 16 j = _
  rw [h2, h1 16 (by decide), h1 18 (by decide), h1 19 (by decide), h1 20 (by decide)]
  exact h
theorem iR.cg (h : iR σ τ S M R rm rs) (h1 : σ' 21 4 = σ 21 4) (h2 : ∀ a, 22 ≤ a → a ≤ 25 → σ' a = σ a) (h3 : τ' 42 20 = τ 42 20) (h4 : ∀ a, 55 ≤ a → a ≤ 58 → τ' a = τ a) : iR σ' τ' S M R rm rs := by
  unfold iR
  rw [h1, h3, h2 22 (by decide) (by decide), h2 23 (by decide) (by decide), h2 24 (by decide) (by decide), h2 25 (by decide) (by decide), h4 55 (by decide) (by decide), h4 56 (by decide) (by decide), h4 57 (by decide) (by decide), h4 58 (by decide) (by decide)]
  exact h
theorem iS1.cg {k : Nat} (h : iS1 σ τ k) (h1 : σ' (34 + 2 * k) = σ (34 + 2 * k)) (h2 : σ' (35 + 2 * k) = σ (35 + 2 * k)) (h3 : τ' 59 k = τ 59 k) (h4 : τ' 60 k = τ 60 k) (h5 : ∀ j, j < 100 → τ' 61 (100 * k + j) = τ 61 (100 * k + j)) : iS1 σ' τ' k := by
  unfold iS1
  rw [h1, h2, h3, h4]
  refine ⟨h.1, h.2.imp id (fun ⟨a, L, b, c, e, f, g⟩ => ⟨a, L, b, c, e, f, fun j hj => (g j hj).trans (h5 j (by omega)).symm⟩)⟩
theorem iS.cg (h : iS σ τ) (h1 : ∀ a, 34 ≤ a → a ≤ 41 → σ' a = σ a) (h2 : ∀ a, 59 ≤ a → a ≤ 61 → τ' a = τ a) : iS σ' τ' := fun k hk =>
  (h k hk).cg (h1 _ (by omega) (by omega)) (h1 _ (by omega) (by omega)) (congrFun (h2 59 (by decide) (by decide)) k) (congrFun (h2 60 (by decide) (by decide)) k) (fun j _ => congrFun (h2 61 (by decide) (by decide)) _)
theorem lR_cg (h1 : τ' 42 6 = τ 42 6) (h2 : τ' 43 = τ 43) (h3 : τ' 44 = τ 44) : lR τ' = lR τ := by
  unfold lR
  rw [h1, h2, h3]
theorem iS.sht (h : iS σ τ) : SHT σ := fun k hk => (h k hk).1
theorem iS.szOK (h : iS σ τ) : szOK τ := fun k hk => by
  rcases (h k hk).2 with ⟨_, e⟩ | ⟨_, L, hL, _, e, _⟩
  · exact Or.inl e
  · exact Or.inr ⟨L, hL, e⟩
theorem iO.OF (h : iO σ τ S M C so mo) (hV : iV σ τ S M) : OF σ C so mo := ⟨h.1, h.2.2.1, fun k hk => by
  obtain ⟨a, b, c, e, f, g⟩ := h.2.2.2 k hk
  have := hV.2.2.1
  exact ⟨a, by omega, b, by omega⟩⟩
theorem iO.OFm (h : iO σ τ S M C so mo) (hV : iV σ τ S M) : OFm τ C so mo := ⟨h.2.1, h.2.2.1, fun k hk => by
  obtain ⟨a, b, c, e, f, g⟩ := h.2.2.2 k hk
  have := hV.2.2.1
  exact ⟨c, by omega, e, by omega, hV.kOK _ g⟩⟩
theorem iO.lt (h : iO σ τ S M C so mo) (hV : iV σ τ S M) : ∀ j, j < C → so j < 6 ∧ mo j < 4 := fun k hk => by
  obtain ⟨a, b, c, e, f, g⟩ := h.2.2.2 k hk
  have := hV.2.2.1
  omega
theorem iR.RD (h : iR σ τ S M R rm rs) (hV : iV σ τ S M) : RD σ R rs := ⟨h.1, h.2.2.1, fun k hk => by
  obtain ⟨a, b, c, e, f, g, i⟩ := h.2.2.2 k hk
  have := hV.2.2.1
  exact ⟨e, by omega⟩⟩
end IV
/-- cells that no later call sees -/
def scr (a : Nat) : Prop := a = 0 ∨ (26 ≤ a ∧ a ≤ 31) ∨ a = 33 ∨ a = 42 ∨ (46 ≤ a ∧ a ≤ 48) ∨ (51 ≤ a ∧ a ≤ 54) ∨ a = 62
theorem INV.sm {σ τ : Mem} (h : INV σ) (h1 : ∀ a, ¬ scr a → τ a = σ a) (h2 : τ 0 6 = σ 0 6) (h3 : ∀ j, j = 1 ∨ j = 2 ∨ j = 6 ∨ j = 13 ∨ j = 20 ∨ j = 29 → τ 42 j = σ 42 j) (h4 : τ 0 7 = τ 42 0) : INV τ := by
  obtain ⟨S, M, C, R, so, mo, rm, rs, hV, hO, hD, hR, hSt, hT⟩ := h
  unfold scr at h1
  refine ⟨S, M, C, R, so, mo, rm, rs, hV.cg (fun a _ _ => h1 a (by omega)) (fun a _ _ => h1 a (by omega)) (fun j hj => h3 j (by omega)), hO.cg (congrFun (h1 13 (by omega)) 4) (h1 14 (by omega)) (h1 15 (by omega)) (h3 13 (by omega)) (h1 49 (by omega)) (h1 50 (by omega)), hD.cg (fun a ha => h1 a (by omega)) (lR_cg (h3 6 (by omega)) (h1 43 (by omega)) (h1 44 (by omega))), hR.cg (congrFun (h1 21 (by omega)) 4) (fun a _ _ => h1 a (by omega)) (h3 20 (by omega)) (fun a _ _ => h1 a (by omega)), hSt.cg (fun a _ _ => h1 a (by omega)) (fun a _ _ => h1 a (by omega)), ?_, h4⟩
  rw [h2, h3 29 (by omega)]
  exact hT.1
theorem INV.SC {σ τ : Mem} (h : INV σ) (hs : SC σ τ) : INV τ := by
  have hT : σ 0 7 = σ 42 0 := by obtain ⟨S, M, C, R, so, mo, rm, rs, hV, hO, hD, hR, hSt, hT⟩ := h; exact hT.2
  have h0 := hs.1
  refine h.sm (fun a ha => h0 a (fun e => ha ?_) (fun e => ha ?_) (fun e => ha ?_)) (congrFun (h0 0 (by decide) (by decide) (by decide)) 6) (fun j _ => congrFun (h0 42 (by decide) (by decide) (by decide)) j) ?_
  · unfold scr; omega
  · unfold scr; omega
  · unfold scr; omega
  · rw [h0 0 (by decide) (by decide) (by decide), h0 42 (by decide) (by decide) (by decide)]; exact hT
/-- both sides do a call: the same answer, and all hold together behind it -/
def TWi (d : Nat) (M1 M2 : MT) (as : List Value) (σ : Mem) : Prop := PMet d M1 (.ref 0 :: as) σ (Pi (fun v σ1 => PMet d M2 (.ref 42 :: as) σ1 (Pi (fun w σ2 => w = v ∧ INV σ2))))
def TWl (d : Nat) (M1 M2 : MT) (as : List Value) (σ : Mem) : Prop := PMet d M1 (.ref 0 :: as) σ (Pl (fun v σ1 => PMet d M2 (.ref 42 :: as) σ1 (Pl (fun w σ2 => w = v ∧ INV σ2))))
section TW
variable {d : Nat} {M1 M2 : MT} {as : List Value} {σ : Mem}
theorem TWi.b {P1 : Int32 → Mem → Prop} (c : PMet d M1 (.ref 0 :: as) σ (Pi P1)) (k : ∀ v σ1, P1 v σ1 → ∃ Q : Int32 → Mem → Prop, PMet d M2 (.ref 42 :: as) σ1 (Pi Q) ∧ ∀ w σ2, Q w σ2 → w = v ∧ INV σ2) : TWi d M1 M2 as σ :=
  c.weaken (fun r σ1 h => by
    obtain ⟨v, e, h⟩ := h
    obtain ⟨Q, k1, k2⟩ := k v σ1 h
    exact ⟨v, e, k1.weaken (fun r2 σ2 h2 => by
      obtain ⟨w, e2, h2⟩ := h2
      exact ⟨w, e2, k2 w σ2 h2⟩)⟩)
theorem TWi.g {F F2 : Int32} {G : Mem} {Q : Mem → Prop} (c : PMet d M1 (.ref 0 :: as) σ (Pi (fun v σ2 => v = F ∧ σ2 = G))) (k : PMet d M2 (.ref 42 :: as) G (Pi (fun w σ2 => w = F2 ∧ Q σ2))) (e : F2 = F) (hk : ∀ σ2, Q σ2 → INV σ2) : TWi d M1 M2 as σ :=
  TWi.b c (fun v σ1 h => ⟨fun w σ2 => w = F2 ∧ Q σ2, by rw [h.2]; exact k, fun w σ2 h2 => ⟨h2.1.trans (e.trans h.1.symm), hk σ2 h2.2⟩⟩)
theorem TWl.g {F F2 : Int64} {G : Mem} {Q : Mem → Prop} (c : PMet d M1 (.ref 0 :: as) σ (Pl (fun v σ2 => v = F ∧ σ2 = G))) (k : PMet d M2 (.ref 42 :: as) G (Pl (fun w σ2 => w = F2 ∧ Q σ2))) (e : F2 = F) (hk : ∀ σ2, Q σ2 → INV σ2) : TWl d M1 M2 as σ :=
  c.weaken (fun r σ1 h => by
    obtain ⟨v, e1, h⟩ := h
    refine ⟨v, e1, ?_⟩
    rw [h.2]
    exact k.weaken (fun r2 σ2 h2 => by
      obtain ⟨w, e2, h2⟩ := h2
      exact ⟨w, e2, h2.1.trans (e.trans h.1.symm), hk σ2 h2.2⟩))
end TW
theorem INV.eq {σ τ : Mem} (h : INV σ) (e : τ = σ) : INV τ := e ▸ h
/-! questions that change nothing -/
theorem t_likes {σ : Mem} (h : INV σ) (x y z : Int32) {d : Nat} (hd : 12 ≤ d) : TWi d mX7_likes mX8_likes [.int x, .int y, .int z] σ := by
  obtain ⟨S, M, C, R, so, mo, rm, rs, hV, hO, hD, hR, hSt, hT⟩ := id h
  refine TWi.g (c_likes σ S M hV.VA x y z d (by omega)) (k_likes σ S M hV.VM x y z d (by omega)) ?_ (fun σ2 e => h.eq e)
  rw [hV.eM, hV.eS]
  exact cnd_cg Iff.rfl (fun hx => cnd_cg Iff.rfl (fun hy => cnd_cg Iff.rfl (fun _ => (hV.her (hV.cM hx).2.1 (hV.cS hy).2.1).symm) (fun _ => cnd_cg Iff.rfl (fun _ => (hV.his (hV.cM hx).2.1 (hV.cS hy).2.1).symm) (fun _ => rfl))) (fun _ => rfl)) (fun _ => rfl)
theorem goFm_INV {σ : Mem} (h : INV σ) (so mo : Nat → Nat) (C : Nat) : INV (goFm σ so mo C) := by
  have row : ∀ a, a ≠ 52 → a ≠ 53 → a ≠ 54 → a ≠ 51 → goFm σ so mo C a = σ a := fun a h1 h2 h3 h4 => goFm_row σ so mo h1 h2 h3 h4 C
  have hT : σ 0 7 = σ 42 0 := by obtain ⟨S, M, C, R, so, mo, rm, rs, hV, hO, hD, hR, hSt, hT⟩ := h; exact hT.2
  refine h.sm (fun a ha => ?_) (congrFun (row 0 (by decide) (by decide) (by decide) (by decide)) 6) (fun j _ => congrFun (row 42 (by decide) (by decide) (by decide) (by decide)) j) ?_
  · unfold scr at ha
    exact row a (by omega) (by omega) (by omega) (by omega)
  · rw [row 0 (by decide) (by decide) (by decide) (by decide), row 42 (by decide) (by decide) (by decide) (by decide)]; exact hT
theorem t_ofMaid {σ : Mem} (h : INV σ) (x z : Int32) {d : Nat} (hd : 12 ≤ d) : TWi d mX7_ofMaid mX8_ofMaid [.int x, .int z] σ := by
  obtain ⟨S, M, C, R, so, mo, rm, rs, hV, hO, hD, hR, hSt, hT⟩ := id h
  refine TWi.g (c_ofMaid σ S M hV.VA x z d (by omega)) (k_ofMaid σ S M C so mo hV.VM (hO.OFm hV) hV.kOK x z d (by omega)) ?_ (fun σ2 e => ?_)
  · rw [hV.eM]
    refine cnd_cg Iff.rfl (fun hx => ?_) (fun _ => rfl)
    obtain ⟨e, h1, h2⟩ := hV.cM hx
    obtain ⟨d1, -⟩ := hD (by omega)
    obtain ⟨g1, -⟩ := dr_go (σ := σ) (so := so) (mo := mo) C (hO.lt hV)
    obtain ⟨a1, a2⟩ := d1.1 (cl x) h2
    obtain ⟨b1, b2⟩ := g1.1 (cl x) h2
    rw [b1, b2, hV.kd h1, show σ 18 (cl x) = _ from a1, show σ 19 (cl x) = _ from a2]
    refine cnd_cg Iff.rfl (fun _ => rfl) (fun _ => cnd_cg Iff.rfl (fun _ => rfl) (fun _ => cnd_cg Iff.rfl (fun _ => rfl) (fun _ => cnd_cg Iff.rfl (fun _ => ?_) (fun _ => rfl))))
    unfold w9
    by_cases q : (dyN (lR σ) so mo C).2.1 (cl x) = -1
    · rw [if_pos q, cnd_t q]
    · rw [if_neg q, cnd_f q]
  · rw [e]
    exact cnd_in INV (fun _ => goFm_INV h so mo C) (fun _ => h)
theorem t_comes {σ : Mem} (h : INV σ) (x : Int32) {d : Nat} (hd : 12 ≤ d) : TWi d mX7_comes mX8_comes [.int x] σ := by
  obtain ⟨S, M, C, R, so, mo, rm, rs, hV, hO, hD, hR, hSt, hT⟩ := id h
  refine TWi.g (c_comes σ S M C so mo hV.VA (hO.OF hV) x d (by omega)) (k_comes σ S M C so mo hV.VM (hO.OFm hV) x d (by omega)) ?_ (fun σ2 e => ?_)
  · rw [hO.1]
    refine cnd_cg Iff.rfl (fun hx => ?_) (fun _ => rfl)
    have hC := hO.2.2.1
    obtain ⟨j, e, -, hj⟩ := dig (a := 0) (b := C) (by decide) (by omega) hx.1 hx.2
    have e2 : cl x = j := clN e hj (by omega)
    rw [e2]
    obtain ⟨-, d2⟩ := hD (by have := (hO.2.2.2 j hj).2.2.2.2.2; omega)
    obtain ⟨-, g2⟩ := dr_go (σ := σ) (so := so) (mo := mo) C (hO.lt hV)
    rw [d2 j hj, g2 j hj]
  · rw [e]
    exact cnd_in INV (fun _ => goFm_INV h so mo C) (fun _ => h)
theorem fig_w9 {x : Int32} (h : x = -1 ∨ ∃ b, b < 6 ∧ x = nI b) : figM (w9 x) = figF x := by
  unfold figM figF
  rcases h with h | ⟨b, hb, h⟩
  · rw [h]; rfl
  · rw [h, w9_ne (nI_nm1 (by omega)), if_neg (nI_pos (by omega)), if_neg (nI_nm1 (by omega))]
theorem pr_eq {f g : Nat → Int32} {S : Nat} (h : ∀ s, s < S → figM (g s) = figF (f s)) : ∀ j, j ≤ S → prM g S j = prF f S j
  | 0, _ => rfl
  | j + 1, hj => by
    show 10 * prM g S j + (figM (g (S - 1 - j))).toInt64 = prF f S j * 10 + (figF (f (S - 1 - j))).toInt64
    rw [pr_eq h j (by omega), h (S - 1 - j) (by omega), Int64.mul_comm]
theorem t_pairs {σ : Mem} (h : INV σ) {d : Nat} (hd : 12 ≤ d) : TWl d mX7_pairs mX8_pairs [] σ := by
  obtain ⟨S, M, C, R, so, mo, rm, rs, hV, hO, hD, hR, hSt, hT⟩ := id h
  refine TWl.g (c_pairs σ S M hV.VA d (by omega)) (k_pairs σ S M C so mo hV.VM (hO.OFm hV) d (by omega)) ?_ (fun σ2 e => ?_)
  · by_cases q : σ 42 2 = 0
    · rw [cnd_t q, cnd_f (fun z => hV.st.mp z q)]
    · have q2 := hV.st.mpr q
      rw [cnd_f q, cnd_t q2]
      obtain ⟨d1, -⟩ := hD (hV.M0.mp q2)
      obtain ⟨g1, -⟩ := dr_go (σ := σ) (so := so) (mo := mo) C (hO.lt hV)
      have hS6 := hV.2.2.1.1
      refine pr_eq (fun s hs => ?_) S (Nat.le_refl _)
      rw [g1.2 s (by omega), show σ 20 s = _ from d1.2 s (by omega)]
      exact fig_w9 (((dyN_W (lR σ) C (hO.lt hV)).2 s).imp id (fun ⟨b, hb, e⟩ => ⟨b, by omega, e⟩))
  · rw [e]
    exact cnd_in INV (fun _ => h) (fun _ => goFm_INV h so mo C)
theorem t_sent {σ : Mem} (h : INV σ) (x y : Int32) {d : Nat} (hd : 12 ≤ d) : TWi d mX7_sent mX8_sent [.int x, .int y] σ := by
  obtain ⟨S, M, C, R, so, mo, rm, rs, hV, hO, hD, hR, hSt, hT⟩ := id h
  refine TWi.g (c_sent σ S M hV.VA x y d (by omega)) (k_sent σ S M hV.VM hV.kOK x y d (by omega)) ?_ (fun σ2 e => h.SC e)
  rw [hV.eM, hV.eS]
  refine cnd_cg Iff.rfl (fun hx => cnd_cg Iff.rfl (fun hy => ?_) (fun _ => rfl)) (fun _ => rfl)
  have hm := (hV.cM hx).2.1
  have hs := (hV.cS hy).2.1
  have e : brSm σ S (cl x) (cl y) = brS σ S (cl x) (cl y) := by
    funext set
    unfold brSm brS brP
    rw [hV.law, hV.kd hm]
    refine propext (and_congr ⟨fun q s h1 h2 => ?_, fun q s h1 h2 => ?_⟩ ?_)
    · show ansF _ _ (σ (4 + cl x) s) _ = 3
      rw [hV.her hm h1]; exact q s h1 h2
    · show ansF _ _ (σ 44 (6 * cl x + s)) _ = 3
      rw [← hV.her hm h1]; exact q s h1 h2
    · show ¬ ansF _ _ (σ 44 (6 * cl x + cl y)) _ = 3 ↔ ¬ ansF _ _ (σ (4 + cl x) (cl y)) _ = 3
      rw [hV.her hm hs]
  rw [e]
theorem t_firm {σ : Mem} (h : INV σ) (y : Int32) {d : Nat} (hd : 12 ≤ d) : TWi d mX7_firm mX8_firm [.int y] σ := by
  obtain ⟨S, M, C, R, so, mo, rm, rs, hV, hO, hD, hR, hSt, hT⟩ := id h
  have hS6 := hV.2.2.1.1
  have hM4 := hV.2.2.1.2.1
  obtain ⟨f1, f2⟩ := fm_firmM (σ := σ) hS6 hM4 hV.hE
  have row : ∀ a, ¬ (26 ≤ a ∧ a ≤ 31) → firmM σ S M a = σ a := fun a ha => f2 a (by omega) (by omega) (by omega) (by omega) (by omega)
  have hI : INV (firmM σ S M) := by
    refine h.sm (fun a ha => row a (fun z => ha ?_)) (congrFun (row 0 (by decide)) 6) (fun j _ => congrFun (row 42 (by decide)) j) ?_
    · unfold scr; omega
    · rw [row 0 (by decide), row 42 (by decide)]; exact hT.2
  have hG : INV (cnd (y = -1 ∨ hS σ y) (cnd (0 < σ 1 1) (firmM σ S M) σ) σ) := cnd_in INV (fun _ => cnd_in INV (fun _ => hI) (fun _ => h)) (fun _ => h)
  have r2 : ∀ a, 42 ≤ a → cnd (y = -1 ∨ hS σ y) (cnd (0 < σ 1 1) (firmM σ S M) σ) σ a = σ a := fun a ha => cnd_in (fun ω : Mem => ω a = σ a) (fun _ => cnd_in (fun ω : Mem => ω a = σ a) (fun _ => row a (by omega)) (fun _ => rfl)) (fun _ => rfl)
  generalize hω : cnd (y = -1 ∨ hS σ y) (cnd (0 < σ 1 1) (firmM σ S M) σ) σ = ω at hG r2
  have c := c_firm σ S M hV.VA y d (by omega)
  rw [hω] at c
  have hVω : iV σ ω S M := hV.cg (fun _ _ _ => rfl) (fun a h1 _ => r2 a (by omega)) (fun j _ => congrFun (r2 42 (by decide)) j)
  refine TWi.g c (k_firm ω S M hVω.VM y d (by omega)) ?_ (fun σ2 e => hG.SC e)
  rw [hVω.eS]
  refine cnd_cg Iff.rfl (fun hy => ?_) (fun _ => rfl)
  by_cases q : ω 42 2 = 0
  · rw [cnd_t q, cnd_f (fun z => hVω.st.mp z q)]
  · rw [cnd_f q, cnd_t (hVω.st.mpr q)]
    have ek : kR ω = kR σ := by unfold kR; rw [r2 44 (by decide), r2 45 (by decide)]
    have eg : goodM ω S M = fm_G (kR σ) S M := by funext R; exact propext (by rw [← ek]; exact good_iff hS6 hM4)
    unfold frmV
    rw [eg]
    refine cnd_cg Iff.rfl (fun _ => f1.1.symm) (fun hn => ?_)
    have hy2 := hy.resolve_left hn
    obtain ⟨-, hs, -⟩ := hVω.cS hy2
    obtain ⟨R0, h1, h2⟩ := fm_ex hS6 hM4 hV.h9
    obtain ⟨R1, e1, g1⟩ := fstG_some h1 h2
    rw [e1, f1.2 R1 e1 (cl y) hs]
    show figM (layF (begM ω) R1 S M S 54 (cl y)) = _
    rw [lay_54 hS6 hM4 (by rw [ek]; exact g1) hs]
    refine fig_w9 ?_
    by_cases c : fm_w S M R1 (cl y) < M
    · rw [if_pos c]; exact Or.inr ⟨_, by omega, rfl⟩
    · rw [if_neg c]; exact Or.inl rfl
theorem t_brought {σ : Mem} (h : INV σ) {d : Nat} (hd : 12 ≤ d) : TWi d mX7_brought mX8_brought [] σ := by
  obtain ⟨S, M, C, R, so, mo, rm, rs, hV, hO, hD, hR, hSt, hT⟩ := id h
  have hS6 := hV.2.2.1.1
  have hM4 := hV.2.2.1.2.1
  have c := c_brought σ S M hV.VA d (by omega)
  by_cases q : 0 < σ 1 1
  · have hM0 := hV.M0.mp q
    have hb := fm_brg (K := kR σ) (L := lR σ) hS6 hM4 hM0 hV.hE hV.lc
    rw [cnd_t q, cnd_t q, hb] at c
    have row : ∀ a, ¬ (26 ≤ a ∧ a ≤ 31) → begF 27 σ a = σ a := fun a ha => begF_row (by omega) (by omega) (by omega)
    have hI : INV (begF 27 σ) := by
      refine h.sm (fun a ha => row a (fun z => ha ?_)) (congrFun (row 0 (by decide)) 6) (fun j _ => congrFun (row 42 (by decide)) j) ?_
      · unfold scr; omega
      · rw [row 0 (by decide), row 42 (by decide)]; exact hT.2
    have r2 : ∀ a, 42 ≤ a → begF 27 σ a = σ a := fun a ha => row a (by omega)
    have hVω : iV σ (begF 27 σ) S M := hV.cg (fun _ _ _ => rfl) (fun a h1 _ => r2 a (by omega)) (fun j _ => congrFun (r2 42 (by decide)) j)
    refine TWi.g c (k_brought (begF 27 σ) S M hVω.VM hVω.kOK d (by omega)) ?_ (fun σ2 e => hI.SC e)
    rw [cnd_f (hVω.st.mp q)]
    have ek : kR (begF 27 σ) = kR σ := by unfold kR; rw [r2 44 (by decide), r2 45 (by decide)]
    have el : lR (begF 27 σ) = lR σ := lR_cg (congrFun (r2 42 (by decide)) 6) (r2 43 (by decide)) (r2 44 (by decide))
    have eg : brG (begF 27 σ) S M = fm_b (kR σ) (lR σ) S M := by funext R; exact propext (by rw [← ek, ← el]; exact brG_iff hS6 hM4 hM0)
    rw [eg]
  · rw [cnd_f q, cnd_f q] at c
    refine TWi.g c (k_brought σ S M hV.VM hV.kOK d (by omega)) ?_ (fun σ2 e => h.SC e)
    exact cnd_t (Classical.byContradiction (fun z => q (hV.st.mpr z))) _ _
theorem gdF_gcd : ∀ k n a b, b < 2 ^ k → 2 * k + 1 ≤ n → gdF n a b = Nat.gcd a b
  | 0, n, a, b, hb, hn => by
    obtain ⟨n, rfl⟩ : ∃ m, n = m + 1 := ⟨n - 1, by omega⟩
    have e : b = 0 := by omega
    subst e
    unfold gdF
    rw [if_pos rfl, Nat.gcd_zero_right]
  | k + 1, n, a, b, hb, hn => by
    obtain ⟨n, rfl⟩ : ∃ m, n = m + 2 := ⟨n - 2, by omega⟩
    show (if b = 0 then a else gdF (n + 1) b (a % b)) = _
    by_cases h0 : b = 0
    · rw [if_pos h0, h0, Nat.gcd_zero_right]
    · rw [if_neg h0]
      have g1 : Nat.gcd a b = Nat.gcd b (a % b) := by rw [Nat.gcd_comm a b, Nat.gcd_rec b a, Nat.gcd_comm]
      have hr : a % b < b := Nat.mod_lt _ (by omega)
      show (if a % b = 0 then b else gdF n (a % b) (b % (a % b))) = _
      by_cases h1 : a % b = 0
      · rw [if_pos h1, g1, h1, Nat.gcd_zero_right]
      · rw [if_neg h1]
        have g2 : Nat.gcd b (a % b) = Nat.gcd (a % b) (b % (a % b)) := by rw [Nat.gcd_comm b (a % b), Nat.gcd_rec (a % b) b, Nat.gcd_comm]
        rw [g1, g2]
        refine gdF_gcd k n _ _ ?_ (by omega)
        have h2 : b % (a % b) < a % b := Nat.mod_lt _ (by omega)
        have h3 := Nat.div_add_mod b (a % b)
        have h4 : 0 < b / (a % b) := Nat.div_pos (by omega) (by omega)
        have h5 : a % b ≤ a % b * (b / (a % b)) := Nat.le_mul_of_pos_right _ h4
        rw [Nat.pow_succ] at hb
        omega
theorem sfF_cg {h g : Nat → Nat} {r f : Nat} : ∀ S, (∀ s, s < S → h s = g s) → sfF h r f S = sfF g r f S
  | 0, _ => rfl
  | S + 1, e => by
    show sfF h r f S + (if h S * r < f then f else h S * r) = sfF g r f S + (if g S * r < f then f else g S * r)
    rw [sfF_cg S (fun s hs => e s (by omega)), e S (by omega)]
theorem sorF_cg {h g : Nat → Nat} {S n r : Nat} (e : ∀ s, s < S → h s = g s) : ∀ k, sorF h S n r k = sorF g S n r k
  | 0 => rfl
  | k + 1 => by
    show sfF h (S ^ k) (if n - (k + 1) < r then sorF h S n r k else 0) S = sfF g (S ^ k) (if n - (k + 1) < r then sorF g S n r k else 0) S
    rw [sorF_cg e k, sfF_cg S e]
theorem t_worth {σ : Mem} (h : INV σ) (x n r z : Int32) {d : Nat} (hd : 12 ≤ d) : TWl d mX7_worth mX8_worth [.int x, .int n, .int r, .int z] σ := by
  obtain ⟨S, M, C, R, so, mo, rm, rs, hV, hO, hD, hR, hSt, hT⟩ := id h
  refine TWl.g (c_worth σ S M hV.VA hV.lkOK hV.2.2.1.2.2 x n r z d (by omega)) (k_worth σ S M hV.VM hV.lkOKm hV.2.2.1.2.2 x n r z d (by omega)) ?_ (fun σ2 e => h.eq e)
  rw [hV.eM]
  refine cnd_cg Iff.rfl (fun hx => cnd_cg Iff.rfl (fun hq => ?_) (fun _ => rfl)) (fun _ => rfl)
  have hm := (hV.cM hx).2.1
  have e1 : sorF (herM σ (cl x)) S (cl n) (cl r) (cl n) = sorF (herN σ (cl x)) S (cl n) (cl r) (cl n) := sorF_cg (fun s hs => by unfold herM herN; rw [hV.her hm hs]) _
  have hS6 := hV.2.2.1.1
  have hn4 : cl n ≤ 4 := by
    obtain ⟨j, e, -, hj⟩ := dig (a := 0) (b := 5) (c := n) (by decide) (by decide) (Int32.le_trans (by decide) hq.1) (Int32.lt_of_le_of_lt hq.2.1 (by decide))
    have : cl n = j := clN e hj (by decide)
    omega
  have hp : S ^ cl n < 2 ^ 11 := by
    have h2 : ∀ a, a < 7 → ∀ b, b < 5 → a ^ b < 2 ^ 11 := by decide +kernel
    exact h2 S (by omega) _ (by omega)
  rw [e1, gdF_gcd 11 50 _ _ hp (by decide)]
theorem t_learnt {σ : Mem} (h : INV σ) (x y z : Int32) {d : Nat} (hd : 12 ≤ d) : TWi d mX7_learnt mX8_learnt [.int x, .int y, .int z] σ := by
  obtain ⟨S, M, C, R, so, mo, rm, rs, hV, hO, hD, hR, hSt, hT⟩ := id h
  refine TWi.g (c_learnt σ S M R rs hV.VA (hR.RD hV) x y z d (by omega)) (k_learnt σ S M hV.VM R hR.2.1 hR.2.2.1 hV.kOK x y z d (by omega)) ?_ (fun σ2 e => h.eq e)
  rw [hV.eM, hV.eS]
  refine cnd_cg Iff.rfl (fun hx => cnd_cg Iff.rfl (fun hy => ?_) (fun _ => rfl)) (fun _ => rfl)
  have hm := (hV.cM hx).2.1
  have e : (fun v => soLm σ R (cl x) (cl y) (nI v)) = (fun v => soL σ R (cl x) (cl y) (nI v)) := by
    funext v
    unfold soLm soL
    rw [hV.kd hm]
    refine propext ⟨fun q k hk => ?_, fun q k hk => ?_⟩
    · obtain ⟨a, b, c, e, f, g, i, j⟩ := hR.2.2.2 k hk
      have := q k hk
      rw [b, f, ← i, ← j] at this
      rw [a, e]; exact this
    · obtain ⟨a, b, c, e, f, g, i, j⟩ := hR.2.2.2 k hk
      have := q k hk
      rw [a, e, i, j] at this
      rw [b, f]; exact this
  rw [e, frR_ls]
  by_cases z0 : z = 0
  · rw [cnd_t (Or.inl z0), cnd_t z0, cnd_t z0]
  · by_cases z1 : z = 1
    · rw [cnd_t (Or.inr z1), cnd_f z0, cnd_f z0, cnd_t z1]
    · rw [cnd_f (fun q => q.elim z0 z1), cnd_f z0, cnd_f z1]
theorem t_kinds {σ : Mem} (h : INV σ) (x : Int32) {d : Nat} (hd : 12 ≤ d) : TWi d mX7_kinds mX8_kinds [.int x] σ := by
  obtain ⟨S, M, C, R, so, mo, rm, rs, hV, hO, hD, hR, hSt, hT⟩ := id h
  have hS6 := hV.2.2.1.1
  refine TWi.g (c_kinds σ S M R rs hV.VA (hR.RD hV) x d (by omega)) (k_kinds σ S M hV.VM R rs hR.2.1 hR.2.2.1 (fun k hk => by obtain ⟨a, b, c, e, f, g, i, j⟩ := hR.2.2.2 k hk; exact ⟨f, by omega⟩) x d (by omega)) ?_ (fun σ2 e => h.eq e)
  rw [hV.eM]
  refine cnd_cg Iff.rfl (fun hx => ?_) (fun _ => rfl)
  have hm := (hV.cM hx).2.1
  have e : (fun v => soKm σ R (cl x) rs (nI v)) = (fun v => soK σ R (cl x) rs (nI v)) := by
    funext v
    unfold soKm soK
    refine propext ⟨fun q k hk => ?_, fun q k hk => ?_⟩
    · obtain ⟨a, b, c, e, f, g, i, j⟩ := hR.2.2.2 k hk
      have := q k hk
      rw [b, ← i, ← j, ← hV.her hm g] at this
      rw [a]; exact this
    · obtain ⟨a, b, c, e, f, g, i, j⟩ := hR.2.2.2 k hk
      have := q k hk
      rw [a, i, j, hV.her hm g] at this
      rw [b]; exact this
  rw [e]
theorem t_trace {σ : Mem} (h : INV σ) {d : Nat} (hd : 12 ≤ d) : TWi d mX7_trace mX8_trace [] σ := by
  obtain ⟨S, M, C, R, so, mo, rm, rs, hV, hO, hD, hR, hSt, hT⟩ := id h
  exact TWi.g (c_trace σ d (by omega)) (k_trace σ d (by omega)) hT.1.symm (fun σ2 e => h.eq e)
theorem t_fault {σ : Mem} (h : INV σ) {d : Nat} (hd : 12 ≤ d) : TWi d mX7_fault mX8_fault [] σ := by
  obtain ⟨S, M, C, R, so, mo, rm, rs, hV, hO, hD, hR, hSt, hT⟩ := id h
  exact TWi.g (c_fault σ d (by omega)) (k_fault σ d (by omega)) hT.2.symm (fun σ2 e => h.eq e)
theorem t_many {σ : Mem} (h : INV σ) (z : Int32) {d : Nat} (hd : 12 ≤ d) : TWi d mX7_many mX8_many [.int z] σ := by
  obtain ⟨S, M, C, R, so, mo, rm, rs, hV, hO, hD, hR, hSt, hT⟩ := id h
  refine TWi.g (c_many σ z d (by omega)) (k_many σ z d (by omega)) ?_ (fun σ2 e => h.eq e)
  rw [hV.1.1, hV.1.2, hV.2.1.1, hV.2.1.2, hO.1, hO.2.1, hR.1, hR.2.1, hV.law]

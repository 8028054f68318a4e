/-! ===== the class's public calls (1): words, small helpers, the valley's questions ===== -/
theorem tq_aret {d : Nat} {Post : Option Value → Mem → Prop} {M : MT} {pc : Nat} {ls : List (Nat × Value)} {σ : Mem} {i : Nat} {ty : FieldType} (hr : M.2.2.2 = some (.array ty)) (hd : decode M.2.1 pc = .ok (.areturn, 1)) (hp : Post (some (.ref i)) σ) : PAt (EM d Post) M pc ls [.ref i] σ :=
  fun p l e s m args below meth c G A H locs lsr C hX hA hP hD hS hl => W.aret (v := .ref (G.2.2 i)) C.1 C.2.1 (C.2.2.2.2.2.1.trans hr) (Or.inr ⟨_, rfl⟩) (Or.inr ⟨_, rfl⟩) (fun t ht hW => PQ_of (some (.ref i)) hp hP C.2.2.2.2.2.2.2 hD hS ht hW) hS.2.2 hd C.2.2.2.2.2.2.1
noncomputable def cnd {α : Type} (P : Prop) (a b : α) : α := @ite α P (Classical.propDecidable P) a b
theorem cnd_t {α : Type} {P : Prop} (h : P) (a b : α) : cnd P a b = a := by unfold cnd; exact if_pos h
theorem cnd_f {α : Type} {P : Prop} (h : ¬ P) (a b : α) : cnd P a b = b := by unfold cnd; exact if_neg h
theorem cnd_cg {α : Type} {P Q : Prop} {a a' b b' : α} (e : P ↔ Q) (h1 : P → a = a') (h2 : ¬ P → b = b') : cnd P a b = cnd Q a' b' := by
  by_cases h : P
  · rw [cnd_t h, cnd_t (e.mp h)]; exact h1 h
  · rw [cnd_f h, cnd_f (fun q => h (e.mpr q))]; exact h2 h
theorem cnd_in {α : Type} {P : Prop} {a b : α} (I : α → Prop) (h1 : P → I a) (h2 : ¬ P → I b) : I (cnd P a b) := by
  by_cases h : P
  · rw [cnd_t h]; exact h1 h
  · rw [cnd_f h]; exact h2 h
def hM (σ : Mem) (x : Int32) : Prop := 0 ≤ x ∧ x < σ 1 1
def hS (σ : Mem) (x : Int32) : Prop := 0 ≤ x ∧ x < σ 1 0
def isSh (k : Int32) : Prop := 0 ≤ k ∧ k < 4
def isLn (k : Int32) : Prop := 0 ≤ k ∧ k ≤ 2
abbrev cl (x : Int32) : Nat := x.toNatClampNeg
theorem hM_n {σ : Mem} {S M : Nat} {x : Int32} (hV : VA σ S M) (h : hM σ x) : ∃ m, x = nI m ∧ m < M ∧ m < 4 := by
  have h4 := hV.2.2.2
  have h2 := h.2
  rw [hV.2.1] at h2
  obtain ⟨j, e, _, h3⟩ := dig (a := 0) (b := M) (by decide) (by omega) h.1 h2
  exact ⟨j, e, h3, by omega⟩
theorem hS_n {σ : Mem} {S M : Nat} {x : Int32} (hV : VA σ S M) (h : hS σ x) : ∃ m, x = nI m ∧ m < S ∧ m < 6 := by
  have h4 := hV.2.2.1
  have h2 := h.2
  rw [hV.1] at h2
  obtain ⟨j, e, _, h3⟩ := dig (a := 0) (b := S) (by decide) (by omega) h.1 h2
  exact ⟨j, e, h3, by omega⟩
theorem isSh_n {x : Int32} (h : isSh x) : ∃ k, x = nI k ∧ k < 4 := by
  obtain ⟨j, e, _, h3⟩ := dig (a := 0) (b := 4) (by decide) (by decide) h.1 h.2
  exact ⟨j, e, h3⟩
theorem in9_n {x : Int32} (h : 0 ≤ x ∧ x ≤ 9) : ∃ k, x = nI k ∧ k < 10 := by
  obtain ⟨j, e, _, h3⟩ := dig (a := 0) (b := 10) (c := x) (by decide) (by decide) h.1 (by rw [show nI 10 = (9 : Int32) + 1 by decide]; exact Int32.lt_of_le_of_lt h.2 (by decide))
  exact ⟨j, e, h3⟩
theorem nI_divN {a b : Nat} (ha : a < 2 ^ 31) (hb : b < 2 ^ 31) : nI a / nI b = nI (a / b) := by
  have h3 : a / b ≤ a := Nat.div_le_self a b
  apply Int32.toInt_inj.mp
  rw [Int32.toInt_div, nI_toInt ha, nI_toInt hb, nI_toInt (by omega), ← Int.ofNat_tdiv]
  generalize a / b = c at h3 ⊢
  exact Int.bmod_eq_of_le (by omega) (by omega)
theorem nI_modN {a b : Nat} (ha : a < 2 ^ 31) (hb : b < 2 ^ 31) : nI a - nI a / nI b * nI b = nI (a % b) := by
  have h3 : a / b * b ≤ a := Nat.div_mul_le_self a b
  rw [nI_divN ha hb, nI_mulN, nI_subN h3]
  congr 1
  have := Nat.div_add_mod a b
  rw [Nat.mul_comm] at this
  omega
def gdF : Nat → Nat → Nat → Nat
  | 0, a, _ => a
  | n + 1, a, b => if b = 0 then a else gdF n b (a % b)
def figF (x : Int32) : Int32 := if x = -1 then 9 else x
/-- offers as the memory has them -/
def OF (σ : Mem) (C : Nat) (so mo : Nat → Nat) : Prop := σ 13 4 = nI C ∧ C ≤ 24 ∧ ∀ k, k < C → σ 14 k = nI (so k) ∧ so k < 6 ∧ σ 15 k = nI (mo k) ∧ mo k < 4
def RD (σ : Mem) (R : Nat) (rs : Nat → Nat) : Prop := σ 21 4 = nI R ∧ R ≤ 8 ∧ ∀ k, k < R → σ 23 k = nI (rs k) ∧ rs k < 6
def SHT (σ : Mem) : Prop := ∀ k, k < 4 → ∃ l, l ≤ 100 ∧ σ (34 + 2 * k) 3 = nI l
theorem OF_rows {σ τ : Mem} {C : Nat} {so mo : Nat → Nat} (h : OF σ C so mo) (h1 : τ 13 = σ 13) (h2 : τ 14 = σ 14) (h3 : τ 15 = σ 15) : OF τ C so mo := by
  unfold OF
  rw [h1, h2, h3]
  exact h
noncomputable def mndR (P : Nat → Prop) (f : Nat → Int32) : Nat → Nat → Int32
  | 0, _ => 0
  | n + 1, k => cnd (P k) (f k) (mndR P f n (k + 1))
theorem mndR_t {P : Nat → Prop} {f : Nat → Int32} {j : Nat} : ∀ (n k : Nat), k ≤ j → j < k + n → P j → (∀ i, k ≤ i → i < j → ¬ P i) → mndR P f n k = f j
  | 0, k, h1, h2, _, _ => by omega
  | n + 1, k, h1, h2, h3, h4 => by
    unfold mndR
    by_cases e : k = j
    · subst e; exact cnd_t h3 _ _
    · rw [cnd_f (h4 k (Nat.le_refl _) (by omega))]
      exact mndR_t n (k + 1) (by omega) (by omega) h3 (fun i h5 h6 => h4 i (by omega) h6)
theorem mndR_0 {P : Nat → Prop} {f : Nat → Int32} : ∀ (n k : Nat), (∀ i, k ≤ i → i < k + n → ¬ P i) → mndR P f n k = 0
  | 0, k, _ => rfl
  | n + 1, k, h => by
    unfold mndR
    rw [cnd_f (h k (Nat.le_refl _) (by omega))]
    exact mndR_0 n (k + 1) (fun i h1 h2 => h i (by omega) (by omega))
theorem mnd_eq {P : Nat → Prop} {f : Nat → Int32} {L : Nat} {v : Int32} (h : mndP P f L v) : v = mndR P f L 0 := by
  rcases h with ⟨k, h1, h2, h3, rfl⟩ | ⟨h1, rfl⟩
  · exact (mndR_t L 0 (Nat.zero_le _) (by omega) h2 (fun i _ h5 => h3 i h5)).symm
  · exact (mndR_0 L 0 (fun i _ h5 => h1 i (by omega))).symm

set_option maxHeartbeats 4000000 in
set_option maxRecDepth 20000 in
theorem c_faultless (σ : Mem) (x : Int32) (d : Nat) (hd : 0 ≤ d) : PMet d mX7_faultless [.ref 0, .int x] σ (Pi (fun v σ2 => v = x ∧ σ2 = up σ 0 7 0)) := by
  refine PMet.start (ls0 := [(0, .ref 0), (1, .int x)]) miX7_faultless.1 (Nat.le_of_ble_eq_true rfl) rfl ?_
  refine tq_aload_n 0 (dget dX7_faultless 0 rfl) rfl rfl ?_
  refine tq_iconst (v := 0) (dget dX7_faultless 1 rfl) rfl ?_
  refine tq_putI (dget dX7_faultless 2 rfl) fX7_223 rfl rfl rfl rfl ?_
  refine tq_iload_n 1 (dget dX7_faultless 3 rfl) rfl rfl ?_
  exact tq_iret rfl (dget dX7_faultless 4 rfl) ⟨_, rfl, rfl, rfl⟩
set_option maxHeartbeats 4000000 in
set_option maxRecDepth 20000 in
theorem c_faulted (σ : Mem) (x : Int32) (d : Nat) (hd : 0 ≤ d) : PMet d mX7_faulted [.ref 0, .int x] σ (Pi (fun v σ2 => v = -10 - x ∧ σ2 = up σ 0 7 x)) := by
  refine PMet.start (ls0 := [(0, .ref 0), (1, .int x)]) miX7_faulted.1 (Nat.le_of_ble_eq_true rfl) rfl ?_
  refine tq_aload_n 0 (dget dX7_faulted 0 rfl) rfl rfl ?_
  refine tq_iload_n 1 (dget dX7_faulted 1 rfl) rfl rfl ?_
  refine tq_putI (dget dX7_faulted 2 rfl) fX7_223 rfl rfl rfl rfl ?_
  refine tq_bipush (v := (-10)) (dget dX7_faulted 3 rfl) rfl ?_
  refine tq_iload_n 1 (dget dX7_faulted 4 rfl) rfl rfl ?_
  refine tq_isub (dget dX7_faulted 5 rfl) ?_
  exact tq_iret rfl (dget dX7_faulted 6 rfl) ⟨_, rfl, rfl, rfl⟩
set_option maxHeartbeats 4000000 in
set_option maxRecDepth 20000 in
theorem c_lost (σ : Mem) (x : Int32) (d : Nat) (hd : 0 ≤ d) : PMet d mX7_lost [.ref 0, .int x] σ (Pl (fun v σ2 => v = (-9223372036854775808) ∧ σ2 = up σ 0 7 x)) := by
  refine PMet.start (ls0 := [(0, .ref 0), (1, .int x)]) miX7_lost.1 (Nat.le_of_ble_eq_true rfl) rfl ?_
  refine tq_aload_n 0 (dget dX7_lost 0 rfl) rfl rfl ?_
  refine tq_iload_n 1 (dget dX7_lost 1 rfl) rfl rfl ?_
  refine tq_putI (dget dX7_lost 2 rfl) fX7_223 rfl rfl rfl rfl ?_
  refine tq_ldc2 (v := (-9223372036854775808)) (dget dX7_lost 3 rfl) (tblG_2 110 rfl rfl) ?_
  exact tq_lret rfl (dget dX7_lost 4 rfl) ⟨_, rfl, rfl, rfl⟩
set_option maxHeartbeats 4000000 in
set_option maxRecDepth 20000 in
theorem c_isSheet (σ : Mem) (x : Int32) (d : Nat) (hd : 0 ≤ d) : PMet d mX7_isSheet [.int x] σ (Pi (fun v σ2 => BP (isSh x) v ∧ σ2 = σ)) := by
  refine PMet.start (ls0 := [(0, .int x)]) miX7_isSheet.1 (Nat.le_of_ble_eq_true rfl) rfl ?_
  refine tq_iload_n 0 (dget dX7_isSheet 0 rfl) rfl rfl ?_
  refine tq_if_lt (tgt := 13) (dget dX7_isSheet 1 rfl) (by decide) (fun c_1 => ?_) (fun c_1 => ?_)
  · refine tq_iconst (v := 0) (dget dX7_isSheet 7 rfl) rfl ?_
    exact tq_zret rfl rfl (dget dX7_isSheet 8 rfl) ⟨_, rfl, BP.n (fun q => by first | exact absurd q.1 (Int32.not_le.mpr c_1) | exact absurd q.2 (Int32.not_lt.mpr c_6)), rfl⟩
  · refine tq_iload_n 0 (dget dX7_isSheet 2 rfl) rfl rfl ?_
    refine tq_iconst (v := 4) (dget dX7_isSheet 3 rfl) rfl ?_
    refine tq_icmp_ge (tgt := 13) (dget dX7_isSheet 4 rfl) (by decide) (fun c_6 => ?_) (fun c_6 => ?_)
    · refine tq_iconst (v := 0) (dget dX7_isSheet 7 rfl) rfl ?_
      exact tq_zret rfl rfl (dget dX7_isSheet 8 rfl) ⟨_, rfl, BP.n (fun q => by first | exact absurd q.1 (Int32.not_le.mpr c_1) | exact absurd q.2 (Int32.not_lt.mpr c_6)), rfl⟩
    · refine tq_iconst (v := 1) (dget dX7_isSheet 5 rfl) rfl ?_
      refine tq_goto (tgt := 14) (dget dX7_isSheet 6 rfl) (by decide) ?_
      exact tq_zret rfl rfl (dget dX7_isSheet 8 rfl) ⟨_, rfl, BP.y ⟨Int32.not_lt.mp c_1, Int32.not_le.mp c_6⟩, rfl⟩
set_option maxHeartbeats 4000000 in
set_option maxRecDepth 20000 in
theorem c_isLane (σ : Mem) (x : Int32) (d : Nat) (hd : 0 ≤ d) : PMet d mX7_isLane [.int x] σ (Pi (fun v σ2 => BP (isLn x) v ∧ σ2 = σ)) := by
  refine PMet.start (ls0 := [(0, .int x)]) miX7_isLane.1 (Nat.le_of_ble_eq_true rfl) rfl ?_
  refine tq_iload_n 0 (dget dX7_isLane 0 rfl) rfl rfl ?_
  refine tq_if_lt (tgt := 13) (dget dX7_isLane 1 rfl) (by decide) (fun c_1 => ?_) (fun c_1 => ?_)
  · refine tq_iconst (v := 0) (dget dX7_isLane 7 rfl) rfl ?_
    exact tq_zret rfl rfl (dget dX7_isLane 8 rfl) ⟨_, rfl, BP.n (fun q => by first | exact absurd q.1 (Int32.not_le.mpr c_1) | exact absurd q.2 (Int32.not_le.mpr c_6)), rfl⟩
  · refine tq_iload_n 0 (dget dX7_isLane 2 rfl) rfl rfl ?_
    refine tq_iconst (v := 2) (dget dX7_isLane 3 rfl) rfl ?_
    refine tq_icmp_gt (tgt := 13) (dget dX7_isLane 4 rfl) (by decide) (fun c_6 => ?_) (fun c_6 => ?_)
    · refine tq_iconst (v := 0) (dget dX7_isLane 7 rfl) rfl ?_
      exact tq_zret rfl rfl (dget dX7_isLane 8 rfl) ⟨_, rfl, BP.n (fun q => by first | exact absurd q.1 (Int32.not_le.mpr c_1) | exact absurd q.2 (Int32.not_le.mpr c_6)), rfl⟩
    · refine tq_iconst (v := 1) (dget dX7_isLane 5 rfl) rfl ?_
      refine tq_goto (tgt := 14) (dget dX7_isLane 6 rfl) (by decide) ?_
      exact tq_zret rfl rfl (dget dX7_isLane 8 rfl) ⟨_, rfl, BP.y ⟨Int32.not_lt.mp c_1, Int32.not_lt.mp c_6⟩, rfl⟩
set_option maxHeartbeats 4000000 in
set_option maxRecDepth 20000 in
theorem c_figure (σ : Mem) (x : Int32) (d : Nat) (hd : 0 ≤ d) : PMet d mX7_figure [.int x] σ (Pi (fun v σ2 => v = figF x ∧ σ2 = σ)) := by
  refine PMet.start (ls0 := [(0, .int x)]) miX7_figure.1 (Nat.le_of_ble_eq_true rfl) rfl ?_
  refine tq_iload_n 0 (dget dX7_figure 0 rfl) rfl rfl ?_
  refine tq_iconst (v := (-1)) (dget dX7_figure 1 rfl) rfl ?_
  refine tq_icmp_ne (tgt := 10) (dget dX7_figure 2 rfl) (by decide) (fun c_2 => ?_) (fun c_2 => ?_)
  · refine tq_iload_n 0 (dget dX7_figure 5 rfl) rfl rfl ?_
    exact tq_iret rfl (dget dX7_figure 6 rfl) ⟨_, rfl, by simp [figF, c_2], rfl⟩
  · refine tq_bipush (v := 9) (dget dX7_figure 3 rfl) rfl ?_
    refine tq_goto (tgt := 11) (dget dX7_figure 4 rfl) (by decide) ?_
    exact tq_iret rfl (dget dX7_figure 6 rfl) ⟨_, rfl, by simp [figF, c_2], rfl⟩
set_option maxHeartbeats 4000000 in
set_option maxRecDepth 20000 in
theorem c_likings0 (σ : Mem) (z : Int32) (hz : z = 0) (d : Nat) (hd : 0 ≤ d) : PMet d mX7_likings [.ref 0, .int z] σ (Pa (fun v σ2 => v = 3 ∧ σ2 = σ)) := by
  refine PMet.start (ls0 := [(0, .ref 0), (1, .int z)]) miX7_likings.1 (Nat.le_of_ble_eq_true rfl) rfl ?_
  refine tq_iload_n 1 (dget dX7_likings 0 rfl) rfl rfl ?_
  refine tq_if_ne (tgt := 14) (dget dX7_likings 1 rfl) (by decide) (fun c_1 => ?_) (fun c_1 => ?_)
  · exact absurd hz c_1
  · refine tq_aload_n 0 (dget dX7_likings 2 rfl) rfl rfl ?_
    refine tq_getR (dget dX7_likings 3 rfl) fX7_12 rfl rfl ?_
    refine tq_getR (dget dX7_likings 4 rfl) fX7_261 rfl rfl ?_
    refine tq_goto (tgt := 21) (dget dX7_likings 5 rfl) (by decide) ?_
    exact tq_aret rfl (dget dX7_likings 9 rfl) ⟨_, rfl, rfl, rfl⟩
set_option maxHeartbeats 4000000 in
set_option maxRecDepth 20000 in
theorem c_likings1 (σ : Mem) (z : Int32) (hz : ¬ z = 0) (d : Nat) (hd : 0 ≤ d) : PMet d mX7_likings [.ref 0, .int z] σ (Pa (fun v σ2 => v = 8 ∧ σ2 = σ)) := by
  refine PMet.start (ls0 := [(0, .ref 0), (1, .int z)]) miX7_likings.1 (Nat.le_of_ble_eq_true rfl) rfl ?_
  refine tq_iload_n 1 (dget dX7_likings 0 rfl) rfl rfl ?_
  refine tq_if_ne (tgt := 14) (dget dX7_likings 1 rfl) (by decide) (fun c_1 => ?_) (fun c_1 => ?_)
  · refine tq_aload_n 0 (dget dX7_likings 6 rfl) rfl rfl ?_
    refine tq_getR (dget dX7_likings 7 rfl) fX7_12 rfl rfl ?_
    refine tq_getR (dget dX7_likings 8 rfl) fX7_265 rfl rfl ?_
    exact tq_aret rfl (dget dX7_likings 9 rfl) ⟨_, rfl, rfl, rfl⟩
  · exact absurd c_1 hz
set_option maxHeartbeats 4000000 in
set_option maxRecDepth 20000 in
theorem c_gd_loop (σ : Mem) (A B : Nat) (d : Nat) (hd : 0 ≤ d) : ∀ (n : Nat) (k : Nat) (a : Nat) (b : Nat) (hm : 50 < k + n) (hk : k ≤ 50) (ha : a < 2 ^ 31) (hb : b < 2 ^ 31) (hg : gdF (50 - k) a b = gdF 50 A B), PAt (EM d (Pi (fun v σ2 => v = nI (gdF 50 A B) ∧ σ2 = σ))) mX7_greatestDivisor 7 [(4, .int (nI k)), (2, .int (nI a)), (3, .int (nI b)), (0, .int (nI A)), (1, .int (nI B))] [] σ := by
  intro n
  induction n with
  | zero => intro k a b hm hk ha hb hg; exact absurd hm (by omega)
  | succ n ih =>
    intro k a b hm hk ha hb hg
    refine tq_iload 0 (dget dX7_greatestDivisor 6 rfl) rfl ?_
    refine tq_bipush (v := 50) (dget dX7_greatestDivisor 7 rfl) rfl ?_
    refine tq_icmp_ge (tgt := 34) (dget dX7_greatestDivisor 8 rfl) (by decide) (fun c_11 => ?_) (fun c_11 => ?_)
    · have g_11 := kle (a := 50) (b := k) (by omega) (by omega) c_11
      have g_12 : 50 - k = 0 := by omega
      refine tq_iload_n 1 (dget dX7_greatestDivisor 21 rfl) rfl rfl ?_
      exact tq_iret rfl (dget dX7_greatestDivisor 22 rfl) ⟨_, rfl, by rw [← hg, g_12]; rfl, rfl⟩
    · have g_11 := knle (b := k) (a := 50) (by omega) (by omega) c_11
      refine tq_iload_n 2 (dget dX7_greatestDivisor 9 rfl) rfl rfl ?_
      refine tq_if_le (tgt := 34) (dget dX7_greatestDivisor 10 rfl) (by decide) (fun c_15 => ?_) (fun c_15 => ?_)
      · have g_15 : b = 0 := Nat.le_zero.mp (kle (b := 0) hb (by omega) c_15)
        refine tq_iload_n 1 (dget dX7_greatestDivisor 21 rfl) rfl rfl ?_
        exact tq_iret rfl (dget dX7_greatestDivisor 22 rfl) ⟨_, rfl, by rw [← hg, g_15, show 50 - k = (49 - k) + 1 by omega, gdF, if_pos rfl], rfl⟩
      · have g_15 : ¬ b = 0 := fun e => c_15 (by rw [e]; decide)
        refine tq_iload_n 1 (dget dX7_greatestDivisor 11 rfl) rfl rfl ?_
        refine tq_iload_n 2 (dget dX7_greatestDivisor 12 rfl) rfl rfl ?_
        refine tq_irem (dget dX7_greatestDivisor 13 rfl) (fun e => g_15 (n_eq (b := 0) hb (by omega) e)) ?_
        refine tq_eqi (y := (nI (a % b))) (nI_modN ha hb) ?_
        refine tq_istore (ls2 := [(5, .int (nI (a % b))), (4, .int (nI k)), (2, .int (nI a)), (3, .int (nI b)), (0, .int (nI A)), (1, .int (nI B))]) (dget dX7_greatestDivisor 14 rfl) (by decide) rfl ?_
        refine tq_iload_n 3 (dget dX7_greatestDivisor 15 rfl) rfl rfl ?_
        refine tq_istore_n (ls2 := [(2, .int (nI b)), (5, .int (nI (a % b))), (4, .int (nI k)), (3, .int (nI b)), (0, .int (nI A)), (1, .int (nI B))]) (dget dX7_greatestDivisor 16 rfl) rfl (by decide) rfl ?_
        refine tq_iload 1 (dget dX7_greatestDivisor 17 rfl) rfl ?_
        refine tq_istore_n (ls2 := [(3, .int (nI (a % b))), (2, .int (nI b)), (5, .int (nI (a % b))), (4, .int (nI k)), (0, .int (nI A)), (1, .int (nI B))]) (dget dX7_greatestDivisor 18 rfl) rfl (by decide) rfl ?_
        refine tq_iinc (v := (nI (k + 1))) (ls2 := [(4, .int (nI (k + 1))), (3, .int (nI (a % b))), (2, .int (nI b)), (5, .int (nI (a % b))), (0, .int (nI A)), (1, .int (nI B))]) 3 (dget dX7_greatestDivisor 19 rfl) rfl (nI_1 k) (by decide) rfl ?_
        refine tq_goto (tgt := 7) (dget dX7_greatestDivisor 20 rfl) (by decide) ?_
        refine tq_sub [0, 2, 1, 4, 5] (ls' := [(4, .int (nI (k + 1))), (2, .int (nI b)), (3, .int (nI (a % b))), (0, .int (nI A)), (1, .int (nI B))]) rfl ?_
        refine ih (k + 1) b (a % b) (by omega) (by omega) hb (Nat.lt_of_le_of_lt (Nat.mod_le a b) ha) ?_
        rw [show 50 - k = (50 - (k + 1)) + 1 by omega, gdF, if_neg g_15] at hg
        exact hg
set_option maxHeartbeats 4000000 in
set_option maxRecDepth 20000 in
theorem c_gd (σ : Mem) (A B : Nat) (hA : A < 2 ^ 31) (hB : B < 2 ^ 31) (d : Nat) (hd : 0 ≤ d) : PMet d mX7_greatestDivisor [.int (nI A), .int (nI B)] σ (Pi (fun v σ2 => v = nI (gdF 50 A B) ∧ σ2 = σ)) := by
  refine PMet.start (ls0 := [(0, .int (nI A)), (1, .int (nI B))]) miX7_greatestDivisor.1 (Nat.le_of_ble_eq_true rfl) rfl ?_
  refine tq_iload_n 0 (dget dX7_greatestDivisor 0 rfl) rfl rfl ?_
  refine tq_istore_n (ls2 := [(2, .int (nI A)), (0, .int (nI A)), (1, .int (nI B))]) (dget dX7_greatestDivisor 1 rfl) rfl (by decide) rfl ?_
  refine tq_iload_n 2 (dget dX7_greatestDivisor 2 rfl) rfl rfl ?_
  refine tq_istore_n (ls2 := [(3, .int (nI B)), (2, .int (nI A)), (0, .int (nI A)), (1, .int (nI B))]) (dget dX7_greatestDivisor 3 rfl) rfl (by decide) rfl ?_
  refine tq_iconst (v := 0) (dget dX7_greatestDivisor 4 rfl) rfl ?_
  refine tq_istore (ls2 := [(4, .int 0), (3, .int (nI B)), (2, .int (nI A)), (0, .int (nI A)), (1, .int (nI B))]) (dget dX7_greatestDivisor 5 rfl) (by decide) rfl ?_
  refine tq_sub [0, 2, 1, 3, 4] (ls' := [(4, .int 0), (2, .int (nI A)), (3, .int (nI B)), (0, .int (nI A)), (1, .int (nI B))]) rfl ?_
  rw [show (0 : Int32) = nI 0 from rfl]
  exact c_gd_loop σ A B d (by omega) 51 0 A B (by omega) (by omega) hA hB rfl
set_option maxHeartbeats 4000000 in
set_option maxRecDepth 20000 in
theorem c_likes (σ : Mem) (S M : Nat) (hV : VA σ S M) (x y z : Int32) (d : Nat) (hd : 1 ≤ d) : PMet d mX7_likes [.ref 0, .int x, .int y, .int z] σ (Pi (fun v σ2 => v = cnd (hM σ x) (cnd (hS σ y) (cnd (z = 0) (σ (4 + cl x) (cl y)) (cnd (z = 1) (σ (9 + cl x) (cl y)) (-2))) (-1)) (-1) ∧ σ2 = σ)) := by
  obtain ⟨d, rfl⟩ : ∃ e, d = e + 1 := ⟨d - 1, by omega⟩
  refine PMet.start (ls0 := [(0, .ref 0), (1, .int x), (2, .int y), (3, .int z)]) miX7_likes.1 (Nat.le_of_ble_eq_true rfl) rfl ?_
  refine tq_aload_n 0 (dget dX7_likes 0 rfl) rfl rfl ?_
  refine tq_getR (dget dX7_likes 1 rfl) fX7_12 rfl rfl ?_
  refine tq_iload_n 1 (dget dX7_likes 2 rfl) rfl rfl ?_
  refine mq_Vi (As := [.int x]) (rest := []) (dget dX7_likes 3 rfl) lX7_92 miX6_hasMaid (c_hasMaid σ x d (by omega)) rfl rfl rfl rfl (Nat.le_of_ble_eq_true rfl) (Nat.le_of_ble_eq_true rfl) (fun r_5 σ_5 h_5 => ?_)
  obtain ⟨b_5, e_5⟩ := h_5
  obtain rfl := e_5.symm
  refine tq_if_eq (tgt := 22) (dget dX7_likes 4 rfl) (by decide) (fun c_8 => ?_) (fun c_8 => ?_)
  · refine tq_iconst (v := (-1)) (dget dX7_likes 10 rfl) rfl ?_
    exact tq_iret rfl (dget dX7_likes 11 rfl) ⟨_, rfl, by simp only [cnd_f (P := hM σ x) (b_5.f c_8)], rfl⟩
  · refine tq_aload_n 0 (dget dX7_likes 5 rfl) rfl rfl ?_
    refine tq_getR (dget dX7_likes 6 rfl) fX7_12 rfl rfl ?_
    refine tq_iload_n 2 (dget dX7_likes 7 rfl) rfl rfl ?_
    refine mq_Vi (As := [.int y]) (rest := []) (dget dX7_likes 8 rfl) lX7_95 miX6_hasSuitor (c_hasSuitor σ y d (by omega)) rfl rfl rfl rfl (Nat.le_of_ble_eq_true rfl) (Nat.le_of_ble_eq_true rfl) (fun r_16 σ_16 h_16 => ?_)
    obtain ⟨b_16, e_16⟩ := h_16
    obtain rfl := e_16.symm
    refine tq_if_ne (tgt := 24) (dget dX7_likes 9 rfl) (by decide) (fun c_19 => ?_) (fun c_19 => ?_)
    · obtain ⟨m, e_m, hm, hm4⟩ := hM_n hV (b_5.t c_8)
      subst e_m
      obtain ⟨s, e_s, hs, hs6⟩ := hS_n hV (b_16.t c_19)
      subst e_s
      refine tq_iload_n 3 (dget dX7_likes 12 rfl) rfl rfl ?_
      refine tq_if_eq (tgt := 36) (dget dX7_likes 13 rfl) (by decide) (fun c_25 => ?_) (fun c_25 => ?_)
      · refine tq_aload_n 0 (dget dX7_likes 19 rfl) rfl rfl ?_
        refine tq_iload_n 3 (dget dX7_likes 20 rfl) rfl rfl ?_
        refine mq_Va (As := [.int z]) (rest := []) (dget dX7_likes 21 rfl) lX7_98 miX7_likings (c_likings0 σ z c_25 d (by omega)) rfl rfl rfl rfl (Nat.le_of_ble_eq_true rfl) (Nat.le_of_ble_eq_true rfl) (fun r_38 σ_38 h_38 => ?_)
        obtain ⟨a_38, e_38⟩ := h_38
        obtain rfl := a_38.symm
        obtain rfl := e_38.symm
        refine tq_iload_n 1 (dget dX7_likes 22 rfl) rfl rfl ?_
        refine tq_hers m (dget dX7_likes 23 rfl) rfl (by omega) ?_
        refine tq_iload_n 2 (dget dX7_likes 24 rfl) rfl rfl ?_
        refine tq_ialdN s (dget dX7_likes 25 rfl) (SH_hers (by omega)) (by decide) rfl (by omega) ?_
        exact tq_iret rfl (dget dX7_likes 26 rfl) ⟨_, rfl, by simp only [cnd_t (P := hM σ (nI m)) (b_5.t c_8), cnd_t (P := hS σ (nI s)) (b_16.t c_19), nI_clamp (show m < 2 ^ 31 by omega), nI_clamp (show s < 2 ^ 31 by omega), cnd_t c_25], rfl⟩
      · refine tq_iload_n 3 (dget dX7_likes 14 rfl) rfl rfl ?_
        refine tq_iconst (v := 1) (dget dX7_likes 15 rfl) rfl ?_
        refine tq_icmp_eq (tgt := 36) (dget dX7_likes 16 rfl) (by decide) (fun c_30 => ?_) (fun c_30 => ?_)
        · refine tq_aload_n 0 (dget dX7_likes 19 rfl) rfl rfl ?_
          refine tq_iload_n 3 (dget dX7_likes 20 rfl) rfl rfl ?_
          refine mq_Va (As := [.int z]) (rest := []) (dget dX7_likes 21 rfl) lX7_98 miX7_likings (c_likings1 σ z c_25 d (by omega)) rfl rfl rfl rfl (Nat.le_of_ble_eq_true rfl) (Nat.le_of_ble_eq_true rfl) (fun r_38 σ_38 h_38 => ?_)
          obtain ⟨a_38, e_38⟩ := h_38
          obtain rfl := a_38.symm
          obtain rfl := e_38.symm
          refine tq_iload_n 1 (dget dX7_likes 22 rfl) rfl rfl ?_
          refine tq_his m (dget dX7_likes 23 rfl) rfl (by omega) ?_
          refine tq_iload_n 2 (dget dX7_likes 24 rfl) rfl rfl ?_
          refine tq_ialdN s (dget dX7_likes 25 rfl) (SH_his (by omega)) (by decide) rfl (by omega) ?_
          exact tq_iret rfl (dget dX7_likes 26 rfl) ⟨_, rfl, by simp only [cnd_t (P := hM σ (nI m)) (b_5.t c_8), cnd_t (P := hS σ (nI s)) (b_16.t c_19), nI_clamp (show m < 2 ^ 31 by omega), nI_clamp (show s < 2 ^ 31 by omega), cnd_f c_25, cnd_t c_30], rfl⟩
        · refine tq_bipush (v := (-2)) (dget dX7_likes 17 rfl) rfl ?_
          exact tq_iret rfl (dget dX7_likes 18 rfl) ⟨_, rfl, by simp only [cnd_t (P := hM σ (nI m)) (b_5.t c_8), cnd_t (P := hS σ (nI s)) (b_16.t c_19), nI_clamp (show m < 2 ^ 31 by omega), nI_clamp (show s < 2 ^ 31 by omega), cnd_f c_25, cnd_f c_30], rfl⟩
    · refine tq_iconst (v := (-1)) (dget dX7_likes 10 rfl) rfl ?_
      exact tq_iret rfl (dget dX7_likes 11 rfl) ⟨_, rfl, by simp only [cnd_t (P := hM σ x) (b_5.t c_8), cnd_f (P := hS σ y) (b_16.f c_19)], rfl⟩

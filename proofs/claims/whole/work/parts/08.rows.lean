/-! ===== the fewest sent ahead; sums over rows ===== -/
def fwc (P : Nat → Prop) (told k : Nat) (o : Option Nat) : Prop := (∀ b, o = some b → cntN k 6 < cntN b 6) ∧ bitN k told = false ∧ P k
noncomputable def fwF (P : Nat → Prop) (told : Nat) : Nat → Option Nat
  | 0 => none
  | k + 1 => @ite _ (fwc P told k (fwF P told k)) (Classical.propDecidable _) (some k) (fwF P told k)
theorem fwF_y {P : Nat → Prop} {told k : Nat} (h : fwc P told k (fwF P told k)) : fwF P told (k + 1) = some k := by rw [fwF, if_pos h]
theorem fwF_n {P : Nat → Prop} {told k : Nat} (h : ¬ fwc P told k (fwF P told k)) : fwF P told (k + 1) = fwF P told k := by rw [fwF, if_neg h]
theorem fwF_lt {P : Nat → Prop} {told : Nat} : ∀ (k b : Nat), fwF P told k = some b → b < k
  | 0, b, h => by simp [fwF] at h
  | k + 1, b, h => by
    by_cases c : fwc P told k (fwF P told k)
    · rw [fwF_y c] at h
      cases h
      omega
    · rw [fwF_n c] at h
      have := fwF_lt k b h
      omega
def fwV : Option Nat → Int32
  | none => -9
  | some b => nI b
theorem fwV_none {o : Option Nat} (hb : ∀ b, o = some b → b < 64) (h : fwV o = -9) : o = none := by
  cases o with
  | none => rfl
  | some b =>
    have h2 : ∀ a, a < 64 → ¬ nI a = -9 := by decide +kernel
    exact absurd h (h2 b (hb b rfl))
theorem fwV_some {o : Option Nat} (h : ¬ fwV o = -9) : ∃ b, o = some b := by
  cases o with
  | none => exact absurd rfl h
  | some b => exact ⟨b, rfl⟩
theorem bc_lt {k b : Nat} (hk : k < 64) (hb : b < 64) (h : ¬ bcF (nI b) ≤ bcF (nI k)) : cntN k 6 < cntN b 6 := by
  have h1 := cntN_le k 6
  have h2 := cntN_le b 6
  rw [bcF_eq hk, bcF_eq hb] at h
  exact knle (by omega) (by omega) h
theorem bc_ge {k b : Nat} (hk : k < 64) (hb : b < 64) (h : bcF (nI b) ≤ bcF (nI k)) : ¬ cntN k 6 < cntN b 6 := by
  have h1 := cntN_le k 6
  have h2 := cntN_le b 6
  rw [bcF_eq hk, bcF_eq hb] at h
  have h3 := kle (by omega) (by omega) h
  omega
theorem shl_S {S : Nat} (h : S ≤ 6) : (1 : Int32) <<< (nI S &&& 31) = nI (2 ^ S) := by
  have h2 : ∀ a, a < 7 → (1 : Int32) <<< (nI a &&& 31) = nI (2 ^ a) := by decide +kernel
  exact h2 S (by omega)
theorem pow_S {S : Nat} (h : S ≤ 6) : 2 ^ S ≤ 64 := by
  have h2 : ∀ a, a < 7 → 2 ^ a ≤ 64 := by decide +kernel
  exact h2 S (by omega)
def sfF (h : Nat → Nat) (R F : Nat) : Nat → Nat
  | 0 => 0
  | s + 1 => sfF h R F s + if h s * R < F then F else h s * R
theorem sfF_le (h : Nat → Nat) (R F : Nat) : ∀ S, (∀ s, s < S → h s ≤ 9) → F ≤ 9 * R → sfF h R F S ≤ S * (9 * R)
  | 0, _, _ => Nat.zero_le _
  | s + 1, hh, hF => by
    have h1 := sfF_le h R F s (fun j hj => hh j (by omega)) hF
    have h2 : h s * R ≤ 9 * R := Nat.mul_le_mul_right R (hh s (by omega))
    rw [sfF, Nat.succ_mul]
    split <;> omega
def sorF (h : Nat → Nat) (S N r : Nat) : Nat → Nat
  | 0 => 0
  | k + 1 => sfF h (S ^ k) (if N - (k + 1) < r then sorF h S N r k else 0) S
theorem sorF_le (h : Nat → Nat) (S N r : Nat) (hh : ∀ s, s < S → h s ≤ 9) : ∀ k, sorF h S N r k ≤ 9 * S ^ k
  | 0 => Nat.zero_le _
  | k + 1 => by
    have h1 := sorF_le h S N r hh k
    have h2 := sfF_le h (S ^ k) (if N - (k + 1) < r then sorF h S N r k else 0) S hh (by split <;> omega)
    rw [sorF, Nat.pow_succ]
    have e : S * (9 * S ^ k) = 9 * (S ^ k * S) := by rw [Nat.mul_left_comm, Nat.mul_comm S]
    omega
theorem pow6 {S k : Nat} (hS : S ≤ 6) (hk : k ≤ 4) : S ^ k ≤ 1296 := by
  have h2 : ∀ a, a < 7 → ∀ b, b < 5 → a ^ b ≤ 1296 := by decide +kernel
  exact h2 S (by omega) k (by omega)
theorem pow63 {S k : Nat} (hS : S ≤ 6) (hk : k ≤ 3) : S ^ k ≤ 216 := by
  have h2 : ∀ a, a < 7 → ∀ b, b < 4 → a ^ b ≤ 216 := by decide +kernel
  exact h2 S (by omega) k (by omega)

set_option maxHeartbeats 4000000 in
set_option maxRecDepth 20000 in
theorem c_fewest_loop (σ : Mem) (S M m told : Nat) (hV : VA σ S M) (hm4 : m < 4) (ht : told < 6) (d : Nat) (hd : 3 ≤ d) : ∀ (n : Nat) (k : Nat) (hm : 2 ^ S < k + n) (hk : k ≤ 2 ^ S), PAt (EM d (Pi (fun v σ2 => v = fwV (fwF (fun set => brP (σ 1 2) (σ 2 m) (fun s => σ (4 + m) s) S told set) told (2 ^ S)) ∧ σ2 = σ))) mX6_fewestAhead 6 [(4, .int (nI k)), (3, .int (fwV (fwF (fun set => brP (σ 1 2) (σ 2 m) (fun s => σ (4 + m) s) S told set) told k))), (0, .ref 1), (1, .int (nI m)), (2, .int (nI told))] [] σ := by
  obtain ⟨d, rfl⟩ : ∃ e, d = e + 1 := ⟨d - 1, by omega⟩
  intro n
  induction n with
  | zero => intro k hm hk; exact absurd hm (by omega)
  | succ n ih =>
    intro k hm hk
    obtain ⟨v1, v2, v3, v4⟩ := id hV
    have hp6 := pow_S v3
    have hlt : ∀ b, (fwF (fun set => brP (σ 1 2) (σ 2 m) (fun s => σ (4 + m) s) S told set) told k) = some b → b < k := fun b hb => fwF_lt k b hb
    refine tq_iload 0 (dget dX6_fewestAhead 4 rfl) rfl ?_
    refine tq_iconst (v := 1) (dget dX6_fewestAhead 5 rfl) rfl ?_
    refine tq_aload_n 2 (dget dX6_fewestAhead 6 rfl) rfl rfl ?_
    refine tq_getI (dget dX6_fewestAhead 7 rfl) fX6_27 rfl rfl ?_
    refine tq_ishl (dget dX6_fewestAhead 8 rfl) ?_
    refine tq_eqi (y := (nI (2 ^ S))) (by rw [v1]; exact shl_S v3) ?_
    refine tq_icmp_ge (tgt := 76) (dget dX6_fewestAhead 9 rfl) (by decide) (fun c_14 => ?_) (fun c_14 => ?_)
    · have g_14 := kle (by omega) (by omega) c_14
      have g_15 : k = 2 ^ S := by omega
      subst g_15
      refine tq_iload_n 1 (dget dX6_fewestAhead 40 rfl) rfl rfl ?_
      exact tq_iret rfl (dget dX6_fewestAhead 41 rfl) ⟨_, rfl, rfl, rfl⟩
    · have g_14 := knle (by omega) (by omega) c_14
      refine tq_iload_n 1 (dget dX6_fewestAhead 10 rfl) rfl rfl ?_
      refine tq_bipush (v := (-9)) (dget dX6_fewestAhead 11 rfl) rfl ?_
      refine tq_icmp_eq (tgt := 35) (dget dX6_fewestAhead 12 rfl) (by decide) (fun c_20 => ?_) (fun c_20 => ?_)
      · have g_20 := fwV_none (fun b hb => by have := hlt b hb; omega) c_20
        refine tq_iconst (v := 1) (dget dX6_fewestAhead 18 rfl) rfl ?_
        refine tq_goto (tgt := 40) (dget dX6_fewestAhead 19 rfl) (by decide) ?_
        refine tq_istore (ls2 := [(5, .int 1), (4, .int (nI k)), (3, .int (fwV (fwF (fun set => brP (σ 1 2) (σ 2 m) (fun s => σ (4 + m) s) S told set) told k))), (0, .ref 1), (1, .int (nI m)), (2, .int (nI told))]) (dget dX6_fewestAhead 21 rfl) (by decide) rfl ?_
        refine tq_iload 0 (dget dX6_fewestAhead 22 rfl) rfl ?_
        refine tq_if_eq (tgt := 70) (dget dX6_fewestAhead 23 rfl) (by decide) (fun c_44 => ?_) (fun c_44 => ?_)
        · exact absurd c_44 (by decide)
        · refine tq_iload 1 (dget dX6_fewestAhead 24 rfl) rfl ?_
          refine tq_iload_n 5 (dget dX6_fewestAhead 25 rfl) rfl rfl ?_
          refine tq_ishr (dget dX6_fewestAhead 26 rfl) ?_
          refine tq_iconst (v := 1) (dget dX6_fewestAhead 27 rfl) rfl ?_
          refine tq_iand (dget dX6_fewestAhead 28 rfl) ?_
          refine tq_eqi (y := (if bitN k told then 1 else 0)) (bit_and (by omega) ht) ?_
          refine tq_if_ne (tgt := 70) (dget dX6_fewestAhead 29 rfl) (by decide) (fun c_53 => ?_) (fun c_53 => ?_)
          · have g_53 : ¬ bitN k told = false := fun q => c_53 (by rw [q]; rfl)
            refine tq_iinc (v := (nI (k + 1))) (ls2 := [(4, .int (nI (k + 1))), (5, .int 1), (3, .int (fwV (fwF (fun set => brP (σ 1 2) (σ 2 m) (fun s => σ (4 + m) s) S told set) told k))), (0, .ref 1), (1, .int (nI m)), (2, .int (nI told))]) 1 (dget dX6_fewestAhead 38 rfl) rfl (nI_1 k) (by decide) rfl ?_
            refine tq_goto (tgt := 6) (dget dX6_fewestAhead 39 rfl) (by decide) ?_
            refine tq_sub [0, 2, 3, 4, 5] (ls' := [(4, .int (nI (k + 1))), (3, .int (fwV (fwF (fun set => brP (σ 1 2) (σ 2 m) (fun s => σ (4 + m) s) S told set) told k))), (0, .ref 1), (1, .int (nI m)), (2, .int (nI told))]) rfl ?_
            have hc : ¬ fwc (fun set => brP (σ 1 2) (σ 2 m) (fun s => σ (4 + m) s) S told set) told k (fwF (fun set => brP (σ 1 2) (σ 2 m) (fun s => σ (4 + m) s) S told set) told k) := fun hc => g_53 hc.2.1
            rw [show fwV (fwF (fun set => brP (σ 1 2) (σ 2 m) (fun s => σ (4 + m) s) S told set) told k) = fwV (fwF (fun set => brP (σ 1 2) (σ 2 m) (fun s => σ (4 + m) s) S told set) told (k + 1)) by rw [fwF_n hc]]
            exact ih (k + 1) (by omega) (by omega)
          · have g_53 : bitN k told = false := by simpa using c_53
            refine tq_aload_n 3 (dget dX6_fewestAhead 30 rfl) rfl rfl ?_
            refine tq_iload_n 4 (dget dX6_fewestAhead 31 rfl) rfl rfl ?_
            refine tq_iload_n 5 (dget dX6_fewestAhead 32 rfl) rfl rfl ?_
            refine tq_iload 1 (dget dX6_fewestAhead 33 rfl) rfl ?_
            refine mq_Vi (As := [.int (nI m), .int (nI told), .int (nI k)]) (rest := []) (dget dX6_fewestAhead 34 rfl) lX6_67 miX6_bringsTo (c_bringsTo σ S M m told k hV hm4 ht (by omega) d (by omega)) rfl rfl rfl rfl (Nat.le_of_ble_eq_true rfl) (Nat.le_of_ble_eq_true rfl) (fun r_61 σ_61 h_61 => ?_)
            obtain ⟨b_61, e_61⟩ := h_61
            obtain rfl := e_61.symm
            refine tq_if_eq (tgt := 70) (dget dX6_fewestAhead 35 rfl) (by decide) (fun c_64 => ?_) (fun c_64 => ?_)
            · refine tq_iinc (v := (nI (k + 1))) (ls2 := [(4, .int (nI (k + 1))), (5, .int 1), (3, .int (fwV (fwF (fun set => brP (σ 1 2) (σ 2 m) (fun s => σ (4 + m) s) S told set) told k))), (0, .ref 1), (1, .int (nI m)), (2, .int (nI told))]) 1 (dget dX6_fewestAhead 38 rfl) rfl (nI_1 k) (by decide) rfl ?_
              refine tq_goto (tgt := 6) (dget dX6_fewestAhead 39 rfl) (by decide) ?_
              refine tq_sub [0, 2, 3, 4, 5] (ls' := [(4, .int (nI (k + 1))), (3, .int (fwV (fwF (fun set => brP (σ 1 2) (σ 2 m) (fun s => σ (4 + m) s) S told set) told k))), (0, .ref 1), (1, .int (nI m)), (2, .int (nI told))]) rfl ?_
              have hc : ¬ fwc (fun set => brP (σ 1 2) (σ 2 m) (fun s => σ (4 + m) s) S told set) told k (fwF (fun set => brP (σ 1 2) (σ 2 m) (fun s => σ (4 + m) s) S told set) told k) := fun hc => b_61.f c_64 hc.2.2
              rw [show fwV (fwF (fun set => brP (σ 1 2) (σ 2 m) (fun s => σ (4 + m) s) S told set) told k) = fwV (fwF (fun set => brP (σ 1 2) (σ 2 m) (fun s => σ (4 + m) s) S told set) told (k + 1)) by rw [fwF_n hc]]
              exact ih (k + 1) (by omega) (by omega)
            · refine tq_iload 1 (dget dX6_fewestAhead 36 rfl) rfl ?_
              refine tq_istore_n (ls2 := [(3, .int (nI k)), (5, .int 1), (4, .int (nI k)), (0, .ref 1), (1, .int (nI m)), (2, .int (nI told))]) (dget dX6_fewestAhead 37 rfl) rfl (by decide) rfl ?_
              refine tq_iinc (v := (nI (k + 1))) (ls2 := [(4, .int (nI (k + 1))), (3, .int (nI k)), (5, .int 1), (0, .ref 1), (1, .int (nI m)), (2, .int (nI told))]) 2 (dget dX6_fewestAhead 38 rfl) rfl (nI_1 k) (by decide) rfl ?_
              refine tq_goto (tgt := 6) (dget dX6_fewestAhead 39 rfl) (by decide) ?_
              refine tq_sub [0, 1, 3, 4, 5] (ls' := [(4, .int (nI (k + 1))), (3, .int (nI k)), (0, .ref 1), (1, .int (nI m)), (2, .int (nI told))]) rfl ?_
              have hc : fwc (fun set => brP (σ 1 2) (σ 2 m) (fun s => σ (4 + m) s) S told set) told k (fwF (fun set => brP (σ 1 2) (σ 2 m) (fun s => σ (4 + m) s) S told set) told k) := ⟨fun b hb => absurd (g_20.symm.trans hb) (by simp), g_53, b_61.t c_64⟩
              rw [show nI k = fwV (fwF (fun set => brP (σ 1 2) (σ 2 m) (fun s => σ (4 + m) s) S told set) told (k + 1)) by rw [fwF_y hc]; rfl]
              exact ih (k + 1) (by omega) (by omega)
      · obtain ⟨b, g_20⟩ := fwV_some c_20
        have hb64 := hlt b g_20
        refine tq_iload 0 (dget dX6_fewestAhead 13 rfl) rfl ?_
        refine mq_Si (As := [.int (nI k)]) (rest := []) (dget dX6_fewestAhead 14 rfl) lX6_62 miJ6_bitCount_0f7a4 (c_bitCount σ (nI k) d (by omega)) rfl rfl (Nat.le_of_ble_eq_true rfl) (Nat.le_of_ble_eq_true rfl) (fun r_25 σ_25 h_25 => ?_)
        obtain ⟨a_25, e_25⟩ := h_25
        obtain rfl := a_25.symm
        obtain rfl := e_25.symm
        refine tq_iload_n 1 (dget dX6_fewestAhead 15 rfl) rfl rfl ?_
        refine mq_Si (As := [.int (fwV (fwF (fun set => brP (σ 1 2) (σ 2 m) (fun s => σ (4 + m) s) S told set) told k))]) (rest := [.int (bcF (nI k))]) (dget dX6_fewestAhead 16 rfl) lX6_62 miJ6_bitCount_0f7a4 (c_bitCount σ (fwV (fwF (fun set => brP (σ 1 2) (σ 2 m) (fun s => σ (4 + m) s) S told set) told k)) d (by omega)) rfl rfl (Nat.le_of_ble_eq_true rfl) (Nat.le_of_ble_eq_true rfl) (fun r_29 σ_29 h_29 => ?_)
        obtain ⟨a_29, e_29⟩ := h_29
        obtain rfl := a_29.symm
        obtain rfl := e_29.symm
        refine tq_icmp_ge (tgt := 39) (dget dX6_fewestAhead 17 rfl) (by decide) (fun c_32 => ?_) (fun c_32 => ?_)
        · rw [g_20] at c_32
          have g_32 := bc_ge (k := k) (b := b) (by omega) (by omega) c_32
          refine tq_iconst (v := 0) (dget dX6_fewestAhead 20 rfl) rfl ?_
          refine tq_istore (ls2 := [(5, .int 0), (4, .int (nI k)), (3, .int (fwV (fwF (fun set => brP (σ 1 2) (σ 2 m) (fun s => σ (4 + m) s) S told set) told k))), (0, .ref 1), (1, .int (nI m)), (2, .int (nI told))]) (dget dX6_fewestAhead 21 rfl) (by decide) rfl ?_
          refine tq_iload 0 (dget dX6_fewestAhead 22 rfl) rfl ?_
          refine tq_if_eq (tgt := 70) (dget dX6_fewestAhead 23 rfl) (by decide) (fun c_44 => ?_) (fun c_44 => ?_)
          · refine tq_iinc (v := (nI (k + 1))) (ls2 := [(4, .int (nI (k + 1))), (5, .int 0), (3, .int (fwV (fwF (fun set => brP (σ 1 2) (σ 2 m) (fun s => σ (4 + m) s) S told set) told k))), (0, .ref 1), (1, .int (nI m)), (2, .int (nI told))]) 1 (dget dX6_fewestAhead 38 rfl) rfl (nI_1 k) (by decide) rfl ?_
            refine tq_goto (tgt := 6) (dget dX6_fewestAhead 39 rfl) (by decide) ?_
            refine tq_sub [0, 2, 3, 4, 5] (ls' := [(4, .int (nI (k + 1))), (3, .int (fwV (fwF (fun set => brP (σ 1 2) (σ 2 m) (fun s => σ (4 + m) s) S told set) told k))), (0, .ref 1), (1, .int (nI m)), (2, .int (nI told))]) rfl ?_
            have hc : ¬ fwc (fun set => brP (σ 1 2) (σ 2 m) (fun s => σ (4 + m) s) S told set) told k (fwF (fun set => brP (σ 1 2) (σ 2 m) (fun s => σ (4 + m) s) S told set) told k) := fun hc => g_32 (hc.1 _ g_20)
            rw [show fwV (fwF (fun set => brP (σ 1 2) (σ 2 m) (fun s => σ (4 + m) s) S told set) told k) = fwV (fwF (fun set => brP (σ 1 2) (σ 2 m) (fun s => σ (4 + m) s) S told set) told (k + 1)) by rw [fwF_n hc]]
            exact ih (k + 1) (by omega) (by omega)
          · exact absurd c_44 (by decide)
        · rw [g_20] at c_32
          have g_32 := bc_lt (k := k) (b := b) (by omega) (by omega) c_32
          refine tq_iconst (v := 1) (dget dX6_fewestAhead 18 rfl) rfl ?_
          refine tq_goto (tgt := 40) (dget dX6_fewestAhead 19 rfl) (by decide) ?_
          refine tq_istore (ls2 := [(5, .int 1), (4, .int (nI k)), (3, .int (fwV (fwF (fun set => brP (σ 1 2) (σ 2 m) (fun s => σ (4 + m) s) S told set) told k))), (0, .ref 1), (1, .int (nI m)), (2, .int (nI told))]) (dget dX6_fewestAhead 21 rfl) (by decide) rfl ?_
          refine tq_iload 0 (dget dX6_fewestAhead 22 rfl) rfl ?_
          refine tq_if_eq (tgt := 70) (dget dX6_fewestAhead 23 rfl) (by decide) (fun c_44 => ?_) (fun c_44 => ?_)
          · exact absurd c_44 (by decide)
          · refine tq_iload 1 (dget dX6_fewestAhead 24 rfl) rfl ?_
            refine tq_iload_n 5 (dget dX6_fewestAhead 25 rfl) rfl rfl ?_
            refine tq_ishr (dget dX6_fewestAhead 26 rfl) ?_
            refine tq_iconst (v := 1) (dget dX6_fewestAhead 27 rfl) rfl ?_
            refine tq_iand (dget dX6_fewestAhead 28 rfl) ?_
            refine tq_eqi (y := (if bitN k told then 1 else 0)) (bit_and (by omega) ht) ?_
            refine tq_if_ne (tgt := 70) (dget dX6_fewestAhead 29 rfl) (by decide) (fun c_53 => ?_) (fun c_53 => ?_)
            · have g_53 : ¬ bitN k told = false := fun q => c_53 (by rw [q]; rfl)
              refine tq_iinc (v := (nI (k + 1))) (ls2 := [(4, .int (nI (k + 1))), (5, .int 1), (3, .int (fwV (fwF (fun set => brP (σ 1 2) (σ 2 m) (fun s => σ (4 + m) s) S told set) told k))), (0, .ref 1), (1, .int (nI m)), (2, .int (nI told))]) 1 (dget dX6_fewestAhead 38 rfl) rfl (nI_1 k) (by decide) rfl ?_
              refine tq_goto (tgt := 6) (dget dX6_fewestAhead 39 rfl) (by decide) ?_
              refine tq_sub [0, 2, 3, 4, 5] (ls' := [(4, .int (nI (k + 1))), (3, .int (fwV (fwF (fun set => brP (σ 1 2) (σ 2 m) (fun s => σ (4 + m) s) S told set) told k))), (0, .ref 1), (1, .int (nI m)), (2, .int (nI told))]) rfl ?_
              have hc : ¬ fwc (fun set => brP (σ 1 2) (σ 2 m) (fun s => σ (4 + m) s) S told set) told k (fwF (fun set => brP (σ 1 2) (σ 2 m) (fun s => σ (4 + m) s) S told set) told k) := fun hc => g_53 hc.2.1
              rw [show fwV (fwF (fun set => brP (σ 1 2) (σ 2 m) (fun s => σ (4 + m) s) S told set) told k) = fwV (fwF (fun set => brP (σ 1 2) (σ 2 m) (fun s => σ (4 + m) s) S told set) told (k + 1)) by rw [fwF_n hc]]
              exact ih (k + 1) (by omega) (by omega)
            · have g_53 : bitN k told = false := by simpa using c_53
              refine tq_aload_n 3 (dget dX6_fewestAhead 30 rfl) rfl rfl ?_
              refine tq_iload_n 4 (dget dX6_fewestAhead 31 rfl) rfl rfl ?_
              refine tq_iload_n 5 (dget dX6_fewestAhead 32 rfl) rfl rfl ?_
              refine tq_iload 1 (dget dX6_fewestAhead 33 rfl) rfl ?_
              refine mq_Vi (As := [.int (nI m), .int (nI told), .int (nI k)]) (rest := []) (dget dX6_fewestAhead 34 rfl) lX6_67 miX6_bringsTo (c_bringsTo σ S M m told k hV hm4 ht (by omega) d (by omega)) rfl rfl rfl rfl (Nat.le_of_ble_eq_true rfl) (Nat.le_of_ble_eq_true rfl) (fun r_61 σ_61 h_61 => ?_)
              obtain ⟨b_61, e_61⟩ := h_61
              obtain rfl := e_61.symm
              refine tq_if_eq (tgt := 70) (dget dX6_fewestAhead 35 rfl) (by decide) (fun c_64 => ?_) (fun c_64 => ?_)
              · refine tq_iinc (v := (nI (k + 1))) (ls2 := [(4, .int (nI (k + 1))), (5, .int 1), (3, .int (fwV (fwF (fun set => brP (σ 1 2) (σ 2 m) (fun s => σ (4 + m) s) S told set) told k))), (0, .ref 1), (1, .int (nI m)), (2, .int (nI told))]) 1 (dget dX6_fewestAhead 38 rfl) rfl (nI_1 k) (by decide) rfl ?_
                refine tq_goto (tgt := 6) (dget dX6_fewestAhead 39 rfl) (by decide) ?_
                refine tq_sub [0, 2, 3, 4, 5] (ls' := [(4, .int (nI (k + 1))), (3, .int (fwV (fwF (fun set => brP (σ 1 2) (σ 2 m) (fun s => σ (4 + m) s) S told set) told k))), (0, .ref 1), (1, .int (nI m)), (2, .int (nI told))]) rfl ?_
                have hc : ¬ fwc (fun set => brP (σ 1 2) (σ 2 m) (fun s => σ (4 + m) s) S told set) told k (fwF (fun set => brP (σ 1 2) (σ 2 m) (fun s => σ (4 + m) s) S told set) told k) := fun hc => b_61.f c_64 hc.2.2
                rw [show fwV (fwF (fun set => brP (σ 1 2) (σ 2 m) (fun s => σ (4 + m) s) S told set) told k) = fwV (fwF (fun set => brP (σ 1 2) (σ 2 m) (fun s => σ (4 + m) s) S told set) told (k + 1)) by rw [fwF_n hc]]
                exact ih (k + 1) (by omega) (by omega)
              · refine tq_iload 1 (dget dX6_fewestAhead 36 rfl) rfl ?_
                refine tq_istore_n (ls2 := [(3, .int (nI k)), (5, .int 1), (4, .int (nI k)), (0, .ref 1), (1, .int (nI m)), (2, .int (nI told))]) (dget dX6_fewestAhead 37 rfl) rfl (by decide) rfl ?_
                refine tq_iinc (v := (nI (k + 1))) (ls2 := [(4, .int (nI (k + 1))), (3, .int (nI k)), (5, .int 1), (0, .ref 1), (1, .int (nI m)), (2, .int (nI told))]) 2 (dget dX6_fewestAhead 38 rfl) rfl (nI_1 k) (by decide) rfl ?_
                refine tq_goto (tgt := 6) (dget dX6_fewestAhead 39 rfl) (by decide) ?_
                refine tq_sub [0, 1, 3, 4, 5] (ls' := [(4, .int (nI (k + 1))), (3, .int (nI k)), (0, .ref 1), (1, .int (nI m)), (2, .int (nI told))]) rfl ?_
                have hc : fwc (fun set => brP (σ 1 2) (σ 2 m) (fun s => σ (4 + m) s) S told set) told k (fwF (fun set => brP (σ 1 2) (σ 2 m) (fun s => σ (4 + m) s) S told set) told k) := ⟨fun b2 hb2 => by cases g_20.symm.trans hb2; exact g_32, g_53, b_61.t c_64⟩
                rw [show nI k = fwV (fwF (fun set => brP (σ 1 2) (σ 2 m) (fun s => σ (4 + m) s) S told set) told (k + 1)) by rw [fwF_y hc]; rfl]
                exact ih (k + 1) (by omega) (by omega)
set_option maxHeartbeats 4000000 in
set_option maxRecDepth 20000 in
theorem c_fewestAhead (σ : Mem) (S M m told : Nat) (hV : VA σ S M) (hm4 : m < 4) (ht : told < 6) (d : Nat) (hd : 3 ≤ d) : PMet d mX6_fewestAhead [.ref 1, .int (nI m), .int (nI told)] σ (Pi (fun v σ2 => v = fwV (fwF (fun set => brP (σ 1 2) (σ 2 m) (fun s => σ (4 + m) s) S told set) told (2 ^ S)) ∧ σ2 = σ)) := by
  obtain ⟨d, rfl⟩ : ∃ e, d = e + 1 := ⟨d - 1, by omega⟩
  refine PMet.start (ls0 := [(0, .ref 1), (1, .int (nI m)), (2, .int (nI told))]) miX6_fewestAhead.1 (Nat.le_of_ble_eq_true rfl) rfl ?_
  refine tq_bipush (v := (-9)) (dget dX6_fewestAhead 0 rfl) rfl ?_
  refine tq_istore_n (ls2 := [(3, .int (-9)), (0, .ref 1), (1, .int (nI m)), (2, .int (nI told))]) (dget dX6_fewestAhead 1 rfl) rfl (by decide) rfl ?_
  refine tq_iconst (v := 0) (dget dX6_fewestAhead 2 rfl) rfl ?_
  refine tq_istore (ls2 := [(4, .int 0), (3, .int (-9)), (0, .ref 1), (1, .int (nI m)), (2, .int (nI told))]) (dget dX6_fewestAhead 3 rfl) (by decide) rfl ?_
  refine tq_sub [0, 1, 2, 3, 4] (ls' := [(4, .int 0), (3, .int (-9)), (0, .ref 1), (1, .int (nI m)), (2, .int (nI told))]) rfl ?_
  exact c_fewest_loop σ S M m told hV hm4 ht (d + 1) (by omega) (2 ^ S + 1) 0 (by omega) (Nat.zero_le _)
set_option maxHeartbeats 4000000 in
set_option maxRecDepth 20000 in
theorem c_rowsOf_loop (σ : Mem) (S M L : Nat) (hV : VA σ S M) (hL : L ≤ 4) (d : Nat) (hd : 0 ≤ d) : ∀ (n : Nat) (k : Nat) (hm : L < k + n) (hk : k ≤ L), PAt (EM d (Pi (fun v σ2 => v = nI (S ^ L) ∧ σ2 = σ))) mX6_rowsOf 4 [(3, .int (nI k)), (2, .int (nI (S ^ k))), (0, .ref 1), (1, .int (nI L))] [] σ := by
  intro n
  induction n with
  | zero => intro k hm hk; exact absurd hm (by omega)
  | succ n ih =>
    intro k hm hk
    refine tq_iload_n 0 (dget dX6_rowsOf 4 rfl) rfl rfl ?_
    refine tq_iload_n 3 (dget dX6_rowsOf 5 rfl) rfl rfl ?_
    refine tq_icmp_ge (tgt := 22) (dget dX6_rowsOf 6 rfl) (by decide) (fun c_6 => ?_) (fun c_6 => ?_)
    · have g_6 := kle (by omega) (by omega) c_6
      refine tq_iload_n 1 (dget dX6_rowsOf 14 rfl) rfl rfl ?_
      exact tq_iret rfl (dget dX6_rowsOf 15 rfl) ⟨_, rfl, by rw [show k = L by omega], rfl⟩
    · have g_6 := knle (by omega) (by omega) c_6
      refine tq_iload_n 1 (dget dX6_rowsOf 7 rfl) rfl rfl ?_
      refine tq_aload_n 2 (dget dX6_rowsOf 8 rfl) rfl rfl ?_
      refine tq_getI (dget dX6_rowsOf 9 rfl) fX6_27 rfl rfl ?_
      refine tq_imul (dget dX6_rowsOf 10 rfl) ?_
      refine tq_eqi (y := (nI (S ^ (k + 1)))) (by rw [hV.1, nI_mulN, Nat.pow_succ]) ?_
      refine tq_istore_n (ls2 := [(2, .int (nI (S ^ (k + 1)))), (3, .int (nI k)), (0, .ref 1), (1, .int (nI L))]) (dget dX6_rowsOf 11 rfl) rfl (by decide) rfl ?_
      refine tq_iinc (v := (nI (k + 1))) (ls2 := [(3, .int (nI (k + 1))), (2, .int (nI (S ^ (k + 1)))), (0, .ref 1), (1, .int (nI L))]) 1 (dget dX6_rowsOf 12 rfl) rfl (nI_1 k) (by decide) rfl ?_
      refine tq_goto (tgt := 4) (dget dX6_rowsOf 13 rfl) (by decide) ?_
      refine tq_sub [0, 1, 2, 3] (ls' := [(3, .int (nI (k + 1))), (2, .int (nI (S ^ (k + 1)))), (0, .ref 1), (1, .int (nI L))]) rfl ?_
      exact ih (k + 1) (by omega) (by omega)
set_option maxHeartbeats 4000000 in
set_option maxRecDepth 20000 in
theorem c_rowsOf (σ : Mem) (S M L : Nat) (hV : VA σ S M) (hL : L ≤ 4) (d : Nat) (hd : 0 ≤ d) : PMet d mX6_rowsOf [.ref 1, .int (nI L)] σ (Pi (fun v σ2 => v = nI (S ^ L) ∧ σ2 = σ)) := by
  refine PMet.start (ls0 := [(0, .ref 1), (1, .int (nI L))]) miX6_rowsOf.1 (Nat.le_of_ble_eq_true rfl) rfl ?_
  refine tq_iconst (v := 1) (dget dX6_rowsOf 0 rfl) rfl ?_
  refine tq_istore_n (ls2 := [(2, .int 1), (0, .ref 1), (1, .int (nI L))]) (dget dX6_rowsOf 1 rfl) rfl (by decide) rfl ?_
  refine tq_iconst (v := 0) (dget dX6_rowsOf 2 rfl) rfl ?_
  refine tq_istore_n (ls2 := [(3, .int 0), (2, .int 1), (0, .ref 1), (1, .int (nI L))]) (dget dX6_rowsOf 3 rfl) rfl (by decide) rfl ?_
  refine tq_sub [0, 1, 2, 3] (ls' := [(3, .int 0), (2, .int 1), (0, .ref 1), (1, .int (nI L))]) rfl ?_
  exact c_rowsOf_loop σ S M L hV hL d (by omega) (L + 1) 0 (by omega) (by omega)
set_option maxHeartbeats 4000000 in
set_option maxRecDepth 20000 in
theorem c_sumOfFirst_loop (σ : Mem) (S M m R F : Nat) (h : Nat → Nat) (hV : VA σ S M) (hm4 : m < 4) (hh : ∀ s, s < S → σ (4 + m) s = nI (h s) ∧ h s ≤ 9) (hR : R ≤ 216) (hF : F ≤ 2000) (d : Nat) (hd : 1 ≤ d) : ∀ (n : Nat) (k : Nat) (hm : S < k + n) (hk : k ≤ S), PAt (EM d (Pi (fun v σ2 => v = nI (sfF h R F S) ∧ σ2 = σ))) mX6_sumOfFirst 6 [(5, .int (nI k)), (4, .int (nI (sfF h R F k))), (0, .ref 1), (1, .int (nI m)), (2, .int (nI R)), (3, .int (nI F))] [] σ := by
  obtain ⟨d, rfl⟩ : ∃ e, d = e + 1 := ⟨d - 1, by omega⟩
  intro n
  induction n with
  | zero => intro k hm hk; exact absurd hm (by omega)
  | succ n ih =>
    intro k hm hk
    obtain ⟨v1, v2, v3, v4⟩ := id hV
    refine tq_iload 0 (dget dX6_sumOfFirst 4 rfl) rfl ?_
    refine tq_aload_n 2 (dget dX6_sumOfFirst 5 rfl) rfl rfl ?_
    refine tq_getI (dget dX6_sumOfFirst 6 rfl) fX6_27 rfl rfl ?_
    refine tq_icmp_ge (tgt := 41) (dget dX6_sumOfFirst 7 rfl) (by decide) (fun c_12 => ?_) (fun c_12 => ?_)
    · rw [v1] at c_12
      have g_12 := kle (by omega) (by omega) c_12
      refine tq_iload 1 (dget dX6_sumOfFirst 23 rfl) rfl ?_
      exact tq_iret rfl (dget dX6_sumOfFirst 24 rfl) ⟨_, rfl, by rw [show k = S by omega], rfl⟩
    · rw [v1] at c_12
      have g_12 := knle (by omega) (by omega) c_12
      refine tq_iload 1 (dget dX6_sumOfFirst 8 rfl) rfl ?_
      refine tq_aload_n 2 (dget dX6_sumOfFirst 9 rfl) rfl rfl ?_
      refine tq_getR (dget dX6_sumOfFirst 10 rfl) fX6_17 rfl rfl ?_
      refine tq_iload_n 3 (dget dX6_sumOfFirst 11 rfl) rfl rfl ?_
      refine tq_hers m (dget dX6_sumOfFirst 12 rfl) rfl (by omega) ?_
      refine tq_iload 0 (dget dX6_sumOfFirst 13 rfl) rfl ?_
      refine tq_ialdN k (dget dX6_sumOfFirst 14 rfl) (SH_hers (by omega)) (by decide) rfl (by omega) ?_
      refine tq_iload_n 4 (dget dX6_sumOfFirst 15 rfl) rfl rfl ?_
      refine tq_imul (dget dX6_sumOfFirst 16 rfl) ?_
      refine tq_eqi (y := (nI (h k * R))) (by rw [(hh k g_12).1, nI_mulN]) ?_
      refine tq_iload_n 5 (dget dX6_sumOfFirst 17 rfl) rfl rfl ?_
      refine tq_max (dget dX6_sumOfFirst 18 rfl) (tblG_2 128 rfl rfl) (tblG_2 129 rfl rfl) (tblG_1 12 rfl rfl) (tblG_2 130 rfl rfl) (by show 1 ≤ d + 1; omega) (by show _ ≤ 40 * (d + 1); have h0 : 16 ≤ 40 * (d + 1) := (by omega); exact Nat.le_trans (Nat.le_of_ble_eq_true rfl) h0) (Nat.le_refl _) (Nat.le_refl _) ?_
      refine tq_eqi (y := (nI (if h k * R < F then F else h k * R))) (by have h9 := Nat.mul_le_mul_right R (hh k g_12).2; by_cases q : h k * R < F <;> simp [q, nI_ltI (show h k * R < 2 ^ 31 by omega) (show F < 2 ^ 31 by omega)]) ?_
      refine tq_iadd (dget dX6_sumOfFirst 19 rfl) ?_
      refine tq_eqi (y := (nI (sfF h R F (k + 1)))) (by rw [nI_add]; rfl) ?_
      refine tq_istore (ls2 := [(4, .int (nI (sfF h R F (k + 1)))), (5, .int (nI k)), (0, .ref 1), (1, .int (nI m)), (2, .int (nI R)), (3, .int (nI F))]) (dget dX6_sumOfFirst 20 rfl) (by decide) rfl ?_
      refine tq_iinc (v := (nI (k + 1))) (ls2 := [(5, .int (nI (k + 1))), (4, .int (nI (sfF h R F (k + 1)))), (0, .ref 1), (1, .int (nI m)), (2, .int (nI R)), (3, .int (nI F))]) 1 (dget dX6_sumOfFirst 21 rfl) rfl (nI_1 k) (by decide) rfl ?_
      refine tq_goto (tgt := 6) (dget dX6_sumOfFirst 22 rfl) (by decide) ?_
      refine tq_sub [0, 1, 2, 3, 4, 5] (ls' := [(5, .int (nI (k + 1))), (4, .int (nI (sfF h R F (k + 1)))), (0, .ref 1), (1, .int (nI m)), (2, .int (nI R)), (3, .int (nI F))]) rfl ?_
      exact ih (k + 1) (by omega) (by omega)
set_option maxHeartbeats 4000000 in
set_option maxRecDepth 20000 in
theorem c_sumOfFirst (σ : Mem) (S M m R F : Nat) (h : Nat → Nat) (hV : VA σ S M) (hm4 : m < 4) (hh : ∀ s, s < S → σ (4 + m) s = nI (h s) ∧ h s ≤ 9) (hR : R ≤ 216) (hF : F ≤ 2000) (d : Nat) (hd : 1 ≤ d) : PMet d mX6_sumOfFirst [.ref 1, .int (nI m), .int (nI R), .int (nI F)] σ (Pi (fun v σ2 => v = nI (sfF h R F S) ∧ σ2 = σ)) := by
  obtain ⟨d, rfl⟩ : ∃ e, d = e + 1 := ⟨d - 1, by omega⟩
  refine PMet.start (ls0 := [(0, .ref 1), (1, .int (nI m)), (2, .int (nI R)), (3, .int (nI F))]) miX6_sumOfFirst.1 (Nat.le_of_ble_eq_true rfl) rfl ?_
  refine tq_iconst (v := 0) (dget dX6_sumOfFirst 0 rfl) rfl ?_
  refine tq_istore (ls2 := [(4, .int 0), (0, .ref 1), (1, .int (nI m)), (2, .int (nI R)), (3, .int (nI F))]) (dget dX6_sumOfFirst 1 rfl) (by decide) rfl ?_
  refine tq_iconst (v := 0) (dget dX6_sumOfFirst 2 rfl) rfl ?_
  refine tq_istore (ls2 := [(5, .int 0), (4, .int 0), (0, .ref 1), (1, .int (nI m)), (2, .int (nI R)), (3, .int (nI F))]) (dget dX6_sumOfFirst 3 rfl) (by decide) rfl ?_
  refine tq_sub [0, 1, 2, 3, 4, 5] (ls' := [(5, .int 0), (4, .int 0), (0, .ref 1), (1, .int (nI m)), (2, .int (nI R)), (3, .int (nI F))]) rfl ?_
  exact c_sumOfFirst_loop σ S M m R F h hV hm4 hh hR hF (d + 1) (by omega) (S + 1) 0 (by omega) (by omega)
set_option maxHeartbeats 4000000 in
set_option maxRecDepth 20000 in
theorem c_sumOverRows_loop (σ : Mem) (S M m L r : Nat) (h : Nat → Nat) (hV : VA σ S M) (hm4 : m < 4) (hh : ∀ s, s < S → σ (4 + m) s = nI (h s) ∧ h s ≤ 9) (hL : L ≤ 4) (hr : r ≤ 3) (d : Nat) (hd : 2 ≤ d) : ∀ (n : Nat) (k : Nat) (hm : L < k + n) (hk : k ≤ L), PAt (EM d (Pi (fun v σ2 => v = nI (sorF h S L r L) ∧ σ2 = σ))) mX6_sumOverRows 6 [(5, .int (nI (k + 1))), (4, .int (nI (sorF h S L r k))), (0, .ref 1), (1, .int (nI m)), (2, .int (nI L)), (3, .int (nI r))] [] σ := by
  obtain ⟨d, rfl⟩ : ∃ e, d = e + 1 := ⟨d - 1, by omega⟩
  intro n
  induction n with
  | zero => intro k hm hk; exact absurd hm (by omega)
  | succ n ih =>
    intro k hm hk
    obtain ⟨v1, v2, v3, v4⟩ := id hV
    have hs9 := sorF_le h S L r (fun s hs => (hh s hs).2) k
    refine tq_iload 0 (dget dX6_sumOverRows 4 rfl) rfl ?_
    refine tq_iload_n 4 (dget dX6_sumOverRows 5 rfl) rfl rfl ?_
    refine tq_icmp_gt (tgt := 51) (dget dX6_sumOverRows 6 rfl) (by decide) (fun c_9 => ?_) (fun c_9 => ?_)
    · have g_9 := klt (by omega) (by omega) c_9
      refine tq_iload 1 (dget dX6_sumOverRows 28 rfl) rfl ?_
      exact tq_iret rfl (dget dX6_sumOverRows 29 rfl) ⟨_, rfl, by rw [show k = L by omega], rfl⟩
    · have g_9 := knlt (by omega) (by omega) c_9
      have hp9 := pow63 (k := k) v3 (by omega)
      refine tq_iload_n 5 (dget dX6_sumOverRows 7 rfl) rfl rfl ?_
      refine tq_iload_n 4 (dget dX6_sumOverRows 8 rfl) rfl rfl ?_
      refine tq_iload 0 (dget dX6_sumOverRows 9 rfl) rfl ?_
      refine tq_isub (dget dX6_sumOverRows 10 rfl) ?_
      refine tq_eqi (y := (nI (L - (k + 1)))) (nI_subN (by omega)) ?_
      refine tq_icmp_le (tgt := 25) (dget dX6_sumOverRows 11 rfl) (by decide) (fun c_17 => ?_) (fun c_17 => ?_)
      · have g_17 : ¬ L - (k + 1) < r := Nat.not_lt.mpr (kle (by omega) (by omega) c_17)
        refine tq_iconst (v := 0) (dget dX6_sumOverRows 14 rfl) rfl ?_
        refine tq_istore (ls2 := [(6, .int 0), (5, .int (nI (k + 1))), (4, .int (nI (sorF h S L r k))), (0, .ref 1), (1, .int (nI m)), (2, .int (nI L)), (3, .int (nI r))]) (dget dX6_sumOverRows 15 rfl) (by decide) rfl ?_
        refine tq_aload_n 3 (dget dX6_sumOverRows 16 rfl) rfl rfl ?_
        refine tq_iload_n 4 (dget dX6_sumOverRows 17 rfl) rfl rfl ?_
        refine tq_aload_n 3 (dget dX6_sumOverRows 18 rfl) rfl rfl ?_
        refine tq_iload 1 (dget dX6_sumOverRows 19 rfl) rfl ?_
        refine tq_iconst (v := 1) (dget dX6_sumOverRows 20 rfl) rfl ?_
        refine tq_isub (dget dX6_sumOverRows 21 rfl) ?_
        refine tq_eqi (y := (nI k)) (nI_pred k) ?_
        refine mq_Vi (As := [.int (nI k)]) (rest := [.int (nI m), .ref 1]) (dget dX6_sumOverRows 22 rfl) lX6_71 miX6_rowsOf (c_rowsOf σ S M k hV (by omega) d (by omega)) rfl rfl rfl rfl (Nat.le_of_ble_eq_true rfl) (Nat.le_of_ble_eq_true rfl) (fun r_35 σ_35 h_35 => ?_)
        obtain ⟨a_35, e_35⟩ := h_35
        obtain rfl := a_35.symm
        obtain rfl := e_35.symm
        refine tq_iload 0 (dget dX6_sumOverRows 23 rfl) rfl ?_
        refine mq_Vi (As := [.int (nI m), .int (nI (S ^ k)), .int 0]) (rest := []) (dget dX6_sumOverRows 24 rfl) lX6_74 miX6_sumOfFirst (c_sumOfFirst σ S M m (S ^ k) 0 h hV hm4 hh (pow63 v3 (by omega)) (by omega) d (by omega)) rfl rfl rfl rfl (Nat.le_of_ble_eq_true rfl) (Nat.le_of_ble_eq_true rfl) (fun r_40 σ_40 h_40 => ?_)
        obtain ⟨a_40, e_40⟩ := h_40
        obtain rfl := a_40.symm
        obtain rfl := e_40.symm
        rw [show sfF h (S ^ k) 0 S = sorF h S L r (k + 1) by rw [sorF, if_neg g_17]]
        refine tq_istore (ls2 := [(4, .int (nI (sorF h S L r (k + 1)))), (6, .int 0), (5, .int (nI (k + 1))), (0, .ref 1), (1, .int (nI m)), (2, .int (nI L)), (3, .int (nI r))]) (dget dX6_sumOverRows 25 rfl) (by decide) rfl ?_
        refine tq_iinc (v := (nI (k + 1 + 1))) (ls2 := [(5, .int (nI (k + 1 + 1))), (4, .int (nI (sorF h S L r (k + 1)))), (6, .int 0), (0, .ref 1), (1, .int (nI m)), (2, .int (nI L)), (3, .int (nI r))]) 2 (dget dX6_sumOverRows 26 rfl) rfl (nI_1 _) (by decide) rfl ?_
        refine tq_goto (tgt := 6) (dget dX6_sumOverRows 27 rfl) (by decide) ?_
        refine tq_sub [0, 1, 3, 4, 5, 6] (ls' := [(5, .int (nI (k + 1 + 1))), (4, .int (nI (sorF h S L r (k + 1)))), (0, .ref 1), (1, .int (nI m)), (2, .int (nI L)), (3, .int (nI r))]) rfl ?_
        exact ih (k + 1) (by omega) (by omega)
      · have g_17 := knle (by omega) (by omega) c_17
        refine tq_iload 1 (dget dX6_sumOverRows 12 rfl) rfl ?_
        refine tq_goto (tgt := 26) (dget dX6_sumOverRows 13 rfl) (by decide) ?_
        refine tq_istore (ls2 := [(6, .int (nI (sorF h S L r k))), (5, .int (nI (k + 1))), (4, .int (nI (sorF h S L r k))), (0, .ref 1), (1, .int (nI m)), (2, .int (nI L)), (3, .int (nI r))]) (dget dX6_sumOverRows 15 rfl) (by decide) rfl ?_
        refine tq_aload_n 3 (dget dX6_sumOverRows 16 rfl) rfl rfl ?_
        refine tq_iload_n 4 (dget dX6_sumOverRows 17 rfl) rfl rfl ?_
        refine tq_aload_n 3 (dget dX6_sumOverRows 18 rfl) rfl rfl ?_
        refine tq_iload 1 (dget dX6_sumOverRows 19 rfl) rfl ?_
        refine tq_iconst (v := 1) (dget dX6_sumOverRows 20 rfl) rfl ?_
        refine tq_isub (dget dX6_sumOverRows 21 rfl) ?_
        refine tq_eqi (y := (nI k)) (nI_pred k) ?_
        refine mq_Vi (As := [.int (nI k)]) (rest := [.int (nI m), .ref 1]) (dget dX6_sumOverRows 22 rfl) lX6_71 miX6_rowsOf (c_rowsOf σ S M k hV (by omega) d (by omega)) rfl rfl rfl rfl (Nat.le_of_ble_eq_true rfl) (Nat.le_of_ble_eq_true rfl) (fun r_35 σ_35 h_35 => ?_)
        obtain ⟨a_35, e_35⟩ := h_35
        obtain rfl := a_35.symm
        obtain rfl := e_35.symm
        refine tq_iload 0 (dget dX6_sumOverRows 23 rfl) rfl ?_
        refine mq_Vi (As := [.int (nI m), .int (nI (S ^ k)), .int (nI (sorF h S L r k))]) (rest := []) (dget dX6_sumOverRows 24 rfl) lX6_74 miX6_sumOfFirst (c_sumOfFirst σ S M m (S ^ k) (sorF h S L r k) h hV hm4 hh (pow63 v3 (by omega)) (by omega) d (by omega)) rfl rfl rfl rfl (Nat.le_of_ble_eq_true rfl) (Nat.le_of_ble_eq_true rfl) (fun r_40 σ_40 h_40 => ?_)
        obtain ⟨a_40, e_40⟩ := h_40
        obtain rfl := a_40.symm
        obtain rfl := e_40.symm
        rw [show sfF h (S ^ k) (sorF h S L r k) S = sorF h S L r (k + 1) by rw [sorF, if_pos g_17]]
        refine tq_istore (ls2 := [(4, .int (nI (sorF h S L r (k + 1)))), (6, .int (nI (sorF h S L r k))), (5, .int (nI (k + 1))), (0, .ref 1), (1, .int (nI m)), (2, .int (nI L)), (3, .int (nI r))]) (dget dX6_sumOverRows 25 rfl) (by decide) rfl ?_
        refine tq_iinc (v := (nI (k + 1 + 1))) (ls2 := [(5, .int (nI (k + 1 + 1))), (4, .int (nI (sorF h S L r (k + 1)))), (6, .int (nI (sorF h S L r k))), (0, .ref 1), (1, .int (nI m)), (2, .int (nI L)), (3, .int (nI r))]) 2 (dget dX6_sumOverRows 26 rfl) rfl (nI_1 _) (by decide) rfl ?_
        refine tq_goto (tgt := 6) (dget dX6_sumOverRows 27 rfl) (by decide) ?_
        refine tq_sub [0, 1, 3, 4, 5, 6] (ls' := [(5, .int (nI (k + 1 + 1))), (4, .int (nI (sorF h S L r (k + 1)))), (0, .ref 1), (1, .int (nI m)), (2, .int (nI L)), (3, .int (nI r))]) rfl ?_
        exact ih (k + 1) (by omega) (by omega)
set_option maxHeartbeats 4000000 in
set_option maxRecDepth 20000 in
theorem c_sumOverRows (σ : Mem) (S M m L r : Nat) (h : Nat → Nat) (hV : VA σ S M) (hm4 : m < 4) (hh : ∀ s, s < S → σ (4 + m) s = nI (h s) ∧ h s ≤ 9) (hL : L ≤ 4) (hr : r ≤ 3) (d : Nat) (hd : 2 ≤ d) : PMet d mX6_sumOverRows [.ref 1, .int (nI m), .int (nI L), .int (nI r)] σ (Pi (fun v σ2 => v = nI (sorF h S L r L) ∧ σ2 = σ)) := by
  obtain ⟨d, rfl⟩ : ∃ e, d = e + 1 := ⟨d - 1, by omega⟩
  refine PMet.start (ls0 := [(0, .ref 1), (1, .int (nI m)), (2, .int (nI L)), (3, .int (nI r))]) miX6_sumOverRows.1 (Nat.le_of_ble_eq_true rfl) rfl ?_
  refine tq_iconst (v := 0) (dget dX6_sumOverRows 0 rfl) rfl ?_
  refine tq_istore (ls2 := [(4, .int 0), (0, .ref 1), (1, .int (nI m)), (2, .int (nI L)), (3, .int (nI r))]) (dget dX6_sumOverRows 1 rfl) (by decide) rfl ?_
  refine tq_iconst (v := 1) (dget dX6_sumOverRows 2 rfl) rfl ?_
  refine tq_istore (ls2 := [(5, .int 1), (4, .int 0), (0, .ref 1), (1, .int (nI m)), (2, .int (nI L)), (3, .int (nI r))]) (dget dX6_sumOverRows 3 rfl) (by decide) rfl ?_
  refine tq_sub [0, 1, 2, 3, 4, 5] (ls' := [(5, .int 1), (4, .int 0), (0, .ref 1), (1, .int (nI m)), (2, .int (nI L)), (3, .int (nI r))]) rfl ?_
  exact c_sumOverRows_loop σ S M m L r h hV hm4 hh hL hr (d + 1) (by omega) (L + 1) 0 (by omega) (by omega)

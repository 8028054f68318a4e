/-! ===== the engine's rules for places that are natural numbers; rows of likings, sheets ===== -/
theorem vpN {x : Int32} {j n : Nat} (hx : x = nI j) (hj : j < n) (hn : n < 2 ^ 31) : vp_in x n := by rw [hx]; exact vp_in_nI hj hn
theorem clN {x : Int32} {j n : Nat} (hx : x = nI j) (hj : j < n) (hn : n < 2 ^ 31) : x.toNatClampNeg = j := by rw [hx]; exact nI_clamp (Nat.lt_trans hj hn)
section TN
variable {E : ET} {M : MT} {pc : Nat} {ls : List (Nat × Value)} {st : List Value} {σ : Mem}
theorem tq_ialdN {i n : Nat} {x : Int32} (j : Nat) (hd : decode M.2.1 pc = .ok (.iaload, 1)) (hs : SH i = some (.inl (.int, n))) (hn : n < 2 ^ 31) (hx : x = nI j) (hj : j < n) (k : PAt E M (pc + 1) ls (.int (σ i j) :: st) σ) : PAt E M pc ls (.int x :: .ref i :: st) σ :=
  tq_iald hd hs (vpN hx hj hn) (by rw [clN hx hj hn]; exact k)
theorem tq_zaldN {i n : Nat} {x : Int32} (j : Nat) (hd : decode M.2.1 pc = .ok (.baload, 1)) (hs : SH i = some (.inl (.boolean, n))) (hn : n < 2 ^ 31) (hx : x = nI j) (hj : j < n) (k : PAt E M (pc + 1) ls (.int (σ i j) :: st) σ) : PAt E M pc ls (.int x :: .ref i :: st) σ :=
  tq_zald hd hs (vpN hx hj hn) (by rw [clN hx hj hn]; exact k)
theorem tq_iastN {i n : Nat} {x v : Int32} (j : Nat) (hd : decode M.2.1 pc = .ok (.iastore, 1)) (hs : SH i = some (.inl (.int, n))) (hn : n < 2 ^ 31) (hx : x = nI j) (hj : j < n) (k : PAt E M (pc + 1) ls st (up σ i j v)) : PAt E M pc ls (.int v :: .int x :: .ref i :: st) σ :=
  tq_iast hd hs (vpN hx hj hn) (by rw [clN hx hj hn]; exact k)
theorem tq_zastN {i n : Nat} {x v : Int32} (j : Nat) (hd : decode M.2.1 pc = .ok (.bastore, 1)) (hs : SH i = some (.inl (.boolean, n))) (hn : n < 2 ^ 31) (hx : x = nI j) (hj : j < n) (k : PAt E M (pc + 1) ls st (up σ i j (vp_nar .boolean v))) : PAt E M pc ls (.int v :: .int x :: .ref i :: st) σ :=
  tq_zast hd hs (vpN hx hj hn) (by rw [clN hx hj hn]; exact k)
theorem SH_hers {m : Nat} (h : m < 4) : SH (4 + m) = some (.inl (.int, 6)) := by
  rcases (show m = 0 ∨ m = 1 ∨ m = 2 ∨ m = 3 by omega) with rfl | rfl | rfl | rfl <;> rfl
theorem SH_his {m : Nat} (h : m < 4) : SH (9 + m) = some (.inl (.int, 6)) := by
  rcases (show m = 0 ∨ m = 1 ∨ m = 2 ∨ m = 3 by omega) with rfl | rfl | rfl | rfl <;> rfl
theorem SH_sheet {m : Nat} (h : m < 4) : SH (34 + 2 * m) = some (.inr (.inr (4, [some (35 + 2 * m), none, none, none]))) := by
  rcases (show m = 0 ∨ m = 1 ∨ m = 2 ∨ m = 3 by omega) with rfl | rfl | rfl | rfl <;> rfl
theorem SH_cells {m : Nat} (h : m < 4) : SH (35 + 2 * m) = some (.inl (.int, 100)) := by
  rcases (show m = 0 ∨ m = 1 ∨ m = 2 ∨ m = 3 by omega) with rfl | rfl | rfl | rfl <;> rfl
theorem tq_hers {x : Int32} (m : Nat) (hd : decode M.2.1 pc = .ok (.aaload, 1)) (hx : x = nI m) (hm : m < 4) (k : PAt E M (pc + 1) ls (.ref (4 + m) :: st) σ) : PAt E M pc ls (.int x :: .ref 3 :: st) σ :=
  tq_aaldR (rs := [4, 5, 6, 7]) hd rfl (vpN hx hm (by decide)) (by rw [clN hx hm (by decide)]; rcases (show m = 0 ∨ m = 1 ∨ m = 2 ∨ m = 3 by omega) with rfl | rfl | rfl | rfl <;> rfl) k
theorem tq_his {x : Int32} (m : Nat) (hd : decode M.2.1 pc = .ok (.aaload, 1)) (hx : x = nI m) (hm : m < 4) (k : PAt E M (pc + 1) ls (.ref (9 + m) :: st) σ) : PAt E M pc ls (.int x :: .ref 8 :: st) σ :=
  tq_aaldR (rs := [9, 10, 11, 12]) hd rfl (vpN hx hm (by decide)) (by rw [clN hx hm (by decide)]; rcases (show m = 0 ∨ m = 1 ∨ m = 2 ∨ m = 3 by omega) with rfl | rfl | rfl | rfl <;> rfl) k
theorem tq_sheets {x : Int32} (m : Nat) (hd : decode M.2.1 pc = .ok (.aaload, 1)) (hx : x = nI m) (hm : m < 4) (k : PAt E M (pc + 1) ls (.ref (34 + 2 * m) :: st) σ) : PAt E M pc ls (.int x :: .ref 32 :: st) σ :=
  tq_aaldS (rs := [34, 36, 38, 40]) hd rfl (vpN hx hm (by decide)) (by rw [clN hx hm (by decide)]; rcases (show m = 0 ∨ m = 1 ∨ m = 2 ∨ m = 3 by omega) with rfl | rfl | rfl | rfl <;> rfl) k
end TN
section TD
variable {M M2 : MT} {pc idx d i n : Nat} {ls : List (Nat × Value)} {st As rest : List Value} {σ : Mem} {Q : Option Value → Mem → Prop}
theorem hlo_of (h : M2.2.2.1 ≤ 21) : 8 + (M2.2.2.1 + 11) + 40 * d ≤ (EM (d + 1) Q).1.locals := by
  show _ ≤ 40 * (d + 1)
  omega
theorem mq_Vi {P : Int32 → Mem → Prop} {ci N : Nat} {T : u_T} {fs : List (Option Nat)} (hd : decode M.2.1 pc = .ok (.invokevirtual idx, 3)) (hli : ML M.1.cls idx M2) (hMI : MI n M2) (hM : PMet d M2 (.ref i :: As) σ (Pi P)) (hs : SH i = some (.inr (.inr (ci, fs)))) (hc : vwCl[ci]? = some (M2.1.cls, T, N)) (hn : As.length = n) (hst : st = As.reverse ++ ([.ref i] ++ rest)) (hW : (rest.map (fun v => v.category)).sum ≤ 8) (hlo : M2.2.2.1 ≤ 21)
    (kk : ∀ (v : Int32) (σ' : Mem), P v σ' → PAt (EM (d + 1) Q) M (pc + 3) ls (.int v :: rest) σ') : PAt (EM (d + 1) Q) M pc ls st σ :=
  tq_callVi hd hli hMI hM hs hc hn hst hW (Nat.le_refl _) (hlo_of hlo) ⟨Nat.le_refl _, Nat.le_refl _⟩ kk
theorem mq_Vl {P : Int64 → Mem → Prop} {ci N : Nat} {T : u_T} {fs : List (Option Nat)} (hd : decode M.2.1 pc = .ok (.invokevirtual idx, 3)) (hli : ML M.1.cls idx M2) (hMI : MI n M2) (hM : PMet d M2 (.ref i :: As) σ (Pl P)) (hs : SH i = some (.inr (.inr (ci, fs)))) (hc : vwCl[ci]? = some (M2.1.cls, T, N)) (hn : As.length = n) (hst : st = As.reverse ++ ([.ref i] ++ rest)) (hW : (rest.map (fun v => v.category)).sum ≤ 8) (hlo : M2.2.2.1 ≤ 21)
    (kk : ∀ (v : Int64) (σ' : Mem), P v σ' → PAt (EM (d + 1) Q) M (pc + 3) ls (.long v :: rest) σ') : PAt (EM (d + 1) Q) M pc ls st σ :=
  tq_callVl hd hli hMI hM hs hc hn hst hW (Nat.le_refl _) (hlo_of hlo) ⟨Nat.le_refl _, Nat.le_refl _⟩ kk
theorem mq_Va {P : Nat → Mem → Prop} {ci N : Nat} {T : u_T} {fs : List (Option Nat)} (hd : decode M.2.1 pc = .ok (.invokevirtual idx, 3)) (hli : ML M.1.cls idx M2) (hMI : MI n M2) (hM : PMet d M2 (.ref i :: As) σ (Pa P)) (hs : SH i = some (.inr (.inr (ci, fs)))) (hc : vwCl[ci]? = some (M2.1.cls, T, N)) (hn : As.length = n) (hst : st = As.reverse ++ ([.ref i] ++ rest)) (hW : (rest.map (fun v => v.category)).sum ≤ 8) (hlo : M2.2.2.1 ≤ 21)
    (kk : ∀ (v : Nat) (σ' : Mem), P v σ' → PAt (EM (d + 1) Q) M (pc + 3) ls (.ref v :: rest) σ') : PAt (EM (d + 1) Q) M pc ls st σ :=
  tq_callVa hd hli hMI hM hs hc hn hst hW (Nat.le_refl _) (hlo_of hlo) ⟨Nat.le_refl _, Nat.le_refl _⟩ kk
theorem mq_Vv {P : Mem → Prop} {ci N : Nat} {T : u_T} {fs : List (Option Nat)} (hd : decode M.2.1 pc = .ok (.invokevirtual idx, 3)) (hli : ML M.1.cls idx M2) (hMI : MI n M2) (hM : PMet d M2 (.ref i :: As) σ (Pv P)) (hs : SH i = some (.inr (.inr (ci, fs)))) (hc : vwCl[ci]? = some (M2.1.cls, T, N)) (hn : As.length = n) (hst : st = As.reverse ++ ([.ref i] ++ rest)) (hW : (rest.map (fun v => v.category)).sum ≤ 8) (hlo : M2.2.2.1 ≤ 21)
    (kk : ∀ (σ' : Mem), P σ' → PAt (EM (d + 1) Q) M (pc + 3) ls rest σ') : PAt (EM (d + 1) Q) M pc ls st σ :=
  tq_callVv hd hli hMI hM hs hc hn hst hW (Nat.le_refl _) (hlo_of hlo) ⟨Nat.le_refl _, Nat.le_refl _⟩ kk
theorem mq_Si {P : Int32 → Mem → Prop} (hd : decode M.2.1 pc = .ok (.invokestatic idx, 3)) (hli : ML M.1.cls idx M2) (hMS : MS n M2) (hM : PMet d M2 As σ (Pi P)) (hn : As.length = n) (hst : st = As.reverse ++ ([] ++ rest)) (hW : (rest.map (fun v => v.category)).sum ≤ 8) (hlo : M2.2.2.1 ≤ 21)
    (kk : ∀ (v : Int32) (σ' : Mem), P v σ' → PAt (EM (d + 1) Q) M (pc + 3) ls (.int v :: rest) σ') : PAt (EM (d + 1) Q) M pc ls st σ :=
  tq_callSi hd hli hMS hM hn hst hW (Nat.le_refl _) (hlo_of hlo) ⟨Nat.le_refl _, Nat.le_refl _⟩ kk
theorem mq_Sl {P : Int64 → Mem → Prop} (hd : decode M.2.1 pc = .ok (.invokestatic idx, 3)) (hli : ML M.1.cls idx M2) (hMS : MS n M2) (hM : PMet d M2 As σ (Pl P)) (hn : As.length = n) (hst : st = As.reverse ++ ([] ++ rest)) (hW : (rest.map (fun v => v.category)).sum ≤ 8) (hlo : M2.2.2.1 ≤ 21)
    (kk : ∀ (v : Int64) (σ' : Mem), P v σ' → PAt (EM (d + 1) Q) M (pc + 3) ls (.long v :: rest) σ') : PAt (EM (d + 1) Q) M pc ls st σ :=
  tq_callSl hd hli hMS hM hn hst hW (Nat.le_refl _) (hlo_of hlo) ⟨Nat.le_refl _, Nat.le_refl _⟩ kk
theorem mq_Sv {P : Mem → Prop} (hd : decode M.2.1 pc = .ok (.invokestatic idx, 3)) (hli : ML M.1.cls idx M2) (hMS : MS n M2) (hM : PMet d M2 As σ (Pv P)) (hn : As.length = n) (hst : st = As.reverse ++ ([] ++ rest)) (hW : (rest.map (fun v => v.category)).sum ≤ 8) (hlo : M2.2.2.1 ≤ 21)
    (kk : ∀ (σ' : Mem), P σ' → PAt (EM (d + 1) Q) M (pc + 3) ls rest σ') : PAt (EM (d + 1) Q) M pc ls st σ :=
  tq_callSv hd hli hMS hM hn hst hW (Nat.le_refl _) (hlo_of hlo) ⟨Nat.le_refl _, Nat.le_refl _⟩ kk
end TD
/-! ===== switches ===== -/
theorem sw_in {x lo hi : Int} (h : ¬ (x < lo ∨ hi < x)) : lo ≤ x ∧ x ≤ hi := by omega
theorem sw_last4 {x : Int32} (h : 0 ≤ x.toInt ∧ x.toInt ≤ 3) (h0 : ¬ x = 0) (h1 : ¬ x = 1) (h2 : ¬ x = 2) : x = 3 := by
  have e0 : x.toInt ≠ 0 := fun q => h0 (Int32.toInt_inj.mp q)
  have e1 : x.toInt ≠ 1 := fun q => h1 (Int32.toInt_inj.mp q)
  have e2 : x.toInt ≠ 2 := fun q => h2 (Int32.toInt_inj.mp q)
  exact Int32.toInt_inj.mp (show x.toInt = 3 by omega)
theorem sw_last5 {x : Int32} (h : 0 ≤ x.toInt ∧ x.toInt ≤ 4) (h0 : ¬ x = 0) (h1 : ¬ x = 1) (h2 : ¬ x = 2) (h3 : ¬ x = 3) : x = 4 := by
  have e0 : x.toInt ≠ 0 := fun q => h0 (Int32.toInt_inj.mp q)
  have e1 : x.toInt ≠ 1 := fun q => h1 (Int32.toInt_inj.mp q)
  have e2 : x.toInt ≠ 2 := fun q => h2 (Int32.toInt_inj.mp q)
  have e3 : x.toInt ≠ 3 := fun q => h3 (Int32.toInt_inj.mp q)
  exact Int32.toInt_inj.mp (show x.toInt = 4 by omega)

/-! ===== the reference (1): numbers, small helpers, days ===== -/
theorem w_le (a b : Int32) : a.toInt64 ≤ b.toInt64 ↔ a ≤ b := by
  rw [Int64.le_iff_toInt_le, Int32.toInt_toInt64, Int32.toInt_toInt64, Int32.le_iff_toInt_le]
theorem w_0 (a : Int32) : (0 : Int64) ≤ a.toInt64 ↔ 0 ≤ a := w_le 0 a
theorem w_lt1 {a : Int32} {M : Nat} (hM : M < 2 ^ 31) : a.toInt64 ≤ (nI M).toInt64 - 1 ↔ a < nI M := by
  have e1 : ((nI M).toInt64 - 1).toInt = (nI M).toInt - (1 : Int32).toInt := lg_i2l_sub (nI M) 1
  rw [Int64.le_iff_toInt_le, e1, Int32.toInt_toInt64, Int32.lt_iff_toInt_lt, nI_toInt hM, show (1 : Int32).toInt = 1 from rfl]
  omega
def hMm (σ : Mem) (x : Int32) : Prop := 0 ≤ x ∧ x < σ 42 2
def hSm (σ : Mem) (x : Int32) : Prop := 0 ≤ x ∧ x < σ 42 1
def VM (σ : Mem) (S M : Nat) : Prop := σ 42 1 = nI S ∧ σ 42 2 = nI M ∧ S ≤ 6 ∧ M ≤ 4
theorem hMm_n {σ : Mem} {S M : Nat} {x : Int32} (hV : VM σ S M) (h : hMm σ x) : ∃ m, x = nI m ∧ m < M ∧ m < 4 := by
  have h4 := hV.2.2.2
  have h2 := h.2
  rw [hV.2.1] at h2
  obtain ⟨j, e, _, h3⟩ := dig (a := 0) (b := M) (by decide) (by omega) h.1 h2
  exact ⟨j, e, h3, by omega⟩
theorem hSm_n {σ : Mem} {S M : Nat} {x : Int32} (hV : VM σ S M) (h : hSm σ x) : ∃ m, x = nI m ∧ m < S ∧ m < 6 := by
  have h4 := hV.2.2.1
  have h2 := h.2
  rw [hV.1] at h2
  obtain ⟨j, e, _, h3⟩ := dig (a := 0) (b := S) (by decide) (by omega) h.1 h2
  exact ⟨j, e, h3, by omega⟩
theorem BP.not {P Q : Prop} {v : Int32} (h : BP P v) (e : P ↔ Q) : BP Q v := h.iff e
theorem mind_m {k r : Int32} {j : Nat} (hk : k = nI j) (hj : j < 3) : (if k = 0 then 5 else if k = 1 then 7 else 3 + r) = mindF k r := by
  subst hk
  rcases (show j = 0 ∨ j = 1 ∨ j = 2 by omega) with rfl | rfl | rfl
  · rfl
  · rfl
  · rfl
theorem up_self (σ : Mem) (i k : Nat) : up σ i k (σ i k) = σ := by
  unfold up
  rw [show upd (σ i) k (σ i k) = σ i by funext j; unfold upd; split <;> simp_all]
  exact upR_self σ i
theorem upR_comm {σ : Mem} {i j : Nat} {f g : Nat → Int32} (h : i ≠ j) : upR (upR σ i f) j g = upR (upR σ j g) i f := by
  funext a
  by_cases h1 : a = j
  · subst h1; rw [upR_s, upR_n (Ne.symm h), upR_s]
  · rw [upR_n h1]
    by_cases h2 : a = i
    · subst h2; rw [upR_s, upR_s]
    · rw [upR_n h2, upR_n h2, upR_n h1]
def kOK (σ : Mem) (M : Nat) : Prop := ∀ m, m < M → ∃ j, j < 3 ∧ σ 43 m = nI j
def ansM (σ : Mem) (m s : Nat) : Int32 := ansF (σ 42 6) (σ 43 m) (σ 44 (6 * m + s)) (σ 52 m)
def begM (σ : Mem) : Mem := fillR (fillR (fillR σ 52 4 0) 53 4 (-9)) 54 6 (-9)
def askVm (σ : Mem) (s m : Nat) : Int32 := if σ 53 m < 0 ∧ σ 54 s < 0 then ansM σ m s else 0
def askMm (σ : Mem) (s m : Nat) : Mem := if σ 53 m < 0 ∧ σ 54 s < 0 then (if ansM σ m s = 3 then up σ 52 m (σ 52 m + 1) else up (up σ 53 m (nI s)) 54 s (nI m)) else σ
def goFm (σ : Mem) (s m : Nat → Nat) : Nat → Mem
  | 0 => begM σ
  | k + 1 => up (askMm (goFm σ s m k) (s k) (m k)) 51 k (askVm (goFm σ s m k) (s k) (m k))
theorem askMm_row {σ : Mem} {s m a : Nat} (h1 : a ≠ 52) (h2 : a ≠ 53) (h3 : a ≠ 54) : askMm σ s m a = σ a := by
  unfold askMm
  split
  · split
    · exact up_row h1
    · exact (up_row h3).trans (up_row h2)
  · rfl
theorem fillR_row {σ : Mem} {i n a : Nat} {v : Int32} (h : a ≠ i) : fillR σ i n v a = σ a := upR_n h
theorem begM_row {σ : Mem} {a : Nat} (h1 : a ≠ 52) (h2 : a ≠ 53) (h3 : a ≠ 54) : begM σ a = σ a := (fillR_row h3).trans ((fillR_row h2).trans (fillR_row h1))
theorem goFm_row (σ : Mem) (s m : Nat → Nat) {a : Nat} (h1 : a ≠ 52) (h2 : a ≠ 53) (h3 : a ≠ 54) (h4 : a ≠ 51) : ∀ k, goFm σ s m k a = σ a
  | 0 => begM_row h1 h2 h3
  | k + 1 => (up_row h4).trans ((askMm_row h1 h2 h3).trans (goFm_row σ s m h1 h2 h3 h4 k))
theorem beg_step (σ : Mem) (k : Nat) : up (up (fillR (fillR σ 52 k 0) 53 k (-9)) 52 k 0) 53 k (-9) = fillR (fillR σ 52 (k + 1) 0) 53 (k + 1) (-9) := by
  have e1 : up (fillR (fillR σ 52 k 0) 53 k (-9)) 52 k 0 = fillR (fillR σ 52 (k + 1) 0) 53 k (-9) := by
    rw [← fillR_succ σ 52 k 0]
    have e2 : fillR (fillR σ 52 k 0) 53 k (-9) 52 = fillR σ 52 k 0 52 := fillR_row (by decide)
    have e3 : up (fillR σ 52 k 0) 52 k 0 53 = fillR σ 52 k 0 53 := up_row (by decide)
    show upR (fillR (fillR σ 52 k 0) 53 k (-9)) 52 (upd (fillR (fillR σ 52 k 0) 53 k (-9) 52) k 0) = upR (up (fillR σ 52 k 0) 52 k 0) 53 (fun j => if j < k then -9 else up (fillR σ 52 k 0) 52 k 0 53 j)
    rw [e2, e3]
    exact upR_comm (by decide)
  rw [e1]
  exact fillR_succ _ 53 k (-9)

set_option maxHeartbeats 4000000 in
set_option maxRecDepth 20000 in
theorem k_in (σ : Mem) (a l h : Int64) (d : Nat) (hd : 0 ≤ d) : PMet d mX8_in [.long a, .long l, .long h] σ (Pi (fun v σ2 => BP (l ≤ a ∧ a ≤ h) v ∧ σ2 = σ)) := by
  refine PMet.start (ls0 := [(0, .long a), (2, .long l), (4, .long h)]) miX8_in.1 (Nat.le_of_ble_eq_true rfl) rfl ?_
  refine tq_lload_n 0 (dget dX8_in 0 rfl) rfl rfl ?_
  refine tq_lload_n 1 (dget dX8_in 1 rfl) rfl rfl ?_
  refine tq_lcmp (dget dX8_in 2 rfl) ?_
  refine tq_if_lt (tgt := 17) (dget dX8_in 3 rfl) (by decide) (fun c_3 => ?_) (fun c_3 => ?_)
  · refine tq_iconst (v := 0) (dget dX8_in 10 rfl) rfl ?_
    exact tq_zret rfl rfl (dget dX8_in 11 rfl) ⟨_, rfl, BP.n (fun q => by first | exact absurd ((lg_cmp_ge a l).mpr q.1) (Int32.not_le.mpr c_3) | exact absurd ((lg_cmp_le a h).mpr q.2) (Int32.not_le.mpr c_10)), rfl⟩
  · refine tq_lload_n 0 (dget dX8_in 4 rfl) rfl rfl ?_
    refine tq_lload 2 (dget dX8_in 5 rfl) rfl ?_
    refine tq_lcmp (dget dX8_in 6 rfl) ?_
    refine tq_if_gt (tgt := 17) (dget dX8_in 7 rfl) (by decide) (fun c_10 => ?_) (fun c_10 => ?_)
    · refine tq_iconst (v := 0) (dget dX8_in 10 rfl) rfl ?_
      exact tq_zret rfl rfl (dget dX8_in 11 rfl) ⟨_, rfl, BP.n (fun q => by first | exact absurd ((lg_cmp_ge a l).mpr q.1) (Int32.not_le.mpr c_3) | exact absurd ((lg_cmp_le a h).mpr q.2) (Int32.not_le.mpr c_10)), rfl⟩
    · refine tq_iconst (v := 1) (dget dX8_in 8 rfl) rfl ?_
      refine tq_goto (tgt := 18) (dget dX8_in 9 rfl) (by decide) ?_
      exact tq_zret rfl rfl (dget dX8_in 11 rfl) ⟨_, rfl, BP.y ⟨(lg_cmp_ge a l).mp (Int32.not_lt.mp c_3), (lg_cmp_le a h).mp (Int32.not_lt.mp c_10)⟩, rfl⟩
set_option maxHeartbeats 4000000 in
set_option maxRecDepth 20000 in
theorem k_lost (σ : Mem) (d : Nat) (hd : 0 ≤ d) : PMet d mX8_lost [] σ (Pl (fun v σ2 => v = (-9223372036854775808) ∧ σ2 = σ)) := by
  refine PMet.start (ls0 := []) miX8_lost.1 (Nat.le_of_ble_eq_true rfl) rfl ?_
  refine tq_ldc2 (v := (-9223372036854775808)) (dget dX8_lost 0 rfl) (tblG_4 85 rfl rfl) ?_
  exact tq_lret rfl (dget dX8_lost 1 rfl) ⟨_, rfl, rfl, rfl⟩
set_option maxHeartbeats 4000000 in
set_option maxRecDepth 20000 in
theorem k_refused (σ : Mem) (x : Int32) (d : Nat) (hd : 0 ≤ d) : PMet d mX8_refused [.ref 42, .int x] σ (Pi (fun v σ2 => v = x ∧ σ2 = up σ 42 0 0)) := by
  refine PMet.start (ls0 := [(0, .ref 42), (1, .int x)]) miX8_refused.1 (Nat.le_of_ble_eq_true rfl) rfl ?_
  refine tq_aload_n 0 (dget dX8_refused 0 rfl) rfl rfl ?_
  refine tq_iconst (v := 0) (dget dX8_refused 1 rfl) rfl ?_
  refine tq_putI (dget dX8_refused 2 rfl) fX8_73 rfl rfl rfl rfl ?_
  refine tq_iload_n 1 (dget dX8_refused 3 rfl) rfl rfl ?_
  exact tq_iret rfl (dget dX8_refused 4 rfl) ⟨_, rfl, rfl, rfl⟩
set_option maxHeartbeats 4000000 in
set_option maxRecDepth 20000 in
theorem k_failed (σ : Mem) (x : Int32) (d : Nat) (hd : 0 ≤ d) : PMet d mX8_failed [.ref 42, .int x] σ (Pi (fun v σ2 => v = -10 - x ∧ σ2 = up σ 42 0 x)) := by
  refine PMet.start (ls0 := [(0, .ref 42), (1, .int x)]) miX8_failed.1 (Nat.le_of_ble_eq_true rfl) rfl ?_
  refine tq_aload_n 0 (dget dX8_failed 0 rfl) rfl rfl ?_
  refine tq_iload_n 1 (dget dX8_failed 1 rfl) rfl rfl ?_
  refine tq_putI (dget dX8_failed 2 rfl) fX8_73 rfl rfl rfl rfl ?_
  refine tq_bipush (v := (-10)) (dget dX8_failed 3 rfl) rfl ?_
  refine tq_iload_n 1 (dget dX8_failed 4 rfl) rfl rfl ?_
  refine tq_isub (dget dX8_failed 5 rfl) ?_
  exact tq_iret rfl (dget dX8_failed 6 rfl) ⟨_, rfl, rfl, rfl⟩
set_option maxHeartbeats 4000000 in
set_option maxRecDepth 20000 in
theorem k_failedLong (σ : Mem) (x : Int32) (d : Nat) (hd : 1 ≤ d) : PMet d mX8_failedLong [.ref 42, .int x] σ (Pl (fun v σ2 => v = (-9223372036854775808) ∧ σ2 = up σ 42 0 x)) := by
  obtain ⟨d, rfl⟩ : ∃ e, d = e + 1 := ⟨d - 1, by omega⟩
  refine PMet.start (ls0 := [(0, .ref 42), (1, .int x)]) miX8_failedLong.1 (Nat.le_of_ble_eq_true rfl) rfl ?_
  refine tq_aload_n 0 (dget dX8_failedLong 0 rfl) rfl rfl ?_
  refine tq_iload_n 1 (dget dX8_failedLong 1 rfl) rfl rfl ?_
  refine tq_putI (dget dX8_failedLong 2 rfl) fX8_73 rfl rfl rfl rfl ?_
  refine mq_Sl (As := []) (rest := []) (dget dX8_failedLong 3 rfl) lX8_77 miX8_lost (k_lost (up σ 42 0 x) d (by omega)) rfl rfl (Nat.le_of_ble_eq_true rfl) (Nat.le_of_ble_eq_true rfl) (fun r_5 σ_5 h_5 => ?_)
  obtain ⟨a_5, e_5⟩ := h_5
  obtain rfl := a_5.symm
  obtain rfl := e_5.symm
  exact tq_lret rfl (dget dX8_failedLong 4 rfl) ⟨_, rfl, rfl, rfl⟩
set_option maxHeartbeats 4000000 in
set_option maxRecDepth 20000 in
theorem k_noMaid (σ : Mem) (S M : Nat) (hV : VM σ S M) (x : Int32) (d : Nat) (hd : 1 ≤ d) : PMet d mX8_noMaid [.ref 42, .int x] σ (Pi (fun v σ2 => BP (¬ hMm σ x) v ∧ σ2 = σ)) := by
  obtain ⟨d, rfl⟩ : ∃ e, d = e + 1 := ⟨d - 1, by omega⟩
  refine PMet.start (ls0 := [(0, .ref 42), (1, .int x)]) miX8_noMaid.1 (Nat.le_of_ble_eq_true rfl) rfl ?_
  have v3 := hV.2.2.1
  have v4 := hV.2.2.2
  have hE : ((0 : Int64) ≤ x.toInt64 ∧ x.toInt64 ≤ (σ 42 2).toInt64 - 1) ↔ hMm σ x := by unfold hMm; rw [hV.2.1, w_0, w_lt1 (by omega)]
  refine tq_iload_n 1 (dget dX8_noMaid 0 rfl) rfl rfl ?_
  refine tq_i2l (dget dX8_noMaid 1 rfl) ?_
  refine tq_lconst (v := 0) (dget dX8_noMaid 2 rfl) rfl ?_
  refine tq_aload_n 0 (dget dX8_noMaid 3 rfl) rfl rfl ?_
  refine tq_getI (dget dX8_noMaid 4 rfl) fX8_88 rfl rfl ?_
  refine tq_i2l (dget dX8_noMaid 5 rfl) ?_
  refine tq_lconst (v := 1) (dget dX8_noMaid 6 rfl) rfl ?_
  refine tq_lsub (dget dX8_noMaid 7 rfl) ?_
  refine mq_Si (As := [.long (x).toInt64, .long 0, .long (((σ 42 2)).toInt64 - 1)]) (rest := []) (dget dX8_noMaid 8 rfl) lX8_84 miX8_in (k_in σ (x).toInt64 0 (((σ 42 2)).toInt64 - 1) d (by omega)) rfl rfl (Nat.le_of_ble_eq_true rfl) (Nat.le_of_ble_eq_true rfl) (fun r_10 σ_10 h_10 => ?_)
  obtain ⟨b_10, e_10⟩ := h_10
  obtain rfl := e_10.symm
  have b_10 := b_10.iff hE
  refine tq_if_ne (tgt := 20) (dget dX8_noMaid 9 rfl) (by decide) (fun c_13 => ?_) (fun c_13 => ?_)
  · refine tq_iconst (v := 0) (dget dX8_noMaid 12 rfl) rfl ?_
    exact tq_zret rfl rfl (dget dX8_noMaid 13 rfl) ⟨_, rfl, BP.n (fun q => q (b_10.t c_13)), rfl⟩
  · refine tq_iconst (v := 1) (dget dX8_noMaid 10 rfl) rfl ?_
    refine tq_goto (tgt := 21) (dget dX8_noMaid 11 rfl) (by decide) ?_
    exact tq_zret rfl rfl (dget dX8_noMaid 13 rfl) ⟨_, rfl, BP.y (b_10.f c_13), rfl⟩
set_option maxHeartbeats 4000000 in
set_option maxRecDepth 20000 in
theorem k_noSuitor (σ : Mem) (S M : Nat) (hV : VM σ S M) (x : Int32) (d : Nat) (hd : 1 ≤ d) : PMet d mX8_noSuitor [.ref 42, .int x] σ (Pi (fun v σ2 => BP (¬ hSm σ x) v ∧ σ2 = σ)) := by
  obtain ⟨d, rfl⟩ : ∃ e, d = e + 1 := ⟨d - 1, by omega⟩
  refine PMet.start (ls0 := [(0, .ref 42), (1, .int x)]) miX8_noSuitor.1 (Nat.le_of_ble_eq_true rfl) rfl ?_
  have v3 := hV.2.2.1
  have v4 := hV.2.2.2
  have hE : ((0 : Int64) ≤ x.toInt64 ∧ x.toInt64 ≤ (σ 42 1).toInt64 - 1) ↔ hSm σ x := by unfold hSm; rw [hV.1, w_0, w_lt1 (by omega)]
  refine tq_iload_n 1 (dget dX8_noSuitor 0 rfl) rfl rfl ?_
  refine tq_i2l (dget dX8_noSuitor 1 rfl) ?_
  refine tq_lconst (v := 0) (dget dX8_noSuitor 2 rfl) rfl ?_
  refine tq_aload_n 0 (dget dX8_noSuitor 3 rfl) rfl rfl ?_
  refine tq_getI (dget dX8_noSuitor 4 rfl) fX8_81 rfl rfl ?_
  refine tq_i2l (dget dX8_noSuitor 5 rfl) ?_
  refine tq_lconst (v := 1) (dget dX8_noSuitor 6 rfl) rfl ?_
  refine tq_lsub (dget dX8_noSuitor 7 rfl) ?_
  refine mq_Si (As := [.long (x).toInt64, .long 0, .long (((σ 42 1)).toInt64 - 1)]) (rest := []) (dget dX8_noSuitor 8 rfl) lX8_84 miX8_in (k_in σ (x).toInt64 0 (((σ 42 1)).toInt64 - 1) d (by omega)) rfl rfl (Nat.le_of_ble_eq_true rfl) (Nat.le_of_ble_eq_true rfl) (fun r_10 σ_10 h_10 => ?_)
  obtain ⟨b_10, e_10⟩ := h_10
  obtain rfl := e_10.symm
  have b_10 := b_10.iff hE
  refine tq_if_ne (tgt := 20) (dget dX8_noSuitor 9 rfl) (by decide) (fun c_13 => ?_) (fun c_13 => ?_)
  · refine tq_iconst (v := 0) (dget dX8_noSuitor 12 rfl) rfl ?_
    exact tq_zret rfl rfl (dget dX8_noSuitor 13 rfl) ⟨_, rfl, BP.n (fun q => q (b_10.t c_13)), rfl⟩
  · refine tq_iconst (v := 1) (dget dX8_noSuitor 10 rfl) rfl ?_
    refine tq_goto (tgt := 21) (dget dX8_noSuitor 11 rfl) (by decide) ?_
    exact tq_zret rfl rfl (dget dX8_noSuitor 13 rfl) ⟨_, rfl, BP.y (b_10.f c_13), rfl⟩
set_option maxHeartbeats 4000000 in
set_option maxRecDepth 20000 in
theorem k_noSheet (σ : Mem) (x : Int32) (d : Nat) (hd : 1 ≤ d) : PMet d mX8_noSheet [.int x] σ (Pi (fun v σ2 => BP (¬ isSh x) v ∧ σ2 = σ)) := by
  obtain ⟨d, rfl⟩ : ∃ e, d = e + 1 := ⟨d - 1, by omega⟩
  refine PMet.start (ls0 := [(0, .int x)]) miX8_noSheet.1 (Nat.le_of_ble_eq_true rfl) rfl ?_
  have hE : ((0 : Int64) ≤ x.toInt64 ∧ x.toInt64 ≤ 3) ↔ isSh x := by unfold isSh; rw [w_0]; have h3 := w_le x 3; constructor; intro q; exact ⟨q.1, by have := h3.mp q.2; exact Int32.lt_of_le_of_lt this (by decide)⟩; intro q; exact ⟨q.1, h3.mpr (by obtain ⟨j, rfl, hj⟩ := isSh_n q; exact nI_le (b := 3) (by omega) (by decide))⟩
  refine tq_iload_n 0 (dget dX8_noSheet 0 rfl) rfl rfl ?_
  refine tq_i2l (dget dX8_noSheet 1 rfl) ?_
  refine tq_lconst (v := 0) (dget dX8_noSheet 2 rfl) rfl ?_
  refine tq_ldc2 (v := 3) (dget dX8_noSheet 3 rfl) (tblG_3 218 rfl rfl) ?_
  refine mq_Si (As := [.long (x).toInt64, .long 0, .long 3]) (rest := []) (dget dX8_noSheet 4 rfl) lX8_84 miX8_in (k_in σ (x).toInt64 0 3 d (by omega)) rfl rfl (Nat.le_of_ble_eq_true rfl) (Nat.le_of_ble_eq_true rfl) (fun r_6 σ_6 h_6 => ?_)
  obtain ⟨b_6, e_6⟩ := h_6
  obtain rfl := e_6.symm
  have b_6 := b_6.iff hE
  refine tq_if_ne (tgt := 16) (dget dX8_noSheet 5 rfl) (by decide) (fun c_9 => ?_) (fun c_9 => ?_)
  · refine tq_iconst (v := 0) (dget dX8_noSheet 8 rfl) rfl ?_
    exact tq_zret rfl rfl (dget dX8_noSheet 9 rfl) ⟨_, rfl, BP.n (fun q => q (b_6.t c_9)), rfl⟩
  · refine tq_iconst (v := 1) (dget dX8_noSheet 6 rfl) rfl ?_
    refine tq_goto (tgt := 17) (dget dX8_noSheet 7 rfl) (by decide) ?_
    exact tq_zret rfl rfl (dget dX8_noSheet 9 rfl) ⟨_, rfl, BP.y (b_6.f c_9), rfl⟩
set_option maxHeartbeats 4000000 in
set_option maxRecDepth 20000 in
theorem k_mindOf (σ : Mem) (k r : Int32) (j : Nat) (hk : k = nI j) (hj : j < 3) (d : Nat) (hd : 0 ≤ d) : PMet d mX8_mindOf [.int k, .int r] σ (Pi (fun v σ2 => v = mindF k r ∧ σ2 = σ)) := by
  refine PMet.start (ls0 := [(0, .int k), (1, .int r)]) miX8_mindOf.1 (Nat.le_of_ble_eq_true rfl) rfl ?_
  refine tq_iload_n 0 (dget dX8_mindOf 0 rfl) rfl rfl ?_
  refine tq_if_ne (tgt := 8) (dget dX8_mindOf 1 rfl) (by decide) (fun c_1 => ?_) (fun c_1 => ?_)
  · refine tq_iload_n 0 (dget dX8_mindOf 4 rfl) rfl rfl ?_
    refine tq_iconst (v := 1) (dget dX8_mindOf 5 rfl) rfl ?_
    refine tq_icmp_ne (tgt := 18) (dget dX8_mindOf 6 rfl) (by decide) (fun c_10 => ?_) (fun c_10 => ?_)
    · refine tq_iconst (v := 3) (dget dX8_mindOf 9 rfl) rfl ?_
      refine tq_iload_n 1 (dget dX8_mindOf 10 rfl) rfl rfl ?_
      refine tq_iadd (dget dX8_mindOf 11 rfl) ?_
      exact tq_iret rfl (dget dX8_mindOf 12 rfl) ⟨_, rfl, by rw [← mind_m hk hj]; simp [c_1, c_10], rfl⟩
    · refine tq_bipush (v := 7) (dget dX8_mindOf 7 rfl) rfl ?_
      refine tq_goto (tgt := 21) (dget dX8_mindOf 8 rfl) (by decide) ?_
      exact tq_iret rfl (dget dX8_mindOf 12 rfl) ⟨_, rfl, by rw [← mind_m hk hj]; simp [c_1, c_10], rfl⟩
  · refine tq_iconst (v := 5) (dget dX8_mindOf 2 rfl) rfl ?_
    refine tq_goto (tgt := 21) (dget dX8_mindOf 3 rfl) (by decide) ?_
    exact tq_iret rfl (dget dX8_mindOf 12 rfl) ⟨_, rfl, by rw [← mind_m hk hj]; simp [c_1], rfl⟩
set_option maxHeartbeats 4000000 in
set_option maxRecDepth 20000 in
theorem k_begin2 (σ : Mem) (d : Nat) (hd : 0 ≤ d) : ∀ (n : Nat) (k : Nat) (hm : 6 < k + n) (hk : k ≤ 6), PAt (EM d (Pv (fun σ2 => σ2 = fillR σ 54 6 (-9)))) mX8_begin 30 [(1, .int (nI k)), (0, .ref 42)] [] (fillR σ 54 k (-9)) := by
  intro n
  induction n with
  | zero => intro k hm hk; exact absurd hm (by omega)
  | succ n ih =>
    intro k hm hk
    refine tq_iload_n 0 (dget dX8_begin 19 rfl) rfl rfl ?_
    refine tq_bipush (v := 6) (dget dX8_begin 20 rfl) rfl ?_
    refine tq_icmp_ge (tgt := 50) (dget dX8_begin 21 rfl) (by decide) (fun c_33 => ?_) (fun c_33 => ?_)
    · have g_33 := kle (a := 6) (b := k) (by omega) (by omega) c_33
      exact tq_vret rfl (dget dX8_begin 29 rfl) ⟨rfl, by rw [show k = 6 by omega]⟩
    · have g_33 := knle (b := k) (a := 6) (by omega) (by omega) c_33
      refine tq_aload_n 1 (dget dX8_begin 22 rfl) rfl rfl ?_
      refine tq_getR (dget dX8_begin 23 rfl) fX8_43 rfl rfl ?_
      refine tq_iload_n 0 (dget dX8_begin 24 rfl) rfl rfl ?_
      refine tq_bipush (v := (-9)) (dget dX8_begin 25 rfl) rfl ?_
      refine tq_iastN k (dget dX8_begin 26 rfl) rfl (by decide) rfl (by omega) ?_
      refine tq_iinc (v := (nI (k + 1))) (ls2 := [(1, .int (nI (k + 1))), (0, .ref 42)]) 0 (dget dX8_begin 27 rfl) rfl (nI_1 k) (by decide) rfl ?_
      refine tq_goto (tgt := 30) (dget dX8_begin 28 rfl) (by decide) ?_
      refine tq_sub [0, 1] (ls' := [(1, .int (nI (k + 1))), (0, .ref 42)]) rfl ?_
      refine tq_mem (fillR_succ σ 54 k (-9)) ?_
      exact ih (k + 1) (by omega) (by omega)
set_option maxHeartbeats 4000000 in
set_option maxRecDepth 20000 in
theorem k_begin1 (σ : Mem) (d : Nat) (hd : 0 ≤ d) : ∀ (n : Nat) (k : Nat) (hm : 4 < k + n) (hk : k ≤ 4), PAt (EM d (Pv (fun σ2 => σ2 = begM σ))) mX8_begin 2 [(1, .int (nI k)), (0, .ref 42)] [] (fillR (fillR σ 52 k 0) 53 k (-9)) := by
  intro n
  induction n with
  | zero => intro k hm hk; exact absurd hm (by omega)
  | succ n ih =>
    intro k hm hk
    refine tq_iload_n 0 (dget dX8_begin 2 rfl) rfl rfl ?_
    refine tq_iconst (v := 4) (dget dX8_begin 3 rfl) rfl ?_
    refine tq_icmp_ge (tgt := 28) (dget dX8_begin 4 rfl) (by decide) (fun c_4 => ?_) (fun c_4 => ?_)
    · have g_4 := kle (a := 4) (b := k) (by omega) (by omega) c_4
      refine tq_iconst (v := 0) (dget dX8_begin 17 rfl) rfl ?_
      refine tq_istore_n (ls2 := [(1, .int 0), (0, .ref 42)]) (dget dX8_begin 18 rfl) rfl (by decide) rfl ?_
      refine tq_sub [0, 1] (ls' := [(1, .int 0), (0, .ref 42)]) rfl ?_
      rw [show k = 4 by omega, show (0 : Int32) = nI 0 from rfl]
      refine tq_mem (fillR_0 _ 54 (-9)) ?_
      exact k_begin2 _ d (by omega) 7 0 (by omega) (by omega)
    · have g_4 := knle (b := k) (a := 4) (by omega) (by omega) c_4
      refine tq_aload_n 1 (dget dX8_begin 5 rfl) rfl rfl ?_
      refine tq_getR (dget dX8_begin 6 rfl) fX8_37 rfl rfl ?_
      refine tq_iload_n 0 (dget dX8_begin 7 rfl) rfl rfl ?_
      refine tq_iconst (v := 0) (dget dX8_begin 8 rfl) rfl ?_
      refine tq_iastN k (dget dX8_begin 9 rfl) rfl (by decide) rfl (by omega) ?_
      refine tq_aload_n 1 (dget dX8_begin 10 rfl) rfl rfl ?_
      refine tq_getR (dget dX8_begin 11 rfl) fX8_40 rfl rfl ?_
      refine tq_iload_n 0 (dget dX8_begin 12 rfl) rfl rfl ?_
      refine tq_bipush (v := (-9)) (dget dX8_begin 13 rfl) rfl ?_
      refine tq_iastN k (dget dX8_begin 14 rfl) rfl (by decide) rfl (by omega) ?_
      refine tq_iinc (v := (nI (k + 1))) (ls2 := [(1, .int (nI (k + 1))), (0, .ref 42)]) 0 (dget dX8_begin 15 rfl) rfl (nI_1 k) (by decide) rfl ?_
      refine tq_goto (tgt := 2) (dget dX8_begin 16 rfl) (by decide) ?_
      refine tq_sub [0, 1] (ls' := [(1, .int (nI (k + 1))), (0, .ref 42)]) rfl ?_
      refine tq_mem (beg_step σ k) ?_
      exact ih (k + 1) (by omega) (by omega)
set_option maxHeartbeats 4000000 in
set_option maxRecDepth 20000 in
theorem k_begin (σ : Mem) (d : Nat) (hd : 0 ≤ d) : PMet d mX8_begin [.ref 42] σ (Pv (fun σ2 => σ2 = begM σ)) := by
  refine PMet.start (ls0 := [(0, .ref 42)]) miX8_begin.1 (Nat.le_of_ble_eq_true rfl) rfl ?_
  refine tq_iconst (v := 0) (dget dX8_begin 0 rfl) rfl ?_
  refine tq_istore_n (ls2 := [(1, .int 0), (0, .ref 42)]) (dget dX8_begin 1 rfl) rfl (by decide) rfl ?_
  refine tq_sub [0, 1] (ls' := [(1, .int 0), (0, .ref 42)]) rfl ?_
  rw [show (0 : Int32) = nI 0 from rfl]
  refine tq_mem (show σ = fillR (fillR σ 52 0 (nI 0)) 53 0 (-9) by rw [← fillR_0, ← fillR_0]) ?_
  exact k_begin1 σ d (by omega) 5 0 (by omega) (by omega)
set_option maxHeartbeats 4000000 in
set_option maxRecDepth 20000 in
theorem k_doesWith (σ : Mem) (m s : Nat) (hm4 : m < 4) (hs6 : s < 6) (j : Nat) (hk : σ 43 m = nI j) (hj : j < 3) (d : Nat) (hd : 1 ≤ d) : PMet d mX8_doesWith [.ref 42, .int (nI m), .int (nI s)] σ (Pi (fun v σ2 => v = ansM σ m s ∧ σ2 = σ)) := by
  obtain ⟨d, rfl⟩ : ∃ e, d = e + 1 := ⟨d - 1, by omega⟩
  refine PMet.start (ls0 := [(0, .ref 42), (1, .int (nI m)), (2, .int (nI s))]) miX8_doesWith.1 (Nat.le_of_ble_eq_true rfl) rfl ?_
  refine tq_aload_n 0 (dget dX8_doesWith 0 rfl) rfl rfl ?_
  refine tq_getR (dget dX8_doesWith 1 rfl) fX8_37 rfl rfl ?_
  refine tq_iload_n 1 (dget dX8_doesWith 2 rfl) rfl rfl ?_
  refine tq_ialdN m (dget dX8_doesWith 3 rfl) rfl (by decide) rfl (by omega) ?_
  refine tq_aload_n 0 (dget dX8_doesWith 4 rfl) rfl rfl ?_
  refine tq_getI (dget dX8_doesWith 5 rfl) fX8_143 rfl rfl ?_
  refine tq_icmp_lt (tgt := 15) (dget dX8_doesWith 6 rfl) (by decide) (fun c_10 => ?_) (fun c_10 => ?_)
  · refine tq_aload_n 0 (dget dX8_doesWith 9 rfl) rfl rfl ?_
    refine tq_getR (dget dX8_doesWith 10 rfl) fX8_13 rfl rfl ?_
    refine tq_bipush (v := 6) (dget dX8_doesWith 11 rfl) rfl ?_
    refine tq_iload_n 1 (dget dX8_doesWith 12 rfl) rfl rfl ?_
    refine tq_imul (dget dX8_doesWith 13 rfl) ?_
    refine tq_eqi (y := (nI (6 * m))) (nI_mulN (6) (m)) ?_
    refine tq_iload_n 2 (dget dX8_doesWith 14 rfl) rfl rfl ?_
    refine tq_iadd (dget dX8_doesWith 15 rfl) ?_
    refine tq_eqi (y := (nI ((6 * m) + s))) (nI_add ((6 * m)) (s)) ?_
    refine tq_ialdN ((6 * m) + s) (dget dX8_doesWith 16 rfl) rfl (by decide) rfl (by omega) ?_
    refine tq_aload_n 0 (dget dX8_doesWith 17 rfl) rfl rfl ?_
    refine tq_getR (dget dX8_doesWith 18 rfl) fX8_7 rfl rfl ?_
    refine tq_iload_n 1 (dget dX8_doesWith 19 rfl) rfl rfl ?_
    refine tq_ialdN m (dget dX8_doesWith 20 rfl) rfl (by decide) rfl (by omega) ?_
    refine tq_aload_n 0 (dget dX8_doesWith 21 rfl) rfl rfl ?_
    refine tq_getR (dget dX8_doesWith 22 rfl) fX8_37 rfl rfl ?_
    refine tq_iload_n 1 (dget dX8_doesWith 23 rfl) rfl rfl ?_
    refine tq_ialdN m (dget dX8_doesWith 24 rfl) rfl (by decide) rfl (by omega) ?_
    refine mq_Si (As := [.int (σ 43 m), .int (σ 52 m)]) (rest := [.int (σ 44 ((6 * m) + s))]) (dget dX8_doesWith 25 rfl) lX8_163 miX8_mindOf (k_mindOf σ (σ 43 m) (σ 52 m) j hk hj d (by omega)) rfl rfl (Nat.le_of_ble_eq_true rfl) (Nat.le_of_ble_eq_true rfl) (fun r_38 σ_38 h_38 => ?_)
    obtain ⟨a_38, e_38⟩ := h_38
    obtain rfl := a_38.symm
    obtain rfl := e_38.symm
    refine tq_icmp_lt (tgt := 48) (dget dX8_doesWith 26 rfl) (by decide) (fun c_41 => ?_) (fun c_41 => ?_)
    · refine tq_iconst (v := 3) (dget dX8_doesWith 29 rfl) rfl ?_
      exact tq_iret rfl (dget dX8_doesWith 30 rfl) ⟨_, rfl, by simp [ansM, ansF, c_10, Int32.not_le.mpr c_10, c_41, Int32.not_le.mpr c_41], rfl⟩
    · refine tq_iconst (v := 1) (dget dX8_doesWith 27 rfl) rfl ?_
      refine tq_goto (tgt := 49) (dget dX8_doesWith 28 rfl) (by decide) ?_
      exact tq_iret rfl (dget dX8_doesWith 30 rfl) ⟨_, rfl, by simp [ansM, ansF, c_10, Int32.not_le.mpr c_10, c_41, Int32.not_lt.mp c_41], rfl⟩
  · refine tq_iconst (v := 2) (dget dX8_doesWith 7 rfl) rfl ?_
    exact tq_iret rfl (dget dX8_doesWith 8 rfl) ⟨_, rfl, by simp [ansM, ansF, c_10, Int32.not_lt.mp c_10], rfl⟩
set_option maxHeartbeats 4000000 in
set_option maxRecDepth 20000 in
theorem k_ask (σ : Mem) (m s : Nat) (hm4 : m < 4) (hs6 : s < 6) (j : Nat) (hk : σ 43 m = nI j) (hj : j < 3) (d : Nat) (hd : 2 ≤ d) : PMet d mX8_ask [.ref 42, .int (nI s), .int (nI m)] σ (Pi (fun v σ2 => v = askVm σ s m ∧ σ2 = askMm σ s m)) := by
  obtain ⟨d, rfl⟩ : ∃ e, d = e + 1 := ⟨d - 1, by omega⟩
  refine PMet.start (ls0 := [(0, .ref 42), (1, .int (nI s)), (2, .int (nI m))]) miX8_ask.1 (Nat.le_of_ble_eq_true rfl) rfl ?_
  refine tq_aload_n 0 (dget dX8_ask 0 rfl) rfl rfl ?_
  refine tq_getR (dget dX8_ask 1 rfl) fX8_40 rfl rfl ?_
  refine tq_iload_n 2 (dget dX8_ask 2 rfl) rfl rfl ?_
  refine tq_ialdN m (dget dX8_ask 3 rfl) rfl (by decide) rfl (by omega) ?_
  refine tq_if_ge (tgt := 18) (dget dX8_ask 4 rfl) (by decide) (fun c_6 => ?_) (fun c_6 => ?_)
  · refine tq_iconst (v := 0) (dget dX8_ask 10 rfl) rfl ?_
    exact tq_iret rfl (dget dX8_ask 11 rfl) (by have f9 : ¬ (σ 53 m < 0 ∧ σ 54 s < 0) := fun q => absurd q.1 (Int32.not_lt.mpr c_6); exact ⟨_, rfl, (if_neg f9).symm, (if_neg f9).symm⟩)
  · refine tq_aload_n 0 (dget dX8_ask 5 rfl) rfl rfl ?_
    refine tq_getR (dget dX8_ask 6 rfl) fX8_43 rfl rfl ?_
    refine tq_iload_n 1 (dget dX8_ask 7 rfl) rfl rfl ?_
    refine tq_ialdN s (dget dX8_ask 8 rfl) rfl (by decide) rfl (by omega) ?_
    refine tq_if_lt (tgt := 20) (dget dX8_ask 9 rfl) (by decide) (fun c_15 => ?_) (fun c_15 => ?_)
    · refine tq_aload_n 0 (dget dX8_ask 12 rfl) rfl rfl ?_
      refine tq_iload_n 2 (dget dX8_ask 13 rfl) rfl rfl ?_
      refine tq_iload_n 1 (dget dX8_ask 14 rfl) rfl rfl ?_
      refine mq_Vi (As := [.int (nI m), .int (nI s)]) (rest := []) (dget dX8_ask 15 rfl) lX8_166 miX8_doesWith (k_doesWith σ m s (by omega) (by omega) j hk hj d (by omega)) rfl rfl rfl rfl (Nat.le_of_ble_eq_true rfl) (Nat.le_of_ble_eq_true rfl) (fun r_23 σ_23 h_23 => ?_)
      obtain ⟨a_23, e_23⟩ := h_23
      obtain rfl := a_23.symm
      obtain rfl := e_23.symm
      refine tq_istore_n (ls2 := [(3, .int (ansM σ m s)), (0, .ref 42), (1, .int (nI s)), (2, .int (nI m))]) (dget dX8_ask 16 rfl) rfl (by decide) rfl ?_
      refine tq_iload_n 0 (dget dX8_ask 17 rfl) rfl rfl ?_
      refine tq_iconst (v := 3) (dget dX8_ask 18 rfl) rfl ?_
      refine tq_icmp_ne (tgt := 45) (dget dX8_ask 19 rfl) (by decide) (fun c_29 => ?_) (fun c_29 => ?_)
      · refine tq_aload_n 1 (dget dX8_ask 29 rfl) rfl rfl ?_
        refine tq_getR (dget dX8_ask 30 rfl) fX8_40 rfl rfl ?_
        refine tq_iload_n 3 (dget dX8_ask 31 rfl) rfl rfl ?_
        refine tq_iload_n 2 (dget dX8_ask 32 rfl) rfl rfl ?_
        refine tq_iastN m (dget dX8_ask 33 rfl) rfl (by decide) rfl (by omega) ?_
        refine tq_aload_n 1 (dget dX8_ask 34 rfl) rfl rfl ?_
        refine tq_getR (dget dX8_ask 35 rfl) fX8_43 rfl rfl ?_
        refine tq_iload_n 2 (dget dX8_ask 36 rfl) rfl rfl ?_
        refine tq_iload_n 3 (dget dX8_ask 37 rfl) rfl rfl ?_
        refine tq_iastN s (dget dX8_ask 38 rfl) rfl (by decide) rfl (by omega) ?_
        refine tq_iload_n 0 (dget dX8_ask 39 rfl) rfl rfl ?_
        exact tq_iret rfl (dget dX8_ask 40 rfl) (by have f9 : σ 53 m < 0 ∧ σ 54 s < 0 := ⟨Int32.not_le.mp c_6, c_15⟩; exact ⟨_, rfl, (if_pos f9).symm, ((if_pos f9).trans (if_neg c_29)).symm⟩)
      · refine tq_aload_n 1 (dget dX8_ask 20 rfl) rfl rfl ?_
        refine tq_getR (dget dX8_ask 21 rfl) fX8_37 rfl rfl ?_
        refine tq_iload_n 3 (dget dX8_ask 22 rfl) rfl rfl ?_
        refine tq_dup2 (dget dX8_ask 23 rfl) rfl rfl ?_
        refine tq_ialdN m (dget dX8_ask 24 rfl) rfl (by decide) rfl (by omega) ?_
        refine tq_iconst (v := 1) (dget dX8_ask 25 rfl) rfl ?_
        refine tq_iadd (dget dX8_ask 26 rfl) ?_
        refine tq_iastN m (dget dX8_ask 27 rfl) rfl (by decide) rfl (by omega) ?_
        refine tq_goto (tgt := 59) (dget dX8_ask 28 rfl) (by decide) ?_
        refine tq_iload_n 0 (dget dX8_ask 39 rfl) rfl rfl ?_
        exact tq_iret rfl (dget dX8_ask 40 rfl) (by have f9 : σ 53 m < 0 ∧ σ 54 s < 0 := ⟨Int32.not_le.mp c_6, c_15⟩; exact ⟨_, rfl, (if_pos f9).symm, ((if_pos f9).trans (if_pos c_29)).symm⟩)
    · refine tq_iconst (v := 0) (dget dX8_ask 10 rfl) rfl ?_
      exact tq_iret rfl (dget dX8_ask 11 rfl) (by have f9 : ¬ (σ 53 m < 0 ∧ σ 54 s < 0) := fun q => c_15 q.2; exact ⟨_, rfl, (if_neg f9).symm, (if_neg f9).symm⟩)
def OFm (σ : Mem) (C : Nat) (s m : Nat → Nat) : Prop := σ 42 13 = nI C ∧ C ≤ 24 ∧ ∀ k, k < C → σ 49 k = nI (s k) ∧ s k < 6 ∧ σ 50 k = nI (m k) ∧ m k < 4 ∧ ∃ j, j < 3 ∧ σ 43 (m k) = nI j
set_option maxHeartbeats 4000000 in
set_option maxRecDepth 20000 in
theorem k_goOffers_loop (σ : Mem) (C : Nat) (s m : Nat → Nat) (hO : OFm σ C s m) (d : Nat) (hd : 3 ≤ d) : ∀ (n : Nat) (k : Nat) (hm : C < k + n) (hk : k ≤ C), PAt (EM d (Pv (fun σ2 => σ2 = goFm σ s m C))) mX8_goOffers 6 [(1, .int (nI k)), (0, .ref 42)] [] (goFm σ s m k) := by
  obtain ⟨d, rfl⟩ : ∃ e, d = e + 1 := ⟨d - 1, by omega⟩
  intro n
  induction n with
  | zero => intro k hm hk; exact absurd hm (by omega)
  | succ n ih =>
    intro k hm hk
    have hC := hO.2.1
    refine tq_iload_n 0 (dget dX8_goOffers 4 rfl) rfl rfl ?_
    refine tq_aload_n 1 (dget dX8_goOffers 5 rfl) rfl rfl ?_
    refine tq_getI (dget dX8_goOffers 6 rfl) fX8_146 rfl rfl ?_
    refine tq_eqi (y := (nI C)) ((congrFun (goFm_row σ s m (a := 42) (by decide) (by decide) (by decide) (by decide) k) 13).trans hO.1) ?_
    refine tq_icmp_ge (tgt := 42) (dget dX8_goOffers 7 rfl) (by decide) (fun c_11 => ?_) (fun c_11 => ?_)
    · have g_11 := kle (by omega) (by omega) c_11
      have g_12 : k = C := by omega
      exact tq_vret rfl (dget dX8_goOffers 24 rfl) ⟨rfl, by rw [g_12]⟩
    · have g_11 := knle (by omega) (by omega) c_11
      obtain ⟨w1, w2, w3, w4, j, hj, hkd⟩ := hO.2.2 k g_11
      refine tq_aload_n 1 (dget dX8_goOffers 8 rfl) rfl rfl ?_
      refine tq_getR (dget dX8_goOffers 9 rfl) fX8_34 rfl rfl ?_
      refine tq_iload_n 0 (dget dX8_goOffers 10 rfl) rfl rfl ?_
      refine tq_aload_n 1 (dget dX8_goOffers 11 rfl) rfl rfl ?_
      refine tq_aload_n 1 (dget dX8_goOffers 12 rfl) rfl rfl ?_
      refine tq_getR (dget dX8_goOffers 13 rfl) fX8_28 rfl rfl ?_
      refine tq_iload_n 0 (dget dX8_goOffers 14 rfl) rfl rfl ?_
      refine tq_ialdN k (dget dX8_goOffers 15 rfl) rfl (by decide) rfl (by omega) ?_
      refine tq_eqi (y := (nI (s k))) ((congrFun (goFm_row σ s m (a := 49) (by decide) (by decide) (by decide) (by decide) k) k).trans w1) ?_
      refine tq_aload_n 1 (dget dX8_goOffers 16 rfl) rfl rfl ?_
      refine tq_getR (dget dX8_goOffers 17 rfl) fX8_31 rfl rfl ?_
      refine tq_iload_n 0 (dget dX8_goOffers 18 rfl) rfl rfl ?_
      refine tq_ialdN k (dget dX8_goOffers 19 rfl) rfl (by decide) rfl (by omega) ?_
      refine tq_eqi (y := (nI (m k))) ((congrFun (goFm_row σ s m (a := 50) (by decide) (by decide) (by decide) (by decide) k) k).trans w3) ?_
      refine mq_Vi (As := [.int (nI (s k)), .int (nI (m k))]) (rest := [.int (nI k), .ref 51]) (dget dX8_goOffers 20 rfl) lX8_172 miX8_ask (k_ask (goFm σ s m k) (m k) (s k) (by omega) (by omega) j ((congrFun (goFm_row σ s m (a := 43) (by decide) (by decide) (by decide) (by decide) k) (m k)).trans hkd) hj d (by omega)) rfl rfl rfl rfl (Nat.le_of_ble_eq_true rfl) (Nat.le_of_ble_eq_true rfl) (fun r_32 σ_32 h_32 => ?_)
      obtain ⟨a_32, e_32⟩ := h_32
      obtain rfl := a_32.symm
      obtain rfl := e_32.symm
      refine tq_iastN k (dget dX8_goOffers 21 rfl) rfl (by decide) rfl (by omega) ?_
      refine tq_iinc (v := (nI (k + 1))) (ls2 := [(1, .int (nI (k + 1))), (0, .ref 42)]) 0 (dget dX8_goOffers 22 rfl) rfl (nI_1 k) (by decide) rfl ?_
      refine tq_goto (tgt := 6) (dget dX8_goOffers 23 rfl) (by decide) ?_
      refine tq_sub [0, 1] (ls' := [(1, .int (nI (k + 1))), (0, .ref 42)]) rfl ?_
      exact ih (k + 1) (by omega) (by omega)
set_option maxHeartbeats 4000000 in
set_option maxRecDepth 20000 in
theorem k_goOffers (σ : Mem) (C : Nat) (s m : Nat → Nat) (hO : OFm σ C s m) (d : Nat) (hd : 3 ≤ d) : PMet d mX8_goOffers [.ref 42] σ (Pv (fun σ2 => σ2 = goFm σ s m C)) := by
  obtain ⟨d, rfl⟩ : ∃ e, d = e + 1 := ⟨d - 1, by omega⟩
  refine PMet.start (ls0 := [(0, .ref 42)]) miX8_goOffers.1 (Nat.le_of_ble_eq_true rfl) rfl ?_
  refine tq_aload_n 0 (dget dX8_goOffers 0 rfl) rfl rfl ?_
  refine mq_Vv (As := []) (rest := []) (dget dX8_goOffers 1 rfl) lX8_169 miX8_begin (k_begin σ d (by omega)) rfl rfl rfl rfl (Nat.le_of_ble_eq_true rfl) (Nat.le_of_ble_eq_true rfl) (fun σ_1 h_1 => ?_)
  obtain rfl := Eq.symm h_1
  refine tq_iconst (v := 0) (dget dX8_goOffers 2 rfl) rfl ?_
  refine tq_istore_n (ls2 := [(1, .int 0), (0, .ref 42)]) (dget dX8_goOffers 3 rfl) rfl (by decide) rfl ?_
  refine tq_sub [0, 1] (ls' := [(1, .int 0), (0, .ref 42)]) rfl ?_
  exact k_goOffers_loop σ C s m hO (d + 1) (by omega) (C + 1) 0 (by omega) (by omega)

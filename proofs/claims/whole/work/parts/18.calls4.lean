/-! ===== the class's public calls (4): sheets, a row asked, a text ===== -/
def shH (σ : Mem) (k : Int32) : Int32 := σ (34 + 2 * cl k) 1
def shV (σ : Mem) (k : Int32) : Int32 := σ (34 + 2 * cl k) 2
def shN (σ : Mem) (k : Int32) : Int32 := σ (34 + 2 * cl k) 3
def newF (σ : Mem) (k : Nat) (lane n : Int32) : Mem := up (up (up (fillR σ (35 + 2 * k) 100 0) (34 + 2 * k) 1 1) (34 + 2 * k) 2 lane) (34 + 2 * k) 3 n

set_option maxHeartbeats 4000000 in
set_option maxRecDepth 20000 in
theorem c_sheet (σ : Mem) (k l n : Int32) (d : Nat) (hd : 2 ≤ d) : PMet d mX7_sheet [.ref 0, .int k, .int l, .int n] σ (Pi (fun v σ2 => v = cnd (isSh k) (cnd (isLn l) (cnd (n ≤ 100) (cnd (0 ≤ n) 1 (-14)) (-2)) (-2)) (-1) ∧ σ2 = cnd (isSh k) (cnd (isLn l) (cnd (n ≤ 100) (cnd (0 ≤ n) (up (newF σ (cl k) l n) 0 7 0) (up σ 0 7 4)) (up σ 0 7 0)) (up σ 0 7 0)) (up σ 0 7 0))) := by
  obtain ⟨d, rfl⟩ : ∃ e, d = e + 1 := ⟨d - 1, by omega⟩
  refine PMet.start (ls0 := [(0, .ref 0), (1, .int k), (2, .int l), (3, .int n)]) miX7_sheet.1 (Nat.le_of_ble_eq_true rfl) rfl ?_
  refine tq_iload_n 1 (dget dX7_sheet 0 rfl) rfl rfl ?_
  refine mq_Si (As := [.int k]) (rest := []) (dget dX7_sheet 1 rfl) lX7_50 miX7_isSheet (c_isSheet σ k d (by omega)) rfl rfl (Nat.le_of_ble_eq_true rfl) (Nat.le_of_ble_eq_true rfl) (fun r_1 σ_1 h_1 => ?_)
  obtain ⟨b_1, e_1⟩ := h_1
  obtain rfl := e_1.symm
  refine tq_if_ne (tgt := 13) (dget dX7_sheet 2 rfl) (by decide) (fun c_4 => ?_) (fun c_4 => ?_)
  · refine tq_iload_n 2 (dget dX7_sheet 7 rfl) rfl rfl ?_
    refine mq_Si (As := [.int l]) (rest := []) (dget dX7_sheet 8 rfl) lX7_58 miX7_isLane (c_isLane σ l d (by omega)) rfl rfl (Nat.le_of_ble_eq_true rfl) (Nat.le_of_ble_eq_true rfl) (fun r_14 σ_14 h_14 => ?_)
    obtain ⟨b_14, e_14⟩ := h_14
    obtain rfl := e_14.symm
    refine tq_if_eq (tgt := 26) (dget dX7_sheet 9 rfl) (by decide) (fun c_17 => ?_) (fun c_17 => ?_)
    · refine tq_aload_n 0 (dget dX7_sheet 13 rfl) rfl rfl ?_
      refine tq_bipush (v := (-2)) (dget dX7_sheet 14 rfl) rfl ?_
      refine mq_Vi (As := [.int (-2)]) (rest := []) (dget dX7_sheet 15 rfl) lX7_54 miX7_faultless (c_faultless σ (-2) d (by omega)) rfl rfl rfl rfl (Nat.le_of_ble_eq_true rfl) (Nat.le_of_ble_eq_true rfl) (fun r_29 σ_29 h_29 => ?_)
      obtain ⟨a_29, e_29⟩ := h_29
      rw [a_29]
      obtain rfl := e_29.symm
      exact tq_iret rfl (dget dX7_sheet 16 rfl) ⟨_, rfl, by simp only [shH, shN, shV, cnd_t (P := isSh k) (b_1.t c_4), cnd_f (P := isLn l) (b_14.f c_17)], by simp only [shH, shN, shV, cnd_t (P := isSh k) (b_1.t c_4), cnd_f (P := isLn l) (b_14.f c_17)]⟩
    · refine tq_iload_n 3 (dget dX7_sheet 10 rfl) rfl rfl ?_
      refine tq_bipush (v := 100) (dget dX7_sheet 11 rfl) rfl ?_
      refine tq_icmp_le (tgt := 33) (dget dX7_sheet 12 rfl) (by decide) (fun c_23 => ?_) (fun c_23 => ?_)
      · refine tq_iload_n 3 (dget dX7_sheet 17 rfl) rfl rfl ?_
        refine tq_if_ge (tgt := 43) (dget dX7_sheet 18 rfl) (by decide) (fun c_34 => ?_) (fun c_34 => ?_)
        · obtain ⟨kk, e_kk, hkk⟩ := isSh_n (b_1.t c_4)
          subst e_kk
          refine tq_aload_n 0 (dget dX7_sheet 23 rfl) rfl rfl ?_
          refine tq_getR (dget dX7_sheet 24 rfl) fX7_41 rfl rfl ?_
          refine tq_iload_n 1 (dget dX7_sheet 25 rfl) rfl rfl ?_
          refine tq_sheets kk (dget dX7_sheet 26 rfl) rfl (by omega) ?_
          refine tq_iload_n 2 (dget dX7_sheet 27 rfl) rfl rfl ?_
          refine tq_iload_n 3 (dget dX7_sheet 28 rfl) rfl rfl ?_
          refine mq_Vv (As := [.int l, .int n]) (rest := []) (dget dX7_sheet 29 rfl) lX7_202 miX4_renew (c_renew σ kk hkk l n d (by omega)) (SH_sheet (by omega)) rfl rfl rfl (Nat.le_of_ble_eq_true rfl) (Nat.le_of_ble_eq_true rfl) (fun σ_51 h_51 => ?_)
          obtain rfl := Eq.symm h_51
          refine tq_aload_n 0 (dget dX7_sheet 30 rfl) rfl rfl ?_
          refine tq_iconst (v := 1) (dget dX7_sheet 31 rfl) rfl ?_
          refine mq_Vi (As := [.int 1]) (rest := []) (dget dX7_sheet 32 rfl) lX7_54 miX7_faultless (c_faultless (up (up (up (fillR σ (35 + 2 * kk) 100 0) (34 + 2 * kk) 1 1) (34 + 2 * kk) 2 l) (34 + 2 * kk) 3 n) 1 d (by omega)) rfl rfl rfl rfl (Nat.le_of_ble_eq_true rfl) (Nat.le_of_ble_eq_true rfl) (fun r_56 σ_56 h_56 => ?_)
          obtain ⟨a_56, e_56⟩ := h_56
          rw [a_56]
          obtain rfl := e_56.symm
          exact tq_iret rfl (dget dX7_sheet 33 rfl) ⟨_, rfl, by simp only [shH, shN, shV, cnd_t (P := isSh (nI kk)) (b_1.t c_4), cnd_t (P := isLn l) (b_14.t c_17), cnd_t (P := n ≤ 100) c_23, cnd_t (P := 0 ≤ n) c_34, nI_clamp (show kk < 2 ^ 31 by omega)], by simp only [shH, shN, shV, cnd_t (P := isSh (nI kk)) (b_1.t c_4), cnd_t (P := isLn l) (b_14.t c_17), cnd_t (P := n ≤ 100) c_23, cnd_t (P := 0 ≤ n) c_34, nI_clamp (show kk < 2 ^ 31 by omega)]; rfl⟩
        · refine tq_aload_n 0 (dget dX7_sheet 19 rfl) rfl rfl ?_
          refine tq_iconst (v := 4) (dget dX7_sheet 20 rfl) rfl ?_
          refine mq_Vi (As := [.int 4]) (rest := []) (dget dX7_sheet 21 rfl) lX7_65 miX7_faulted (c_faulted σ 4 d (by omega)) rfl rfl rfl rfl (Nat.le_of_ble_eq_true rfl) (Nat.le_of_ble_eq_true rfl) (fun r_39 σ_39 h_39 => ?_)
          obtain ⟨a_39, e_39⟩ := h_39
          rw [a_39]
          obtain rfl := e_39.symm
          exact tq_iret rfl (dget dX7_sheet 22 rfl) ⟨_, rfl, by simp only [shH, shN, shV, cnd_t (P := isSh k) (b_1.t c_4), cnd_t (P := isLn l) (b_14.t c_17), cnd_t (P := n ≤ 100) c_23, cnd_f (P := 0 ≤ n) c_34]; try rfl, by simp only [shH, shN, shV, cnd_t (P := isSh k) (b_1.t c_4), cnd_t (P := isLn l) (b_14.t c_17), cnd_t (P := n ≤ 100) c_23, cnd_f (P := 0 ≤ n) c_34]⟩
      · refine tq_aload_n 0 (dget dX7_sheet 13 rfl) rfl rfl ?_
        refine tq_bipush (v := (-2)) (dget dX7_sheet 14 rfl) rfl ?_
        refine mq_Vi (As := [.int (-2)]) (rest := []) (dget dX7_sheet 15 rfl) lX7_54 miX7_faultless (c_faultless σ (-2) d (by omega)) rfl rfl rfl rfl (Nat.le_of_ble_eq_true rfl) (Nat.le_of_ble_eq_true rfl) (fun r_29 σ_29 h_29 => ?_)
        obtain ⟨a_29, e_29⟩ := h_29
        rw [a_29]
        obtain rfl := e_29.symm
        exact tq_iret rfl (dget dX7_sheet 16 rfl) ⟨_, rfl, by simp only [shH, shN, shV, cnd_t (P := isSh k) (b_1.t c_4), cnd_t (P := isLn l) (b_14.t c_17), cnd_f (P := n ≤ 100) c_23], by simp only [shH, shN, shV, cnd_t (P := isSh k) (b_1.t c_4), cnd_t (P := isLn l) (b_14.t c_17), cnd_f (P := n ≤ 100) c_23]⟩
  · refine tq_aload_n 0 (dget dX7_sheet 3 rfl) rfl rfl ?_
    refine tq_iconst (v := (-1)) (dget dX7_sheet 4 rfl) rfl ?_
    refine mq_Vi (As := [.int (-1)]) (rest := []) (dget dX7_sheet 5 rfl) lX7_54 miX7_faultless (c_faultless σ (-1) d (by omega)) rfl rfl rfl rfl (Nat.le_of_ble_eq_true rfl) (Nat.le_of_ble_eq_true rfl) (fun r_9 σ_9 h_9 => ?_)
    obtain ⟨a_9, e_9⟩ := h_9
    rw [a_9]
    obtain rfl := e_9.symm
    exact tq_iret rfl (dget dX7_sheet 6 rfl) ⟨_, rfl, by simp only [shH, shN, shV, cnd_f (P := isSh k) (b_1.f c_4)], by simp only [shH, shN, shV, cnd_f (P := isSh k) (b_1.f c_4)]⟩
set_option maxHeartbeats 4000000 in
set_option maxRecDepth 20000 in
theorem c_lose (σ : Mem) (k : Int32) (d : Nat) (hd : 1 ≤ d) : PMet d mX7_lose [.ref 0, .int k] σ (Pi (fun v σ2 => v = cnd (isSh k) (cnd (shH σ k = 0) 0 1) (-1) ∧ σ2 = cnd (isSh k) (up σ (34 + 2 * cl k) 1 0) σ)) := by
  obtain ⟨d, rfl⟩ : ∃ e, d = e + 1 := ⟨d - 1, by omega⟩
  refine PMet.start (ls0 := [(0, .ref 0), (1, .int k)]) miX7_lose.1 (Nat.le_of_ble_eq_true rfl) rfl ?_
  refine tq_iload_n 1 (dget dX7_lose 0 rfl) rfl rfl ?_
  refine mq_Si (As := [.int k]) (rest := []) (dget dX7_lose 1 rfl) lX7_50 miX7_isSheet (c_isSheet σ k d (by omega)) rfl rfl (Nat.le_of_ble_eq_true rfl) (Nat.le_of_ble_eq_true rfl) (fun r_1 σ_1 h_1 => ?_)
  obtain ⟨b_1, e_1⟩ := h_1
  obtain rfl := e_1.symm
  refine tq_if_ne (tgt := 9) (dget dX7_lose 2 rfl) (by decide) (fun c_4 => ?_) (fun c_4 => ?_)
  · obtain ⟨kk, e_kk, hkk⟩ := isSh_n (b_1.t c_4)
    subst e_kk
    refine tq_aload_n 0 (dget dX7_lose 5 rfl) rfl rfl ?_
    refine tq_getR (dget dX7_lose 6 rfl) fX7_41 rfl rfl ?_
    refine tq_iload_n 1 (dget dX7_lose 7 rfl) rfl rfl ?_
    refine tq_sheets kk (dget dX7_lose 8 rfl) rfl (by omega) ?_
    refine tq_getI (dget dX7_lose 9 rfl) fX7_206 (SH_sheet (by omega)) rfl ?_
    refine tq_if_eq (tgt := 25) (dget dX7_lose 10 rfl) (by decide) (fun c_18 => ?_) (fun c_18 => ?_)
    · refine tq_iconst (v := 0) (dget dX7_lose 13 rfl) rfl ?_
      refine tq_istore_n (ls2 := [(2, .int 0), (0, .ref 0), (1, .int (nI kk))]) (dget dX7_lose 14 rfl) rfl (by decide) rfl ?_
      refine tq_aload_n 1 (dget dX7_lose 15 rfl) rfl rfl ?_
      refine tq_getR (dget dX7_lose 16 rfl) fX7_41 rfl rfl ?_
      refine tq_iload_n 2 (dget dX7_lose 17 rfl) rfl rfl ?_
      refine tq_sheets kk (dget dX7_lose 18 rfl) rfl (by omega) ?_
      refine tq_iconst (v := 0) (dget dX7_lose 19 rfl) rfl ?_
      refine tq_putI (dget dX7_lose 20 rfl) fX7_206 (SH_sheet (by omega)) rfl rfl rfl ?_
      refine tq_iload_n 0 (dget dX7_lose 21 rfl) rfl rfl ?_
      exact tq_iret rfl (dget dX7_lose 22 rfl) ⟨_, rfl, by simp only [shH, nI_clamp (show kk < 2 ^ 31 by omega), cnd_t (P := isSh (nI kk)) (b_1.t c_4), cnd_t c_18, nI_clamp (show kk < 2 ^ 31 by omega)], by simp only [shH, shN, shV, cnd_t (P := isSh (nI kk)) (b_1.t c_4), cnd_t c_18, nI_clamp (show kk < 2 ^ 31 by omega)]⟩
    · refine tq_iconst (v := 1) (dget dX7_lose 11 rfl) rfl ?_
      refine tq_goto (tgt := 26) (dget dX7_lose 12 rfl) (by decide) ?_
      refine tq_istore_n (ls2 := [(2, .int 1), (0, .ref 0), (1, .int (nI kk))]) (dget dX7_lose 14 rfl) rfl (by decide) rfl ?_
      refine tq_aload_n 1 (dget dX7_lose 15 rfl) rfl rfl ?_
      refine tq_getR (dget dX7_lose 16 rfl) fX7_41 rfl rfl ?_
      refine tq_iload_n 2 (dget dX7_lose 17 rfl) rfl rfl ?_
      refine tq_sheets kk (dget dX7_lose 18 rfl) rfl (by omega) ?_
      refine tq_iconst (v := 0) (dget dX7_lose 19 rfl) rfl ?_
      refine tq_putI (dget dX7_lose 20 rfl) fX7_206 (SH_sheet (by omega)) rfl rfl rfl ?_
      refine tq_iload_n 0 (dget dX7_lose 21 rfl) rfl rfl ?_
      exact tq_iret rfl (dget dX7_lose 22 rfl) ⟨_, rfl, by simp only [shH, nI_clamp (show kk < 2 ^ 31 by omega), cnd_t (P := isSh (nI kk)) (b_1.t c_4), cnd_f c_18, nI_clamp (show kk < 2 ^ 31 by omega)], by simp only [shH, shN, shV, cnd_t (P := isSh (nI kk)) (b_1.t c_4), cnd_f c_18, nI_clamp (show kk < 2 ^ 31 by omega)]⟩
  · refine tq_iconst (v := (-1)) (dget dX7_lose 3 rfl) rfl ?_
    exact tq_iret rfl (dget dX7_lose 4 rfl) ⟨_, rfl, by simp only [shH, cnd_f (P := isSh k) (b_1.f c_4)], by simp only [shH, shN, shV, cnd_f (P := isSh k) (b_1.f c_4)]⟩
set_option maxHeartbeats 4000000 in
set_option maxRecDepth 20000 in
theorem c_put (σ : Mem) (hSh : SHT σ) (k i v : Int32) (d : Nat) (hd : 1 ≤ d) : PMet d mX7_put [.ref 0, .int k, .int i, .int v] σ (Pi (fun r σ2 => r = cnd (isSh k) (cnd (shH σ k = 0) (-11) (cnd (0 ≤ i ∧ i < shN σ k) 1 (-13))) (-1) ∧ σ2 = cnd (isSh k) (cnd (shH σ k = 0) (up σ 0 7 1) (cnd (0 ≤ i ∧ i < shN σ k) (up (up σ (35 + 2 * cl k) (cl i) (cutF (shV σ k) v)) 0 7 0) (up σ 0 7 3))) (up σ 0 7 0))) := by
  obtain ⟨d, rfl⟩ : ∃ e, d = e + 1 := ⟨d - 1, by omega⟩
  refine PMet.start (ls0 := [(0, .ref 0), (1, .int k), (2, .int i), (3, .int v)]) miX7_put.1 (Nat.le_of_ble_eq_true rfl) rfl ?_
  refine tq_iload_n 1 (dget dX7_put 0 rfl) rfl rfl ?_
  refine mq_Si (As := [.int k]) (rest := []) (dget dX7_put 1 rfl) lX7_50 miX7_isSheet (c_isSheet σ k d (by omega)) rfl rfl (Nat.le_of_ble_eq_true rfl) (Nat.le_of_ble_eq_true rfl) (fun r_1 σ_1 h_1 => ?_)
  obtain ⟨b_1, e_1⟩ := h_1
  obtain rfl := e_1.symm
  refine tq_if_ne (tgt := 13) (dget dX7_put 2 rfl) (by decide) (fun c_4 => ?_) (fun c_4 => ?_)
  · obtain ⟨kk, e_kk, hkk⟩ := isSh_n (b_1.t c_4)
    subst e_kk
    refine tq_aload_n 0 (dget dX7_put 7 rfl) rfl rfl ?_
    refine tq_getR (dget dX7_put 8 rfl) fX7_41 rfl rfl ?_
    refine tq_iload_n 1 (dget dX7_put 9 rfl) rfl rfl ?_
    refine tq_sheets kk (dget dX7_put 10 rfl) rfl (by omega) ?_
    refine tq_getI (dget dX7_put 11 rfl) fX7_206 (SH_sheet (by omega)) rfl ?_
    refine tq_if_ne (tgt := 31) (dget dX7_put 12 rfl) (by decide) (fun c_22 => ?_) (fun c_22 => ?_)
    · refine tq_aload_n 0 (dget dX7_put 17 rfl) rfl rfl ?_
      refine tq_getR (dget dX7_put 18 rfl) fX7_41 rfl rfl ?_
      refine tq_iload_n 1 (dget dX7_put 19 rfl) rfl rfl ?_
      refine tq_sheets kk (dget dX7_put 20 rfl) rfl (by omega) ?_
      refine tq_iload_n 2 (dget dX7_put 21 rfl) rfl rfl ?_
      refine mq_Vi (As := [.int i]) (rest := []) (dget dX7_put 22 rfl) lX7_210 miX4_hasCell (c_hasCell σ kk (by omega) i d (by omega)) (SH_sheet (by omega)) rfl rfl rfl (Nat.le_of_ble_eq_true rfl) (Nat.le_of_ble_eq_true rfl) (fun r_38 σ_38 h_38 => ?_)
      obtain ⟨b_38, e_38⟩ := h_38
      obtain rfl := e_38.symm
      refine tq_if_ne (tgt := 50) (dget dX7_put 23 rfl) (by decide) (fun c_41 => ?_) (fun c_41 => ?_)
      · obtain ⟨l0, hl, el⟩ := hSh kk hkk
        obtain ⟨a, e_a, ha⟩ := kC_n (C := l0) (by omega) (b_38.t c_41).1 (by rw [← el]; exact (b_38.t c_41).2)
        subst e_a
        refine tq_aload_n 0 (dget dX7_put 28 rfl) rfl rfl ?_
        refine tq_getR (dget dX7_put 29 rfl) fX7_41 rfl rfl ?_
        refine tq_iload_n 1 (dget dX7_put 30 rfl) rfl rfl ?_
        refine tq_sheets kk (dget dX7_put 31 rfl) rfl (by omega) ?_
        refine tq_iload_n 2 (dget dX7_put 32 rfl) rfl rfl ?_
        refine tq_iload_n 3 (dget dX7_put 33 rfl) rfl rfl ?_
        refine mq_Vv (As := [.int (nI a), .int v]) (rest := []) (dget dX7_put 34 rfl) lX7_213 miX4_write (c_write σ kk hkk a (by omega) v d (by omega)) (SH_sheet (by omega)) rfl rfl rfl (Nat.le_of_ble_eq_true rfl) (Nat.le_of_ble_eq_true rfl) (fun σ_58 h_58 => ?_)
        obtain rfl := Eq.symm h_58
        refine tq_aload_n 0 (dget dX7_put 35 rfl) rfl rfl ?_
        refine tq_iconst (v := 1) (dget dX7_put 36 rfl) rfl ?_
        refine mq_Vi (As := [.int 1]) (rest := []) (dget dX7_put 37 rfl) lX7_54 miX7_faultless (c_faultless (up σ (35 + 2 * kk) a (cutF (σ (34 + 2 * kk) 2) v)) 1 d (by omega)) rfl rfl rfl rfl (Nat.le_of_ble_eq_true rfl) (Nat.le_of_ble_eq_true rfl) (fun r_63 σ_63 h_63 => ?_)
        obtain ⟨a_63, e_63⟩ := h_63
        rw [a_63]
        obtain rfl := e_63.symm
        exact tq_iret rfl (dget dX7_put 38 rfl) ⟨_, rfl, by simp only [shH, shN, shV, nI_clamp (show kk < 2 ^ 31 by omega), cnd_t (P := isSh (nI kk)) (b_1.t c_4), cnd_f (P := σ (34 + 2 * kk) 1 = 0) c_22, nI_clamp (show a < 2 ^ 31 by omega), cnd_t (P := 0 ≤ nI a ∧ nI a < σ (34 + 2 * kk) 3) (b_38.t c_41)], by simp only [shH, shN, shV, nI_clamp (show kk < 2 ^ 31 by omega), cnd_t (P := isSh (nI kk)) (b_1.t c_4), cnd_f (P := σ (34 + 2 * kk) 1 = 0) c_22, nI_clamp (show a < 2 ^ 31 by omega), cnd_t (P := 0 ≤ nI a ∧ nI a < σ (34 + 2 * kk) 3) (b_38.t c_41)]⟩
      · refine tq_aload_n 0 (dget dX7_put 24 rfl) rfl rfl ?_
        refine tq_iconst (v := 3) (dget dX7_put 25 rfl) rfl ?_
        refine mq_Vi (As := [.int 3]) (rest := []) (dget dX7_put 26 rfl) lX7_65 miX7_faulted (c_faulted σ 3 d (by omega)) rfl rfl rfl rfl (Nat.le_of_ble_eq_true rfl) (Nat.le_of_ble_eq_true rfl) (fun r_46 σ_46 h_46 => ?_)
        obtain ⟨a_46, e_46⟩ := h_46
        rw [a_46]
        obtain rfl := e_46.symm
        exact tq_iret rfl (dget dX7_put 27 rfl) ⟨_, rfl, by simp only [shH, shN, shV, nI_clamp (show kk < 2 ^ 31 by omega), cnd_t (P := isSh (nI kk)) (b_1.t c_4), cnd_f (P := σ (34 + 2 * kk) 1 = 0) c_22, cnd_f (P := 0 ≤ i ∧ i < σ (34 + 2 * kk) 3) (b_38.f c_41)]; try rfl, by simp only [shH, shN, shV, nI_clamp (show kk < 2 ^ 31 by omega), cnd_t (P := isSh (nI kk)) (b_1.t c_4), cnd_f (P := σ (34 + 2 * kk) 1 = 0) c_22, cnd_f (P := 0 ≤ i ∧ i < σ (34 + 2 * kk) 3) (b_38.f c_41)]⟩
    · refine tq_aload_n 0 (dget dX7_put 13 rfl) rfl rfl ?_
      refine tq_iconst (v := 1) (dget dX7_put 14 rfl) rfl ?_
      refine mq_Vi (As := [.int 1]) (rest := []) (dget dX7_put 15 rfl) lX7_65 miX7_faulted (c_faulted σ 1 d (by omega)) rfl rfl rfl rfl (Nat.le_of_ble_eq_true rfl) (Nat.le_of_ble_eq_true rfl) (fun r_27 σ_27 h_27 => ?_)
      obtain ⟨a_27, e_27⟩ := h_27
      rw [a_27]
      obtain rfl := e_27.symm
      exact tq_iret rfl (dget dX7_put 16 rfl) ⟨_, rfl, by simp only [shH, shN, shV, nI_clamp (show kk < 2 ^ 31 by omega), cnd_t (P := isSh (nI kk)) (b_1.t c_4), cnd_t (P := σ (34 + 2 * kk) 1 = 0) c_22]; try rfl, by simp only [shH, shN, shV, nI_clamp (show kk < 2 ^ 31 by omega), cnd_t (P := isSh (nI kk)) (b_1.t c_4), cnd_t (P := σ (34 + 2 * kk) 1 = 0) c_22]⟩
  · refine tq_aload_n 0 (dget dX7_put 3 rfl) rfl rfl ?_
    refine tq_iconst (v := (-1)) (dget dX7_put 4 rfl) rfl ?_
    refine mq_Vi (As := [.int (-1)]) (rest := []) (dget dX7_put 5 rfl) lX7_54 miX7_faultless (c_faultless σ (-1) d (by omega)) rfl rfl rfl rfl (Nat.le_of_ble_eq_true rfl) (Nat.le_of_ble_eq_true rfl) (fun r_9 σ_9 h_9 => ?_)
    obtain ⟨a_9, e_9⟩ := h_9
    rw [a_9]
    obtain rfl := e_9.symm
    exact tq_iret rfl (dget dX7_put 6 rfl) ⟨_, rfl, by simp only [shH, shN, shV, cnd_f (P := isSh k) (b_1.f c_4)], by simp only [shH, shN, shV, cnd_f (P := isSh k) (b_1.f c_4)]⟩
set_option maxHeartbeats 4000000 in
set_option maxRecDepth 20000 in
theorem c_cell (σ : Mem) (hSh : SHT σ) (k i l : Int32) (d : Nat) (hd : 1 ≤ d) : PMet d mX7_cell [.ref 0, .int k, .int i, .int l] σ (Pl (fun r σ2 => r = cnd (isSh k) (cnd (isLn l) (cnd (frF (shH σ k) (shV σ k) l = 0) (cnd (0 ≤ i ∧ i < shN σ k) (σ (35 + 2 * cl k) (cl i)).toInt64 (-9223372036854775808)) (-9223372036854775808)) (-9223372036854775808)) (-9223372036854775808) ∧ σ2 = cnd (isSh k) (cnd (isLn l) (cnd (frF (shH σ k) (shV σ k) l = 0) (cnd (0 ≤ i ∧ i < shN σ k) (up σ 0 7 0) (up σ 0 7 3)) (up σ 0 7 (frF (shH σ k) (shV σ k) l))) (up σ 0 7 0)) (up σ 0 7 0))) := by
  obtain ⟨d, rfl⟩ : ∃ e, d = e + 1 := ⟨d - 1, by omega⟩
  refine PMet.start (ls0 := [(0, .ref 0), (1, .int k), (2, .int i), (3, .int l)]) miX7_cell.1 (Nat.le_of_ble_eq_true rfl) rfl ?_
  refine tq_iload_n 1 (dget dX7_cell 0 rfl) rfl rfl ?_
  refine mq_Si (As := [.int k]) (rest := []) (dget dX7_cell 1 rfl) lX7_50 miX7_isSheet (c_isSheet σ k d (by omega)) rfl rfl (Nat.le_of_ble_eq_true rfl) (Nat.le_of_ble_eq_true rfl) (fun r_1 σ_1 h_1 => ?_)
  obtain ⟨b_1, e_1⟩ := h_1
  obtain rfl := e_1.symm
  refine tq_if_eq (tgt := 14) (dget dX7_cell 2 rfl) (by decide) (fun c_4 => ?_) (fun c_4 => ?_)
  · refine tq_aload_n 0 (dget dX7_cell 6 rfl) rfl rfl ?_
    refine tq_iconst (v := 0) (dget dX7_cell 7 rfl) rfl ?_
    refine mq_Vl (As := [.int 0]) (rest := []) (dget dX7_cell 8 rfl) lX7_216 miX7_lost (c_lost σ 0 d (by omega)) rfl rfl rfl rfl (Nat.le_of_ble_eq_true rfl) (Nat.le_of_ble_eq_true rfl) (fun r_16 σ_16 h_16 => ?_)
    obtain ⟨a_16, e_16⟩ := h_16
    rw [a_16]
    obtain rfl := e_16.symm
    exact tq_lret rfl (dget dX7_cell 9 rfl) ⟨_, rfl, by simp only [shH, shN, shV, cnd_f (P := isSh k) (b_1.f c_4)], by simp only [shH, shN, shV, cnd_f (P := isSh k) (b_1.f c_4)]⟩
  · refine tq_iload_n 3 (dget dX7_cell 3 rfl) rfl rfl ?_
    refine mq_Si (As := [.int l]) (rest := []) (dget dX7_cell 4 rfl) lX7_58 miX7_isLane (c_isLane σ l d (by omega)) rfl rfl (Nat.le_of_ble_eq_true rfl) (Nat.le_of_ble_eq_true rfl) (fun r_8 σ_8 h_8 => ?_)
    obtain ⟨b_8, e_8⟩ := h_8
    obtain rfl := e_8.symm
    refine tq_if_ne (tgt := 20) (dget dX7_cell 5 rfl) (by decide) (fun c_11 => ?_) (fun c_11 => ?_)
    · obtain ⟨kk, e_kk, hkk⟩ := isSh_n (b_1.t c_4)
      subst e_kk
      refine tq_aload_n 0 (dget dX7_cell 10 rfl) rfl rfl ?_
      refine tq_getR (dget dX7_cell 11 rfl) fX7_41 rfl rfl ?_
      refine tq_iload_n 1 (dget dX7_cell 12 rfl) rfl rfl ?_
      refine tq_sheets kk (dget dX7_cell 13 rfl) rfl (by omega) ?_
      refine tq_iload_n 3 (dget dX7_cell 14 rfl) rfl rfl ?_
      refine mq_Vi (As := [.int l]) (rest := []) (dget dX7_cell 15 rfl) lX7_220 miX4_faultOfRow (c_faultOfRow σ kk (by omega) l d (by omega)) (SH_sheet (by omega)) rfl rfl rfl (Nat.le_of_ble_eq_true rfl) (Nat.le_of_ble_eq_true rfl) (fun r_27 σ_27 h_27 => ?_)
      obtain ⟨a_27, e_27⟩ := h_27
      obtain rfl := a_27.symm
      obtain rfl := e_27.symm
      refine tq_istore (ls2 := [(4, .int (frF (σ (34 + 2 * kk) 1) (σ (34 + 2 * kk) 2) l)), (0, .ref 0), (1, .int (nI kk)), (2, .int i), (3, .int l)]) (dget dX7_cell 16 rfl) (by decide) rfl ?_
      refine tq_iload 0 (dget dX7_cell 17 rfl) rfl ?_
      refine tq_if_eq (tgt := 44) (dget dX7_cell 18 rfl) (by decide) (fun c_34 => ?_) (fun c_34 => ?_)
      · refine tq_aload_n 1 (dget dX7_cell 23 rfl) rfl rfl ?_
        refine tq_getR (dget dX7_cell 24 rfl) fX7_41 rfl rfl ?_
        refine tq_iload_n 2 (dget dX7_cell 25 rfl) rfl rfl ?_
        refine tq_sheets kk (dget dX7_cell 26 rfl) rfl (by omega) ?_
        refine tq_iload_n 3 (dget dX7_cell 27 rfl) rfl rfl ?_
        refine mq_Vi (As := [.int i]) (rest := []) (dget dX7_cell 28 rfl) lX7_210 miX4_hasCell (c_hasCell σ kk (by omega) i d (by omega)) (SH_sheet (by omega)) rfl rfl rfl (Nat.le_of_ble_eq_true rfl) (Nat.le_of_ble_eq_true rfl) (fun r_51 σ_51 h_51 => ?_)
        obtain ⟨b_51, e_51⟩ := h_51
        obtain rfl := e_51.symm
        refine tq_if_ne (tgt := 63) (dget dX7_cell 29 rfl) (by decide) (fun c_54 => ?_) (fun c_54 => ?_)
        · obtain ⟨l0, hl, el⟩ := hSh kk hkk
          obtain ⟨a, e_a, ha⟩ := kC_n (C := l0) (by omega) (b_51.t c_54).1 (by rw [← el]; exact (b_51.t c_54).2)
          subst e_a
          refine tq_aload_n 1 (dget dX7_cell 34 rfl) rfl rfl ?_
          refine tq_iconst (v := 0) (dget dX7_cell 35 rfl) rfl ?_
          refine tq_putI (dget dX7_cell 36 rfl) fX7_223 rfl rfl rfl rfl ?_
          refine tq_aload_n 1 (dget dX7_cell 37 rfl) rfl rfl ?_
          refine tq_getR (dget dX7_cell 38 rfl) fX7_41 rfl rfl ?_
          refine tq_iload_n 2 (dget dX7_cell 39 rfl) rfl rfl ?_
          refine tq_sheets kk (dget dX7_cell 40 rfl) rfl (by omega) ?_
          refine tq_getR (dget dX7_cell 41 rfl) fX7_226 (SH_sheet (by omega)) rfl ?_
          refine tq_iload_n 3 (dget dX7_cell 42 rfl) rfl rfl ?_
          refine tq_ialdN a (dget dX7_cell 43 rfl) (SH_cells (by omega)) (by decide) rfl (by omega) ?_
          refine tq_i2l (dget dX7_cell 44 rfl) ?_
          exact tq_lret rfl (dget dX7_cell 45 rfl) ⟨_, rfl, by simp only [shH, shN, shV, nI_clamp (show kk < 2 ^ 31 by omega), cnd_t (P := isSh (nI kk)) (b_1.t c_4), cnd_t (P := isLn l) (b_8.t c_11), cnd_t (P := frF (σ (34 + 2 * kk) 1) (σ (34 + 2 * kk) 2) l = 0) c_34, nI_clamp (show a < 2 ^ 31 by omega), cnd_t (P := 0 ≤ nI a ∧ nI a < σ (34 + 2 * kk) 3) (b_51.t c_54)]; exact congrArg Int32.toInt64 (congrFun (up_row (by omega)) a), by simp only [shH, shN, shV, nI_clamp (show kk < 2 ^ 31 by omega), cnd_t (P := isSh (nI kk)) (b_1.t c_4), cnd_t (P := isLn l) (b_8.t c_11), cnd_t (P := frF (σ (34 + 2 * kk) 1) (σ (34 + 2 * kk) 2) l = 0) c_34, nI_clamp (show a < 2 ^ 31 by omega), cnd_t (P := 0 ≤ nI a ∧ nI a < σ (34 + 2 * kk) 3) (b_51.t c_54)]⟩
        · refine tq_aload_n 1 (dget dX7_cell 30 rfl) rfl rfl ?_
          refine tq_iconst (v := 3) (dget dX7_cell 31 rfl) rfl ?_
          refine mq_Vl (As := [.int 3]) (rest := []) (dget dX7_cell 32 rfl) lX7_216 miX7_lost (c_lost σ 3 d (by omega)) rfl rfl rfl rfl (Nat.le_of_ble_eq_true rfl) (Nat.le_of_ble_eq_true rfl) (fun r_59 σ_59 h_59 => ?_)
          obtain ⟨a_59, e_59⟩ := h_59
          rw [a_59]
          obtain rfl := e_59.symm
          exact tq_lret rfl (dget dX7_cell 33 rfl) ⟨_, rfl, by simp only [shH, shN, shV, nI_clamp (show kk < 2 ^ 31 by omega), cnd_t (P := isSh (nI kk)) (b_1.t c_4), cnd_t (P := isLn l) (b_8.t c_11), cnd_t (P := frF (σ (34 + 2 * kk) 1) (σ (34 + 2 * kk) 2) l = 0) c_34, cnd_f (P := 0 ≤ i ∧ i < σ (34 + 2 * kk) 3) (b_51.f c_54)], by simp only [shH, shN, shV, nI_clamp (show kk < 2 ^ 31 by omega), cnd_t (P := isSh (nI kk)) (b_1.t c_4), cnd_t (P := isLn l) (b_8.t c_11), cnd_t (P := frF (σ (34 + 2 * kk) 1) (σ (34 + 2 * kk) 2) l = 0) c_34, cnd_f (P := 0 ≤ i ∧ i < σ (34 + 2 * kk) 3) (b_51.f c_54)]⟩
      · refine tq_aload_n 1 (dget dX7_cell 19 rfl) rfl rfl ?_
        refine tq_iload 0 (dget dX7_cell 20 rfl) rfl ?_
        refine mq_Vl (As := [.int (frF (σ (34 + 2 * kk) 1) (σ (34 + 2 * kk) 2) l)]) (rest := []) (dget dX7_cell 21 rfl) lX7_216 miX7_lost (c_lost σ (frF (σ (34 + 2 * kk) 1) (σ (34 + 2 * kk) 2) l) d (by omega)) rfl rfl rfl rfl (Nat.le_of_ble_eq_true rfl) (Nat.le_of_ble_eq_true rfl) (fun r_40 σ_40 h_40 => ?_)
        obtain ⟨a_40, e_40⟩ := h_40
        rw [a_40]
        obtain rfl := e_40.symm
        exact tq_lret rfl (dget dX7_cell 22 rfl) ⟨_, rfl, by simp only [shH, shN, shV, nI_clamp (show kk < 2 ^ 31 by omega), cnd_t (P := isSh (nI kk)) (b_1.t c_4), cnd_t (P := isLn l) (b_8.t c_11), cnd_f (P := frF (σ (34 + 2 * kk) 1) (σ (34 + 2 * kk) 2) l = 0) c_34], by simp only [shH, shN, shV, nI_clamp (show kk < 2 ^ 31 by omega), cnd_t (P := isSh (nI kk)) (b_1.t c_4), cnd_t (P := isLn l) (b_8.t c_11), cnd_f (P := frF (σ (34 + 2 * kk) 1) (σ (34 + 2 * kk) 2) l = 0) c_34]⟩
    · refine tq_aload_n 0 (dget dX7_cell 6 rfl) rfl rfl ?_
      refine tq_iconst (v := 0) (dget dX7_cell 7 rfl) rfl ?_
      refine mq_Vl (As := [.int 0]) (rest := []) (dget dX7_cell 8 rfl) lX7_216 miX7_lost (c_lost σ 0 d (by omega)) rfl rfl rfl rfl (Nat.le_of_ble_eq_true rfl) (Nat.le_of_ble_eq_true rfl) (fun r_16 σ_16 h_16 => ?_)
      obtain ⟨a_16, e_16⟩ := h_16
      rw [a_16]
      obtain rfl := e_16.symm
      exact tq_lret rfl (dget dX7_cell 9 rfl) ⟨_, rfl, by simp only [shH, shN, shV, cnd_t (P := isSh k) (b_1.t c_4), cnd_f (P := isLn l) (b_8.f c_11)], by simp only [shH, shN, shV, cnd_t (P := isSh k) (b_1.t c_4), cnd_f (P := isLn l) (b_8.f c_11)]⟩
theorem cells_n {x n len : Int32} {l : Nat} (h : 0 ≤ x ∧ x ≤ len ∧ 0 ≤ n ∧ n ≤ len - x) (e : len = nI l) (hl : l ≤ 100) : ∃ a N, x = nI a ∧ n = nI N ∧ a + N ≤ l := by
  subst e
  obtain ⟨a, rfl, ha⟩ := kC_n2 (C := l) (by omega) h.1 h.2.1
  have h2 := h.2.2.2
  rw [nI_subN ha] at h2
  obtain ⟨N, rfl, hN⟩ := kC_n2 (C := l - a) (by omega) h.2.2.1 h2
  exact ⟨a, N, rfl, rfl, by omega⟩
theorem copy_n {i j n len len2 : Int32} {l l2 : Nat} (h1 : 0 ≤ i ∧ i ≤ len ∧ 0 ≤ n ∧ n ≤ len - i) (h2 : 0 ≤ j ∧ j ≤ len2 ∧ 0 ≤ n ∧ n ≤ len2 - j) (e1 : len = nI l) (e2 : len2 = nI l2) (hl : l ≤ 100) (hl2 : l2 ≤ 100) : ∃ a b N, i = nI a ∧ j = nI b ∧ n = nI N ∧ a + N ≤ 100 ∧ b + N ≤ 100 := by
  obtain ⟨a, N, ha, hN, h3⟩ := cells_n h1 e1 hl
  obtain ⟨b, N2, hb, hN2, h4⟩ := cells_n h2 e2 hl2
  have e : N = N2 := n_eq (by omega) (by omega) (hN.symm.trans hN2)
  subst e
  exact ⟨a, b, N, ha, hb, hN, by omega, by omega⟩

set_option maxHeartbeats 4000000 in
set_option maxRecDepth 20000 in
theorem c_copy (σ : Mem) (hSh : SHT σ) (k i o j n : Int32) (d : Nat) (hd : 1 ≤ d) : PMet d mX7_copy [.ref 0, .int k, .int i, .int o, .int j, .int n] σ (Pi (fun r σ2 => r = cnd (isSh k) (cnd (isSh o) (cnd (shH σ k = 0) (-11) (cnd (shH σ o = 0) (-11) (cnd (shV σ k = shV σ o) (cnd (0 ≤ i ∧ i ≤ shN σ k ∧ 0 ≤ n ∧ n ≤ shN σ k - i) (cnd (0 ≤ j ∧ j ≤ shN σ o ∧ 0 ≤ n ∧ n ≤ shN σ o - j) n (-13)) (-13)) (-12)))) (-1)) (-1) ∧ σ2 = cnd (isSh k) (cnd (isSh o) (cnd (shH σ k = 0) (up σ 0 7 1) (cnd (shH σ o = 0) (up σ 0 7 1) (cnd (shV σ k = shV σ o) (cnd (0 ≤ i ∧ i ≤ shN σ k ∧ 0 ≤ n ∧ n ≤ shN σ k - i) (cnd (0 ≤ j ∧ j ≤ shN σ o ∧ 0 ≤ n ∧ n ≤ shN σ o - j) (up (upR σ (35 + 2 * cl o) (va_cpy (σ (35 + 2 * cl k)) (σ (35 + 2 * cl o)) (cl i) (cl j) (cl n))) 0 7 0) (up σ 0 7 3)) (up σ 0 7 3)) (up σ 0 7 2)))) (up σ 0 7 0)) (up σ 0 7 0))) := by
  obtain ⟨d, rfl⟩ : ∃ e, d = e + 1 := ⟨d - 1, by omega⟩
  refine PMet.start (ls0 := [(0, .ref 0), (1, .int k), (2, .int i), (3, .int o), (4, .int j), (5, .int n)]) miX7_copy.1 (Nat.le_of_ble_eq_true rfl) rfl ?_
  refine tq_iload_n 1 (dget dX7_copy 0 rfl) rfl rfl ?_
  refine mq_Si (As := [.int k]) (rest := []) (dget dX7_copy 1 rfl) lX7_50 miX7_isSheet (c_isSheet σ k d (by omega)) rfl rfl (Nat.le_of_ble_eq_true rfl) (Nat.le_of_ble_eq_true rfl) (fun r_1 σ_1 h_1 => ?_)
  obtain ⟨b_1, e_1⟩ := h_1
  obtain rfl := e_1.symm
  refine tq_if_eq (tgt := 14) (dget dX7_copy 2 rfl) (by decide) (fun c_4 => ?_) (fun c_4 => ?_)
  · refine tq_aload_n 0 (dget dX7_copy 6 rfl) rfl rfl ?_
    refine tq_iconst (v := (-1)) (dget dX7_copy 7 rfl) rfl ?_
    refine mq_Vi (As := [.int (-1)]) (rest := []) (dget dX7_copy 8 rfl) lX7_54 miX7_faultless (c_faultless σ (-1) d (by omega)) rfl rfl rfl rfl (Nat.le_of_ble_eq_true rfl) (Nat.le_of_ble_eq_true rfl) (fun r_16 σ_16 h_16 => ?_)
    obtain ⟨a_16, e_16⟩ := h_16
    rw [a_16]
    obtain rfl := e_16.symm
    exact tq_iret rfl (dget dX7_copy 9 rfl) ⟨_, rfl, by simp only [shH, shN, shV, cnd_f (P := isSh k) (b_1.f c_4)], by simp only [shH, shN, shV, cnd_f (P := isSh k) (b_1.f c_4)]⟩
  · refine tq_iload_n 3 (dget dX7_copy 3 rfl) rfl rfl ?_
    refine mq_Si (As := [.int o]) (rest := []) (dget dX7_copy 4 rfl) lX7_50 miX7_isSheet (c_isSheet σ o d (by omega)) rfl rfl (Nat.le_of_ble_eq_true rfl) (Nat.le_of_ble_eq_true rfl) (fun r_8 σ_8 h_8 => ?_)
    obtain ⟨b_8, e_8⟩ := h_8
    obtain rfl := e_8.symm
    refine tq_if_ne (tgt := 20) (dget dX7_copy 5 rfl) (by decide) (fun c_11 => ?_) (fun c_11 => ?_)
    · obtain ⟨kk, e_kk, hkk⟩ := isSh_n (b_1.t c_4)
      subst e_kk
      obtain ⟨oo, e_oo, hoo⟩ := isSh_n (b_8.t c_11)
      subst e_oo
      refine tq_aload_n 0 (dget dX7_copy 10 rfl) rfl rfl ?_
      refine tq_getR (dget dX7_copy 11 rfl) fX7_41 rfl rfl ?_
      refine tq_iload_n 1 (dget dX7_copy 12 rfl) rfl rfl ?_
      refine tq_sheets kk (dget dX7_copy 13 rfl) rfl (by omega) ?_
      refine tq_getI (dget dX7_copy 14 rfl) fX7_206 (SH_sheet (by omega)) rfl ?_
      refine tq_if_eq (tgt := 44) (dget dX7_copy 15 rfl) (by decide) (fun c_29 => ?_) (fun c_29 => ?_)
      · refine tq_aload_n 0 (dget dX7_copy 22 rfl) rfl rfl ?_
        refine tq_iconst (v := 1) (dget dX7_copy 23 rfl) rfl ?_
        refine mq_Vi (As := [.int 1]) (rest := []) (dget dX7_copy 24 rfl) lX7_65 miX7_faulted (c_faulted σ 1 d (by omega)) rfl rfl rfl rfl (Nat.le_of_ble_eq_true rfl) (Nat.le_of_ble_eq_true rfl) (fun r_46 σ_46 h_46 => ?_)
        obtain ⟨a_46, e_46⟩ := h_46
        rw [a_46]
        obtain rfl := e_46.symm
        exact tq_iret rfl (dget dX7_copy 25 rfl) ⟨_, rfl, by simp only [shH, shN, shV, nI_clamp (show kk < 2 ^ 31 by omega), nI_clamp (show oo < 2 ^ 31 by omega), cnd_t (P := isSh (nI kk)) (b_1.t c_4), cnd_t (P := isSh (nI oo)) (b_8.t c_11), cnd_t (P := σ (34 + 2 * kk) 1 = 0) c_29]; try rfl, by simp only [shH, shN, shV, nI_clamp (show kk < 2 ^ 31 by omega), nI_clamp (show oo < 2 ^ 31 by omega), cnd_t (P := isSh (nI kk)) (b_1.t c_4), cnd_t (P := isSh (nI oo)) (b_8.t c_11), cnd_t (P := σ (34 + 2 * kk) 1 = 0) c_29]⟩
      · refine tq_aload_n 0 (dget dX7_copy 16 rfl) rfl rfl ?_
        refine tq_getR (dget dX7_copy 17 rfl) fX7_41 rfl rfl ?_
        refine tq_iload_n 3 (dget dX7_copy 18 rfl) rfl rfl ?_
        refine tq_sheets oo (dget dX7_copy 19 rfl) rfl (by omega) ?_
        refine tq_getI (dget dX7_copy 20 rfl) fX7_206 (SH_sheet (by omega)) rfl ?_
        refine tq_if_ne (tgt := 50) (dget dX7_copy 21 rfl) (by decide) (fun c_41 => ?_) (fun c_41 => ?_)
        · refine tq_aload_n 0 (dget dX7_copy 26 rfl) rfl rfl ?_
          refine tq_getR (dget dX7_copy 27 rfl) fX7_41 rfl rfl ?_
          refine tq_iload_n 1 (dget dX7_copy 28 rfl) rfl rfl ?_
          refine tq_sheets kk (dget dX7_copy 29 rfl) rfl (by omega) ?_
          refine tq_getI (dget dX7_copy 30 rfl) fX7_229 (SH_sheet (by omega)) rfl ?_
          refine tq_aload_n 0 (dget dX7_copy 31 rfl) rfl rfl ?_
          refine tq_getR (dget dX7_copy 32 rfl) fX7_41 rfl rfl ?_
          refine tq_iload_n 3 (dget dX7_copy 33 rfl) rfl rfl ?_
          refine tq_sheets oo (dget dX7_copy 34 rfl) rfl (by omega) ?_
          refine tq_getI (dget dX7_copy 35 rfl) fX7_229 (SH_sheet (by omega)) rfl ?_
          refine tq_icmp_eq (tgt := 77) (dget dX7_copy 36 rfl) (by decide) (fun c_68 => ?_) (fun c_68 => ?_)
          · refine tq_aload_n 0 (dget dX7_copy 41 rfl) rfl rfl ?_
            refine tq_getR (dget dX7_copy 42 rfl) fX7_41 rfl rfl ?_
            refine tq_iload_n 1 (dget dX7_copy 43 rfl) rfl rfl ?_
            refine tq_sheets kk (dget dX7_copy 44 rfl) rfl (by omega) ?_
            refine tq_iload_n 2 (dget dX7_copy 45 rfl) rfl rfl ?_
            refine tq_iload 5 (dget dX7_copy 46 rfl) rfl ?_
            refine mq_Vi (As := [.int i, .int n]) (rest := []) (dget dX7_copy 47 rfl) lX7_232 miX4_hasCells (c_hasCells σ kk (by omega) i n d (by omega)) (SH_sheet (by omega)) rfl rfl rfl (Nat.le_of_ble_eq_true rfl) (Nat.le_of_ble_eq_true rfl) (fun r_86 σ_86 h_86 => ?_)
            obtain ⟨b_86, e_86⟩ := h_86
            obtain rfl := e_86.symm
            refine tq_if_eq (tgt := 108) (dget dX7_copy 48 rfl) (by decide) (fun c_89 => ?_) (fun c_89 => ?_)
            · refine tq_aload_n 0 (dget dX7_copy 57 rfl) rfl rfl ?_
              refine tq_iconst (v := 3) (dget dX7_copy 58 rfl) rfl ?_
              refine mq_Vi (As := [.int 3]) (rest := []) (dget dX7_copy 59 rfl) lX7_65 miX7_faulted (c_faulted σ 3 d (by omega)) rfl rfl rfl rfl (Nat.le_of_ble_eq_true rfl) (Nat.le_of_ble_eq_true rfl) (fun r_110 σ_110 h_110 => ?_)
              obtain ⟨a_110, e_110⟩ := h_110
              rw [a_110]
              obtain rfl := e_110.symm
              exact tq_iret rfl (dget dX7_copy 60 rfl) ⟨_, rfl, by simp only [shH, shN, shV, nI_clamp (show kk < 2 ^ 31 by omega), nI_clamp (show oo < 2 ^ 31 by omega), cnd_t (P := isSh (nI kk)) (b_1.t c_4), cnd_t (P := isSh (nI oo)) (b_8.t c_11), cnd_f (P := σ (34 + 2 * kk) 1 = 0) c_29, cnd_f (P := σ (34 + 2 * oo) 1 = 0) c_41, cnd_t (P := σ (34 + 2 * kk) 2 = σ (34 + 2 * oo) 2) c_68, cnd_f (P := 0 ≤ i ∧ i ≤ σ (34 + 2 * kk) 3 ∧ 0 ≤ n ∧ n ≤ σ (34 + 2 * kk) 3 - i) (b_86.f c_89)]; try rfl, by simp only [shH, shN, shV, nI_clamp (show kk < 2 ^ 31 by omega), nI_clamp (show oo < 2 ^ 31 by omega), cnd_t (P := isSh (nI kk)) (b_1.t c_4), cnd_t (P := isSh (nI oo)) (b_8.t c_11), cnd_f (P := σ (34 + 2 * kk) 1 = 0) c_29, cnd_f (P := σ (34 + 2 * oo) 1 = 0) c_41, cnd_t (P := σ (34 + 2 * kk) 2 = σ (34 + 2 * oo) 2) c_68, cnd_f (P := 0 ≤ i ∧ i ≤ σ (34 + 2 * kk) 3 ∧ 0 ≤ n ∧ n ≤ σ (34 + 2 * kk) 3 - i) (b_86.f c_89)]⟩
            · refine tq_aload_n 0 (dget dX7_copy 49 rfl) rfl rfl ?_
              refine tq_getR (dget dX7_copy 50 rfl) fX7_41 rfl rfl ?_
              refine tq_iload_n 3 (dget dX7_copy 51 rfl) rfl rfl ?_
              refine tq_sheets oo (dget dX7_copy 52 rfl) rfl (by omega) ?_
              refine tq_iload 4 (dget dX7_copy 53 rfl) rfl ?_
              refine tq_iload 5 (dget dX7_copy 54 rfl) rfl ?_
              refine mq_Vi (As := [.int j, .int n]) (rest := []) (dget dX7_copy 55 rfl) lX7_232 miX4_hasCells (c_hasCells σ oo (by omega) j n d (by omega)) (SH_sheet (by omega)) rfl rfl rfl (Nat.le_of_ble_eq_true rfl) (Nat.le_of_ble_eq_true rfl) (fun r_102 σ_102 h_102 => ?_)
              obtain ⟨b_102, e_102⟩ := h_102
              obtain rfl := e_102.symm
              refine tq_if_ne (tgt := 114) (dget dX7_copy 56 rfl) (by decide) (fun c_105 => ?_) (fun c_105 => ?_)
              · obtain ⟨l, hl, el⟩ := hSh kk hkk
                obtain ⟨l2, hl2, el2⟩ := hSh oo hoo
                obtain ⟨a, b, N, e_a, e_b, e_N, h_a, h_b⟩ := copy_n (b_86.t c_89) (b_102.t c_105) el el2 hl hl2
                subst e_a
                subst e_b
                subst e_N
                refine tq_aload_n 0 (dget dX7_copy 61 rfl) rfl rfl ?_
                refine tq_getR (dget dX7_copy 62 rfl) fX7_41 rfl rfl ?_
                refine tq_iload_n 1 (dget dX7_copy 63 rfl) rfl rfl ?_
                refine tq_sheets kk (dget dX7_copy 64 rfl) rfl (by omega) ?_
                refine tq_getR (dget dX7_copy 65 rfl) fX7_226 (SH_sheet (by omega)) rfl ?_
                refine tq_iload_n 2 (dget dX7_copy 66 rfl) rfl rfl ?_
                refine tq_aload_n 0 (dget dX7_copy 67 rfl) rfl rfl ?_
                refine tq_getR (dget dX7_copy 68 rfl) fX7_41 rfl rfl ?_
                refine tq_iload_n 3 (dget dX7_copy 69 rfl) rfl rfl ?_
                refine tq_sheets oo (dget dX7_copy 70 rfl) rfl (by omega) ?_
                refine tq_getR (dget dX7_copy 71 rfl) fX7_226 (SH_sheet (by omega)) rfl ?_
                refine tq_iload 4 (dget dX7_copy 72 rfl) rfl ?_
                refine tq_iload 5 (dget dX7_copy 73 rfl) rfl ?_
                refine tq_copy (dget dX7_copy 74 rfl) (tblG_3 65 rfl rfl) (tblG_1 237 rfl rfl) (tblG_1 236 rfl rfl) (tblG_1 9 rfl rfl) (SH_cells (by omega)) (SH_cells (by omega)) (nI_pos (by omega)) (nI_pos (by omega)) (nI_pos (by omega)) (by rw [nI_clamp (by omega), nI_clamp (by omega)]; exact h_a) (by rw [nI_clamp (by omega), nI_clamp (by omega)]; exact h_b) (by show 1 ≤ d + 1; omega) (by show _ ≤ 40 * (d + 1); have h0 : 40 ≤ 40 * (d + 1) := (by omega); exact Nat.le_trans (Nat.le_of_ble_eq_true rfl) h0) ?_
                refine tq_aload_n 0 (dget dX7_copy 75 rfl) rfl rfl ?_
                refine tq_iload 5 (dget dX7_copy 76 rfl) rfl ?_
                refine mq_Vi (As := [.int (nI N)]) (rest := []) (dget dX7_copy 77 rfl) lX7_54 miX7_faultless (c_faultless (upR σ (35 + 2 * oo) (va_cpy (σ (35 + 2 * kk)) (σ (35 + 2 * oo)) (nI a).toNatClampNeg (nI b).toNatClampNeg (nI N).toNatClampNeg)) (nI N) d (by omega)) rfl rfl rfl rfl (Nat.le_of_ble_eq_true rfl) (Nat.le_of_ble_eq_true rfl) (fun r_143 σ_143 h_143 => ?_)
                obtain ⟨a_143, e_143⟩ := h_143
                rw [a_143]
                obtain rfl := e_143.symm
                exact tq_iret rfl (dget dX7_copy 78 rfl) ⟨_, rfl, by simp only [shH, shN, shV, nI_clamp (show kk < 2 ^ 31 by omega), nI_clamp (show oo < 2 ^ 31 by omega), cnd_t (P := isSh (nI kk)) (b_1.t c_4), cnd_t (P := isSh (nI oo)) (b_8.t c_11), cnd_f (P := σ (34 + 2 * kk) 1 = 0) c_29, cnd_f (P := σ (34 + 2 * oo) 1 = 0) c_41, cnd_t (P := σ (34 + 2 * kk) 2 = σ (34 + 2 * oo) 2) c_68, nI_clamp (show a < 2 ^ 31 by omega), nI_clamp (show b < 2 ^ 31 by omega), nI_clamp (show N < 2 ^ 31 by omega), cnd_t (P := 0 ≤ nI a ∧ nI a ≤ σ (34 + 2 * kk) 3 ∧ 0 ≤ nI N ∧ nI N ≤ σ (34 + 2 * kk) 3 - nI a) (b_86.t c_89), cnd_t (P := 0 ≤ nI b ∧ nI b ≤ σ (34 + 2 * oo) 3 ∧ 0 ≤ nI N ∧ nI N ≤ σ (34 + 2 * oo) 3 - nI b) (b_102.t c_105)], by simp only [shH, shN, shV, nI_clamp (show kk < 2 ^ 31 by omega), nI_clamp (show oo < 2 ^ 31 by omega), cnd_t (P := isSh (nI kk)) (b_1.t c_4), cnd_t (P := isSh (nI oo)) (b_8.t c_11), cnd_f (P := σ (34 + 2 * kk) 1 = 0) c_29, cnd_f (P := σ (34 + 2 * oo) 1 = 0) c_41, cnd_t (P := σ (34 + 2 * kk) 2 = σ (34 + 2 * oo) 2) c_68, nI_clamp (show a < 2 ^ 31 by omega), nI_clamp (show b < 2 ^ 31 by omega), nI_clamp (show N < 2 ^ 31 by omega), cnd_t (P := 0 ≤ nI a ∧ nI a ≤ σ (34 + 2 * kk) 3 ∧ 0 ≤ nI N ∧ nI N ≤ σ (34 + 2 * kk) 3 - nI a) (b_86.t c_89), cnd_t (P := 0 ≤ nI b ∧ nI b ≤ σ (34 + 2 * oo) 3 ∧ 0 ≤ nI N ∧ nI N ≤ σ (34 + 2 * oo) 3 - nI b) (b_102.t c_105)]⟩
              · refine tq_aload_n 0 (dget dX7_copy 57 rfl) rfl rfl ?_
                refine tq_iconst (v := 3) (dget dX7_copy 58 rfl) rfl ?_
                refine mq_Vi (As := [.int 3]) (rest := []) (dget dX7_copy 59 rfl) lX7_65 miX7_faulted (c_faulted σ 3 d (by omega)) rfl rfl rfl rfl (Nat.le_of_ble_eq_true rfl) (Nat.le_of_ble_eq_true rfl) (fun r_110 σ_110 h_110 => ?_)
                obtain ⟨a_110, e_110⟩ := h_110
                rw [a_110]
                obtain rfl := e_110.symm
                exact tq_iret rfl (dget dX7_copy 60 rfl) ⟨_, rfl, by simp only [shH, shN, shV, nI_clamp (show kk < 2 ^ 31 by omega), nI_clamp (show oo < 2 ^ 31 by omega), cnd_t (P := isSh (nI kk)) (b_1.t c_4), cnd_t (P := isSh (nI oo)) (b_8.t c_11), cnd_f (P := σ (34 + 2 * kk) 1 = 0) c_29, cnd_f (P := σ (34 + 2 * oo) 1 = 0) c_41, cnd_t (P := σ (34 + 2 * kk) 2 = σ (34 + 2 * oo) 2) c_68, cnd_t (P := 0 ≤ i ∧ i ≤ σ (34 + 2 * kk) 3 ∧ 0 ≤ n ∧ n ≤ σ (34 + 2 * kk) 3 - i) (b_86.t c_89), cnd_f (P := 0 ≤ j ∧ j ≤ σ (34 + 2 * oo) 3 ∧ 0 ≤ n ∧ n ≤ σ (34 + 2 * oo) 3 - j) (b_102.f c_105)]; try rfl, by simp only [shH, shN, shV, nI_clamp (show kk < 2 ^ 31 by omega), nI_clamp (show oo < 2 ^ 31 by omega), cnd_t (P := isSh (nI kk)) (b_1.t c_4), cnd_t (P := isSh (nI oo)) (b_8.t c_11), cnd_f (P := σ (34 + 2 * kk) 1 = 0) c_29, cnd_f (P := σ (34 + 2 * oo) 1 = 0) c_41, cnd_t (P := σ (34 + 2 * kk) 2 = σ (34 + 2 * oo) 2) c_68, cnd_t (P := 0 ≤ i ∧ i ≤ σ (34 + 2 * kk) 3 ∧ 0 ≤ n ∧ n ≤ σ (34 + 2 * kk) 3 - i) (b_86.t c_89), cnd_f (P := 0 ≤ j ∧ j ≤ σ (34 + 2 * oo) 3 ∧ 0 ≤ n ∧ n ≤ σ (34 + 2 * oo) 3 - j) (b_102.f c_105)]⟩
          · refine tq_aload_n 0 (dget dX7_copy 37 rfl) rfl rfl ?_
            refine tq_iconst (v := 2) (dget dX7_copy 38 rfl) rfl ?_
            refine mq_Vi (As := [.int 2]) (rest := []) (dget dX7_copy 39 rfl) lX7_65 miX7_faulted (c_faulted σ 2 d (by omega)) rfl rfl rfl rfl (Nat.le_of_ble_eq_true rfl) (Nat.le_of_ble_eq_true rfl) (fun r_73 σ_73 h_73 => ?_)
            obtain ⟨a_73, e_73⟩ := h_73
            rw [a_73]
            obtain rfl := e_73.symm
            exact tq_iret rfl (dget dX7_copy 40 rfl) ⟨_, rfl, by simp only [shH, shN, shV, nI_clamp (show kk < 2 ^ 31 by omega), nI_clamp (show oo < 2 ^ 31 by omega), cnd_t (P := isSh (nI kk)) (b_1.t c_4), cnd_t (P := isSh (nI oo)) (b_8.t c_11), cnd_f (P := σ (34 + 2 * kk) 1 = 0) c_29, cnd_f (P := σ (34 + 2 * oo) 1 = 0) c_41, cnd_f (P := σ (34 + 2 * kk) 2 = σ (34 + 2 * oo) 2) c_68]; try rfl, by simp only [shH, shN, shV, nI_clamp (show kk < 2 ^ 31 by omega), nI_clamp (show oo < 2 ^ 31 by omega), cnd_t (P := isSh (nI kk)) (b_1.t c_4), cnd_t (P := isSh (nI oo)) (b_8.t c_11), cnd_f (P := σ (34 + 2 * kk) 1 = 0) c_29, cnd_f (P := σ (34 + 2 * oo) 1 = 0) c_41, cnd_f (P := σ (34 + 2 * kk) 2 = σ (34 + 2 * oo) 2) c_68]⟩
        · refine tq_aload_n 0 (dget dX7_copy 22 rfl) rfl rfl ?_
          refine tq_iconst (v := 1) (dget dX7_copy 23 rfl) rfl ?_
          refine mq_Vi (As := [.int 1]) (rest := []) (dget dX7_copy 24 rfl) lX7_65 miX7_faulted (c_faulted σ 1 d (by omega)) rfl rfl rfl rfl (Nat.le_of_ble_eq_true rfl) (Nat.le_of_ble_eq_true rfl) (fun r_46 σ_46 h_46 => ?_)
          obtain ⟨a_46, e_46⟩ := h_46
          rw [a_46]
          obtain rfl := e_46.symm
          exact tq_iret rfl (dget dX7_copy 25 rfl) ⟨_, rfl, by simp only [shH, shN, shV, nI_clamp (show kk < 2 ^ 31 by omega), nI_clamp (show oo < 2 ^ 31 by omega), cnd_t (P := isSh (nI kk)) (b_1.t c_4), cnd_t (P := isSh (nI oo)) (b_8.t c_11), cnd_f (P := σ (34 + 2 * kk) 1 = 0) c_29, cnd_t (P := σ (34 + 2 * oo) 1 = 0) c_41]; try rfl, by simp only [shH, shN, shV, nI_clamp (show kk < 2 ^ 31 by omega), nI_clamp (show oo < 2 ^ 31 by omega), cnd_t (P := isSh (nI kk)) (b_1.t c_4), cnd_t (P := isSh (nI oo)) (b_8.t c_11), cnd_f (P := σ (34 + 2 * kk) 1 = 0) c_29, cnd_t (P := σ (34 + 2 * oo) 1 = 0) c_41]⟩
    · refine tq_aload_n 0 (dget dX7_copy 6 rfl) rfl rfl ?_
      refine tq_iconst (v := (-1)) (dget dX7_copy 7 rfl) rfl ?_
      refine mq_Vi (As := [.int (-1)]) (rest := []) (dget dX7_copy 8 rfl) lX7_54 miX7_faultless (c_faultless σ (-1) d (by omega)) rfl rfl rfl rfl (Nat.le_of_ble_eq_true rfl) (Nat.le_of_ble_eq_true rfl) (fun r_16 σ_16 h_16 => ?_)
      obtain ⟨a_16, e_16⟩ := h_16
      rw [a_16]
      obtain rfl := e_16.symm
      exact tq_iret rfl (dget dX7_copy 9 rfl) ⟨_, rfl, by simp only [shH, shN, shV, cnd_t (P := isSh k) (b_1.t c_4), cnd_f (P := isSh o) (b_8.f c_11)], by simp only [shH, shN, shV, cnd_t (P := isSh k) (b_1.t c_4), cnd_f (P := isSh o) (b_8.f c_11)]⟩

/-! ===== a row filled; sheets ===== -/
def fillR (σ : Mem) (i n : Nat) (v : Int32) : Mem := upR σ i (fun j => if j < n then v else σ i j)
theorem fillR_0 (σ : Mem) (i : Nat) (v : Int32) : σ = fillR σ i 0 v := by
  unfold fillR
  simp only [Nat.not_lt_zero, if_false]
  exact (upR_self σ i).symm
theorem fillR_succ (σ : Mem) (i k : Nat) (v : Int32) : up (fillR σ i k v) i k v = fillR σ i (k + 1) v := by
  unfold up fillR
  rw [upR_upR, upR_s]
  congr 1
  funext j
  unfold upd
  by_cases h : j = k
  · subst h; simp
  · rw [if_neg h]
    show (if j < k then v else σ i j) = if j < k + 1 then v else σ i j
    by_cases h2 : j < k
    · rw [if_pos h2, if_pos (by omega)]
    · rw [if_neg h2, if_neg (by omega)]
def frF (has lane as : Int32) : Int32 := if has = 0 then 1 else if lane = as then 0 else 2
def fcF (has lane len as i n : Int32) : Int32 := if ¬ frF has lane as = 0 then frF has lane as else if n < 0 then 4 else if 0 ≤ i ∧ i ≤ len ∧ 0 ≤ n ∧ n ≤ len - i then 0 else 3
def cutF (lane v : Int32) : Int32 := if lane = 0 then v.toInt8.toInt32 else if lane = 1 then v.toInt16.toInt32 else v

set_option maxHeartbeats 4000000 in
set_option maxRecDepth 20000 in
theorem c_fill_loop (σ : Mem) (i L : Nat) (v : Int32) (hs : SH i = some (.inl (.int, L))) (hL : L < 2 ^ 31) (d : Nat) (hd : 0 ≤ d) : ∀ (n : Nat) (k : Nat) (hm : L < k + n) (hk : k ≤ L), PAt (EM d (Pv (fun σ2 => σ2 = fillR σ i L v))) mJ7_fill_53178 5 [(2, .int (nI k)), (3, .int (nI L)), (0, .ref i), (1, .int v)] [] (fillR σ i k v) := by
  intro n
  induction n with
  | zero => intro k hm hk; exact absurd hm (by omega)
  | succ n ih =>
    intro k hm hk
    refine tq_iload_n 0 (dget dJ7_fill_53178 5 rfl) rfl rfl ?_
    refine tq_iload_n 1 (dget dJ7_fill_53178 6 rfl) rfl rfl ?_
    refine tq_icmp_ge (tgt := 20) (dget dJ7_fill_53178 7 rfl) (by decide) (fun c_7 => ?_) (fun c_7 => ?_)
    · exact tq_vret rfl (dget dJ7_fill_53178 14 rfl) ⟨rfl, by rw [show k = L by have h9 := (nI_leI hL (by omega)).mp c_7; omega]⟩
    · refine tq_aload_n 2 (dget dJ7_fill_53178 8 rfl) rfl rfl ?_
      refine tq_iload_n 0 (dget dJ7_fill_53178 9 rfl) rfl rfl ?_
      refine tq_iload_n 3 (dget dJ7_fill_53178 10 rfl) rfl rfl ?_
      refine tq_iastN k (dget dJ7_fill_53178 11 rfl) hs hL rfl (by have h9 := mt (nI_leI hL (by omega)).mpr c_7; omega) ?_
      refine tq_iinc (v := (nI (k + 1))) (ls2 := [(2, .int (nI (k + 1))), (3, .int (nI L)), (0, .ref i), (1, .int v)]) 0 (dget dJ7_fill_53178 12 rfl) rfl (nI_1 k) (by decide) rfl ?_
      refine tq_goto (tgt := 5) (dget dJ7_fill_53178 13 rfl) (by decide) ?_
      refine tq_sub [0, 1, 2, 3] (ls' := [(2, .int (nI (k + 1))), (3, .int (nI L)), (0, .ref i), (1, .int v)]) rfl ?_
      refine tq_mem (fillR_succ σ i k v) ?_
      exact ih (k + 1) (by omega) (by have h9 := mt (nI_leI hL (by omega)).mpr c_7; omega)
set_option maxHeartbeats 4000000 in
set_option maxRecDepth 20000 in
theorem c_fill (σ : Mem) (i L : Nat) (v : Int32) (hs : SH i = some (.inl (.int, L))) (hL : L < 2 ^ 31) (d : Nat) (hd : 0 ≤ d) : PMet d mJ7_fill_53178 [.ref i, .int v] σ (Pv (fun σ2 => σ2 = fillR σ i L v)) := by
  refine PMet.start (ls0 := [(0, .ref i), (1, .int v)]) miJ7_fill_53178.1 (Nat.le_of_ble_eq_true rfl) rfl ?_
  refine tq_iconst (v := 0) (dget dJ7_fill_53178 0 rfl) rfl ?_
  refine tq_istore_n (ls2 := [(2, .int 0), (0, .ref i), (1, .int v)]) (dget dJ7_fill_53178 1 rfl) rfl (by decide) rfl ?_
  refine tq_aload_n 1 (dget dJ7_fill_53178 2 rfl) rfl rfl ?_
  refine tq_alen (v := (nI L)) (dget dJ7_fill_53178 3 rfl) hs rfl ?_
  refine tq_istore_n (ls2 := [(3, .int (nI L)), (2, .int 0), (0, .ref i), (1, .int v)]) (dget dJ7_fill_53178 4 rfl) rfl (by decide) rfl ?_
  refine tq_sub [1, 0, 2, 3] (ls' := [(2, .int 0), (3, .int (nI L)), (0, .ref i), (1, .int v)]) rfl ?_
  rw [show (0 : Int32) = nI 0 from rfl]
  refine tq_mem (fillR_0 σ i v) ?_
  exact c_fill_loop σ i L v hs hL d hd (L + 1) 0 (by omega) (by omega)
set_option maxHeartbeats 4000000 in
set_option maxRecDepth 20000 in
theorem c_renew (σ : Mem) (k : Nat) (hk : k < 4) (lane len : Int32) (d : Nat) (hd : 1 ≤ d) : PMet d mX4_renew [.ref (34 + 2 * k), .int lane, .int len] σ (Pv (fun σ2 => σ2 = up (up (up (fillR σ (35 + 2 * k) 100 0) (34 + 2 * k) 1 1) (34 + 2 * k) 2 lane) (34 + 2 * k) 3 len)) := by
  obtain ⟨d, rfl⟩ : ∃ e, d = e + 1 := ⟨d - 1, by omega⟩
  refine PMet.start (ls0 := [(0, .ref (34 + 2 * k)), (1, .int lane), (2, .int len)]) miX4_renew.1 (Nat.le_of_ble_eq_true rfl) rfl ?_
  refine tq_aload_n 0 (dget dX4_renew 0 rfl) rfl rfl ?_
  refine tq_getR (dget dX4_renew 1 rfl) fX4_9 (SH_sheet hk) rfl ?_
  refine tq_iconst (v := 0) (dget dX4_renew 2 rfl) rfl ?_
  refine mq_Sv (As := [.ref (35 + 2 * k), .int 0]) (rest := []) (dget dX4_renew 3 rfl) lX4_15 miJ7_fill_53178 (c_fill σ (35 + 2 * k) _ 0 (SH_cells hk) (by decide) d (by omega)) rfl rfl (Nat.le_of_ble_eq_true rfl) (Nat.le_of_ble_eq_true rfl) (fun σ_5 h_5 => ?_)
  obtain rfl := Eq.symm h_5
  refine tq_aload_n 0 (dget dX4_renew 4 rfl) rfl rfl ?_
  refine tq_iconst (v := 1) (dget dX4_renew 5 rfl) rfl ?_
  refine tq_putI (dget dX4_renew 6 rfl) fX4_21 (SH_sheet hk) rfl rfl rfl ?_
  refine tq_aload_n 0 (dget dX4_renew 7 rfl) rfl rfl ?_
  refine tq_iload_n 1 (dget dX4_renew 8 rfl) rfl rfl ?_
  refine tq_putI (dget dX4_renew 9 rfl) fX4_25 (SH_sheet hk) rfl rfl rfl ?_
  refine tq_aload_n 0 (dget dX4_renew 10 rfl) rfl rfl ?_
  refine tq_iload_n 2 (dget dX4_renew 11 rfl) rfl rfl ?_
  refine tq_putI (dget dX4_renew 12 rfl) fX4_29 (SH_sheet hk) rfl rfl rfl ?_
  exact tq_vret rfl (dget dX4_renew 13 rfl) ⟨rfl, rfl⟩
set_option maxHeartbeats 4000000 in
set_option maxRecDepth 20000 in
theorem c_hasCell (σ : Mem) (k : Nat) (hk : k < 4) (x : Int32) (d : Nat) (hd : 0 ≤ d) : PMet d mX4_hasCell [.ref (34 + 2 * k), .int x] σ (Pi (fun v σ2 => BP (0 ≤ x ∧ x < σ (34 + 2 * k) 3) v ∧ σ2 = σ)) := by
  refine PMet.start (ls0 := [(0, .ref (34 + 2 * k)), (1, .int x)]) miX4_hasCell.1 (Nat.le_of_ble_eq_true rfl) rfl ?_
  refine tq_iload_n 1 (dget dX4_hasCell 0 rfl) rfl rfl ?_
  refine tq_if_lt (tgt := 16) (dget dX4_hasCell 1 rfl) (by decide) (fun c_1 => ?_) (fun c_1 => ?_)
  · refine tq_iconst (v := 0) (dget dX4_hasCell 8 rfl) rfl ?_
    exact tq_zret rfl rfl (dget dX4_hasCell 9 rfl) ⟨_, rfl, BP.n (fun q => by first | exact absurd q.1 (Int32.not_le.mpr c_1) | exact absurd q.2 (Int32.not_lt.mpr c_9)), rfl⟩
  · refine tq_iload_n 1 (dget dX4_hasCell 2 rfl) rfl rfl ?_
    refine tq_aload_n 0 (dget dX4_hasCell 3 rfl) rfl rfl ?_
    refine tq_getI (dget dX4_hasCell 4 rfl) fX4_29 (SH_sheet hk) rfl ?_
    refine tq_icmp_ge (tgt := 16) (dget dX4_hasCell 5 rfl) (by decide) (fun c_9 => ?_) (fun c_9 => ?_)
    · refine tq_iconst (v := 0) (dget dX4_hasCell 8 rfl) rfl ?_
      exact tq_zret rfl rfl (dget dX4_hasCell 9 rfl) ⟨_, rfl, BP.n (fun q => by first | exact absurd q.1 (Int32.not_le.mpr c_1) | exact absurd q.2 (Int32.not_lt.mpr c_9)), rfl⟩
    · refine tq_iconst (v := 1) (dget dX4_hasCell 6 rfl) rfl ?_
      refine tq_goto (tgt := 17) (dget dX4_hasCell 7 rfl) (by decide) ?_
      exact tq_zret rfl rfl (dget dX4_hasCell 9 rfl) ⟨_, rfl, BP.y ⟨Int32.not_lt.mp c_1, Int32.not_le.mp c_9⟩, rfl⟩
set_option maxHeartbeats 4000000 in
set_option maxRecDepth 20000 in
theorem c_hasCells (σ : Mem) (k : Nat) (hk : k < 4) (x y : Int32) (d : Nat) (hd : 0 ≤ d) : PMet d mX4_hasCells [.ref (34 + 2 * k), .int x, .int y] σ (Pi (fun v σ2 => BP (0 ≤ x ∧ x ≤ σ (34 + 2 * k) 3 ∧ 0 ≤ y ∧ y ≤ σ (34 + 2 * k) 3 - x) v ∧ σ2 = σ)) := by
  refine PMet.start (ls0 := [(0, .ref (34 + 2 * k)), (1, .int x), (2, .int y)]) miX4_hasCells.1 (Nat.le_of_ble_eq_true rfl) rfl ?_
  refine tq_iload_n 1 (dget dX4_hasCells 0 rfl) rfl rfl ?_
  refine tq_if_lt (tgt := 30) (dget dX4_hasCells 1 rfl) (by decide) (fun c_1 => ?_) (fun c_1 => ?_)
  · refine tq_iconst (v := 0) (dget dX4_hasCells 16 rfl) rfl ?_
    exact tq_zret rfl rfl (dget dX4_hasCells 17 rfl) ⟨_, rfl, BP.n (fun q => by first | exact absurd q.1 (Int32.not_le.mpr c_1) | exact absurd q.2.1 (Int32.not_le.mpr c_9) | exact absurd q.2.2.1 (Int32.not_le.mpr c_13) | exact absurd q.2.2.2 (Int32.not_le.mpr c_23)), rfl⟩
  · refine tq_iload_n 1 (dget dX4_hasCells 2 rfl) rfl rfl ?_
    refine tq_aload_n 0 (dget dX4_hasCells 3 rfl) rfl rfl ?_
    refine tq_getI (dget dX4_hasCells 4 rfl) fX4_29 (SH_sheet hk) rfl ?_
    refine tq_icmp_gt (tgt := 30) (dget dX4_hasCells 5 rfl) (by decide) (fun c_9 => ?_) (fun c_9 => ?_)
    · refine tq_iconst (v := 0) (dget dX4_hasCells 16 rfl) rfl ?_
      exact tq_zret rfl rfl (dget dX4_hasCells 17 rfl) ⟨_, rfl, BP.n (fun q => by first | exact absurd q.1 (Int32.not_le.mpr c_1) | exact absurd q.2.1 (Int32.not_le.mpr c_9) | exact absurd q.2.2.1 (Int32.not_le.mpr c_13) | exact absurd q.2.2.2 (Int32.not_le.mpr c_23)), rfl⟩
    · refine tq_iload_n 2 (dget dX4_hasCells 6 rfl) rfl rfl ?_
      refine tq_if_lt (tgt := 30) (dget dX4_hasCells 7 rfl) (by decide) (fun c_13 => ?_) (fun c_13 => ?_)
      · refine tq_iconst (v := 0) (dget dX4_hasCells 16 rfl) rfl ?_
        exact tq_zret rfl rfl (dget dX4_hasCells 17 rfl) ⟨_, rfl, BP.n (fun q => by first | exact absurd q.1 (Int32.not_le.mpr c_1) | exact absurd q.2.1 (Int32.not_le.mpr c_9) | exact absurd q.2.2.1 (Int32.not_le.mpr c_13) | exact absurd q.2.2.2 (Int32.not_le.mpr c_23)), rfl⟩
      · refine tq_iload_n 2 (dget dX4_hasCells 8 rfl) rfl rfl ?_
        refine tq_aload_n 0 (dget dX4_hasCells 9 rfl) rfl rfl ?_
        refine tq_getI (dget dX4_hasCells 10 rfl) fX4_29 (SH_sheet hk) rfl ?_
        refine tq_iload_n 1 (dget dX4_hasCells 11 rfl) rfl rfl ?_
        refine tq_isub (dget dX4_hasCells 12 rfl) ?_
        refine tq_icmp_gt (tgt := 30) (dget dX4_hasCells 13 rfl) (by decide) (fun c_23 => ?_) (fun c_23 => ?_)
        · refine tq_iconst (v := 0) (dget dX4_hasCells 16 rfl) rfl ?_
          exact tq_zret rfl rfl (dget dX4_hasCells 17 rfl) ⟨_, rfl, BP.n (fun q => by first | exact absurd q.1 (Int32.not_le.mpr c_1) | exact absurd q.2.1 (Int32.not_le.mpr c_9) | exact absurd q.2.2.1 (Int32.not_le.mpr c_13) | exact absurd q.2.2.2 (Int32.not_le.mpr c_23)), rfl⟩
        · refine tq_iconst (v := 1) (dget dX4_hasCells 14 rfl) rfl ?_
          refine tq_goto (tgt := 31) (dget dX4_hasCells 15 rfl) (by decide) ?_
          exact tq_zret rfl rfl (dget dX4_hasCells 17 rfl) ⟨_, rfl, BP.y ⟨Int32.not_lt.mp c_1, Int32.not_lt.mp c_9, Int32.not_lt.mp c_13, Int32.not_lt.mp c_23⟩, rfl⟩
set_option maxHeartbeats 4000000 in
set_option maxRecDepth 20000 in
theorem c_faultOfRow (σ : Mem) (k : Nat) (hk : k < 4) (x : Int32) (d : Nat) (hd : 0 ≤ d) : PMet d mX4_faultOfRow [.ref (34 + 2 * k), .int x] σ (Pi (fun v σ2 => v = frF (σ (34 + 2 * k) 1) (σ (34 + 2 * k) 2) x ∧ σ2 = σ)) := by
  refine PMet.start (ls0 := [(0, .ref (34 + 2 * k)), (1, .int x)]) miX4_faultOfRow.1 (Nat.le_of_ble_eq_true rfl) rfl ?_
  refine tq_aload_n 0 (dget dX4_faultOfRow 0 rfl) rfl rfl ?_
  refine tq_getI (dget dX4_faultOfRow 1 rfl) fX4_21 (SH_sheet hk) rfl ?_
  refine tq_if_ne (tgt := 9) (dget dX4_faultOfRow 2 rfl) (by decide) (fun c_4 => ?_) (fun c_4 => ?_)
  · refine tq_aload_n 0 (dget dX4_faultOfRow 5 rfl) rfl rfl ?_
    refine tq_getI (dget dX4_faultOfRow 6 rfl) fX4_25 (SH_sheet hk) rfl ?_
    refine tq_iload_n 1 (dget dX4_faultOfRow 7 rfl) rfl rfl ?_
    refine tq_icmp_ne (tgt := 21) (dget dX4_faultOfRow 8 rfl) (by decide) (fun c_14 => ?_) (fun c_14 => ?_)
    · refine tq_iconst (v := 2) (dget dX4_faultOfRow 11 rfl) rfl ?_
      exact tq_iret rfl (dget dX4_faultOfRow 12 rfl) ⟨_, rfl, by simp [frF, c_4, c_14], rfl⟩
    · refine tq_iconst (v := 0) (dget dX4_faultOfRow 9 rfl) rfl ?_
      refine tq_goto (tgt := 22) (dget dX4_faultOfRow 10 rfl) (by decide) ?_
      exact tq_iret rfl (dget dX4_faultOfRow 12 rfl) ⟨_, rfl, by simp [frF, c_4, c_14], rfl⟩
  · refine tq_iconst (v := 1) (dget dX4_faultOfRow 3 rfl) rfl ?_
    exact tq_iret rfl (dget dX4_faultOfRow 4 rfl) ⟨_, rfl, by simp [frF, c_4], rfl⟩
set_option maxHeartbeats 4000000 in
set_option maxRecDepth 20000 in
theorem c_faultOfCells (σ : Mem) (k : Nat) (hk : k < 4) (x i n : Int32) (d : Nat) (hd : 1 ≤ d) : PMet d mX4_faultOfCells [.ref (34 + 2 * k), .int x, .int i, .int n] σ (Pi (fun v σ2 => v = fcF (σ (34 + 2 * k) 1) (σ (34 + 2 * k) 2) (σ (34 + 2 * k) 3) x i n ∧ σ2 = σ)) := by
  obtain ⟨d, rfl⟩ : ∃ e, d = e + 1 := ⟨d - 1, by omega⟩
  refine PMet.start (ls0 := [(0, .ref (34 + 2 * k)), (1, .int x), (2, .int i), (3, .int n)]) miX4_faultOfCells.1 (Nat.le_of_ble_eq_true rfl) rfl ?_
  refine tq_aload_n 0 (dget dX4_faultOfCells 0 rfl) rfl rfl ?_
  refine tq_iload_n 1 (dget dX4_faultOfCells 1 rfl) rfl rfl ?_
  refine mq_Vi (As := [.int x]) (rest := []) (dget dX4_faultOfCells 2 rfl) lX4_32 miX4_faultOfRow (c_faultOfRow σ k hk x d (by omega)) (SH_sheet hk) rfl rfl rfl (Nat.le_of_ble_eq_true rfl) (Nat.le_of_ble_eq_true rfl) (fun r_2 σ_2 h_2 => ?_)
  obtain ⟨a_2, e_2⟩ := h_2
  obtain rfl := a_2.symm
  obtain rfl := e_2.symm
  refine tq_istore (ls2 := [(4, .int (frF (σ (34 + 2 * k) 1) (σ (34 + 2 * k) 2) x)), (0, .ref (34 + 2 * k)), (1, .int x), (2, .int i), (3, .int n)]) (dget dX4_faultOfCells 3 rfl) (by decide) rfl ?_
  refine tq_iload 0 (dget dX4_faultOfCells 4 rfl) rfl ?_
  refine tq_if_eq (tgt := 15) (dget dX4_faultOfCells 5 rfl) (by decide) (fun c_9 => ?_) (fun c_9 => ?_)
  · refine tq_iload_n 4 (dget dX4_faultOfCells 8 rfl) rfl rfl ?_
    refine tq_if_ge (tgt := 21) (dget dX4_faultOfCells 9 rfl) (by decide) (fun c_16 => ?_) (fun c_16 => ?_)
    · refine tq_aload_n 1 (dget dX4_faultOfCells 12 rfl) rfl rfl ?_
      refine tq_iload_n 3 (dget dX4_faultOfCells 13 rfl) rfl rfl ?_
      refine tq_iload_n 4 (dget dX4_faultOfCells 14 rfl) rfl rfl ?_
      refine mq_Vi (As := [.int i, .int n]) (rest := []) (dget dX4_faultOfCells 15 rfl) lX4_36 miX4_hasCells (c_hasCells σ k hk i n d (by omega)) (SH_sheet hk) rfl rfl rfl (Nat.le_of_ble_eq_true rfl) (Nat.le_of_ble_eq_true rfl) (fun r_24 σ_24 h_24 => ?_)
      obtain ⟨b_24, e_24⟩ := h_24
      obtain rfl := e_24.symm
      refine tq_if_eq (tgt := 34) (dget dX4_faultOfCells 16 rfl) (by decide) (fun c_27 => ?_) (fun c_27 => ?_)
      · refine tq_iconst (v := 3) (dget dX4_faultOfCells 19 rfl) rfl ?_
        exact tq_iret rfl (dget dX4_faultOfCells 20 rfl) ⟨_, rfl, by rw [fcF, if_neg (by simp [c_9]), if_neg (Int32.not_lt.mpr c_16), if_neg (b_24.f c_27)], rfl⟩
      · refine tq_iconst (v := 0) (dget dX4_faultOfCells 17 rfl) rfl ?_
        refine tq_goto (tgt := 35) (dget dX4_faultOfCells 18 rfl) (by decide) ?_
        exact tq_iret rfl (dget dX4_faultOfCells 20 rfl) ⟨_, rfl, by simp [fcF, b_24.t c_27, c_9, c_16, Int32.not_lt.mpr c_16, c_27], rfl⟩
    · refine tq_iconst (v := 4) (dget dX4_faultOfCells 10 rfl) rfl ?_
      exact tq_iret rfl (dget dX4_faultOfCells 11 rfl) ⟨_, rfl, by simp [fcF, c_9, c_16, Int32.not_le.mp c_16], rfl⟩
  · refine tq_iload 0 (dget dX4_faultOfCells 6 rfl) rfl ?_
    exact tq_iret rfl (dget dX4_faultOfCells 7 rfl) ⟨_, rfl, by simp [fcF, c_9], rfl⟩
set_option maxHeartbeats 4000000 in
set_option maxRecDepth 20000 in
theorem c_readInto (σ : Mem) (k : Nat) (hk : k < 4) (a b : Nat) (hab : a + b ≤ 100) (d : Nat) (hd : 1 ≤ d) : PMet d mX4_readInto [.ref (34 + 2 * k), .ref 33, .int (nI a), .int (nI b)] σ (Pv (fun σ2 => σ2 = upR σ 33 (va_cpy (σ (35 + 2 * k)) (σ 33) a 0 b))) := by
  obtain ⟨d, rfl⟩ : ∃ e, d = e + 1 := ⟨d - 1, by omega⟩
  refine PMet.start (ls0 := [(0, .ref (34 + 2 * k)), (1, .ref 33), (2, .int (nI a)), (3, .int (nI b))]) miX4_readInto.1 (Nat.le_of_ble_eq_true rfl) rfl ?_
  refine tq_aload_n 0 (dget dX4_readInto 0 rfl) rfl rfl ?_
  refine tq_getR (dget dX4_readInto 1 rfl) fX4_9 (SH_sheet hk) rfl ?_
  refine tq_iload_n 2 (dget dX4_readInto 2 rfl) rfl rfl ?_
  refine tq_aload_n 1 (dget dX4_readInto 3 rfl) rfl rfl ?_
  refine tq_iconst (v := 0) (dget dX4_readInto 4 rfl) rfl ?_
  refine tq_iload_n 3 (dget dX4_readInto 5 rfl) rfl rfl ?_
  refine tq_copy (dget dX4_readInto 6 rfl) (tblG_1 235 rfl rfl) (tblG_1 237 rfl rfl) (tblG_1 236 rfl rfl) (tblG_1 9 rfl rfl) (SH_cells hk) rfl (nI_pos (by omega)) (by decide) (nI_pos (by omega)) (by rw [nI_clamp (by omega), nI_clamp (by omega)]; exact hab) (by rw [nI_clamp (by omega)]; show 0 + b ≤ 100; omega) (by show 1 ≤ d + 1; omega) (by show _ ≤ 40 * (d + 1); have h0 : 40 ≤ 40 * (d + 1) := (by omega); exact Nat.le_trans (Nat.le_of_ble_eq_true rfl) h0) ?_
  exact tq_vret rfl (dget dX4_readInto 7 rfl) ⟨rfl, by rw [nI_clamp (n := a) (by omega), nI_clamp (n := b) (by omega)]; rfl⟩
set_option maxHeartbeats 4000000 in
set_option maxRecDepth 20000 in
theorem c_write (σ : Mem) (k : Nat) (hk : k < 4) (a : Nat) (ha : a < 100) (v : Int32) (d : Nat) (hd : 0 ≤ d) : PMet d mX4_write [.ref (34 + 2 * k), .int (nI a), .int v] σ (Pv (fun σ2 => σ2 = up σ (35 + 2 * k) a (cutF (σ (34 + 2 * k) 2) v))) := by
  refine PMet.start (ls0 := [(0, .ref (34 + 2 * k)), (1, .int (nI a)), (2, .int v)]) miX4_write.1 (Nat.le_of_ble_eq_true rfl) rfl ?_
  refine tq_aload_n 0 (dget dX4_write 0 rfl) rfl rfl ?_
  refine tq_getI (dget dX4_write 1 rfl) fX4_25 (SH_sheet hk) rfl ?_
  by_cases s_4_0 : (σ (34 + 2 * k) 2) = 0
  · refine tq_lookup (tgt := 32) (off := 28) (dget dX4_write 2 rfl) (by decide) (by rw [s_4_0]; decide) (by decide) ?_
    refine tq_aload_n 0 (dget dX4_write 3 rfl) rfl rfl ?_
    refine tq_getR (dget dX4_write 4 rfl) fX4_9 (SH_sheet hk) rfl ?_
    refine tq_iload_n 1 (dget dX4_write 5 rfl) rfl rfl ?_
    refine tq_iload_n 2 (dget dX4_write 6 rfl) rfl rfl ?_
    refine tq_i2b (dget dX4_write 7 rfl) ?_
    refine tq_iastN a (dget dX4_write 8 rfl) (SH_cells hk) (by decide) rfl (by omega) ?_
    refine tq_goto (tgt := 61) (dget dX4_write 9 rfl) (by decide) ?_
    exact tq_vret rfl (dget dX4_write 22 rfl) ⟨rfl, by simp [cutF, s_4_0]⟩
  by_cases s_4_1 : (σ (34 + 2 * k) 2) = 1
  · refine tq_lookup (tgt := 43) (off := 39) (dget dX4_write 2 rfl) (by decide) (by rw [s_4_1]; decide) (by decide) ?_
    refine tq_aload_n 0 (dget dX4_write 10 rfl) rfl rfl ?_
    refine tq_getR (dget dX4_write 11 rfl) fX4_9 (SH_sheet hk) rfl ?_
    refine tq_iload_n 1 (dget dX4_write 12 rfl) rfl rfl ?_
    refine tq_iload_n 2 (dget dX4_write 13 rfl) rfl rfl ?_
    refine tq_i2s (dget dX4_write 14 rfl) ?_
    refine tq_iastN a (dget dX4_write 15 rfl) (SH_cells hk) (by decide) rfl (by omega) ?_
    refine tq_goto (tgt := 61) (dget dX4_write 16 rfl) (by decide) ?_
    exact tq_vret rfl (dget dX4_write 22 rfl) ⟨rfl, by simp [cutF, s_4_1, s_4_0]⟩
  refine tq_lookup (tgt := 54) (off := 50) (dget dX4_write 2 rfl) (by decide) ((lv_osw s_4_0 (by decide)).trans ((lv_osw s_4_1 (by decide)).trans (rfl))) (by decide) ?_
  refine tq_aload_n 0 (dget dX4_write 17 rfl) rfl rfl ?_
  refine tq_getR (dget dX4_write 18 rfl) fX4_9 (SH_sheet hk) rfl ?_
  refine tq_iload_n 1 (dget dX4_write 19 rfl) rfl rfl ?_
  refine tq_iload_n 2 (dget dX4_write 20 rfl) rfl rfl ?_
  refine tq_iastN a (dget dX4_write 21 rfl) (SH_cells hk) (by decide) rfl (by omega) ?_
  exact tq_vret rfl (dget dX4_write 22 rfl) ⟨rfl, by simp [cutF, s_4_0, s_4_1]⟩

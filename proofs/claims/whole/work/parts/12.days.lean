/-! ===== days, offers ===== -/
def isD (t : Nat) : Prop := SH t = some (.inr (.inr (0, [some (t + 1), some (t + 2), some (t + 3)]))) ∧ SH (t + 1) = some (.inl (.int, 4)) ∧ SH (t + 2) = some (.inl (.int, 4)) ∧ SH (t + 3) = some (.inl (.int, 6))
theorem isD_17 : isD 17 := ⟨rfl, rfl, rfl, rfl⟩
theorem isD_27 : isD 27 := ⟨rfl, rfl, rfl, rfl⟩
def begF (t : Nat) (σ : Mem) : Mem := fillR (fillR (fillR σ (t + 1) 4 0) (t + 2) 4 (-1)) (t + 3) 6 (-1)
def wedF (t : Nat) (σ : Mem) (s m : Nat) : Mem := up (up σ (t + 3) s (nI m)) (t + 2) m (nI s)
def partF (t : Nat) (σ : Mem) (s m : Nat) : Mem := up (up σ (t + 3) s (-1)) (t + 2) m (-1)
def freeP (t : Nat) (σ : Mem) (s m : Nat) : Prop := σ (t + 3) s = -1 ∧ σ (t + 2) m = -1
def ansD (t : Nat) (σ : Mem) (s m : Nat) : Int32 := ansF (σ 1 2) (σ 2 m) (σ (4 + m) s) (σ (t + 1) m)
def askV (t : Nat) (σ : Mem) (s m : Nat) : Int32 := if σ (t + 3) s = -1 ∧ σ (t + 2) m = -1 then ansD t σ s m else 0
def askM (t : Nat) (σ : Mem) (s m : Nat) : Mem := if σ (t + 3) s = -1 ∧ σ (t + 2) m = -1 then (if ansD t σ s m = 3 then up σ (t + 1) m (σ (t + 1) m + 1) else wedF t σ s m) else σ
def unaskM (t : Nat) (σ : Mem) (s m : Nat) (v : Int32) : Mem := if v = 3 then up σ (t + 1) m (σ (t + 1) m - 1) else if v = 0 then σ else partF t σ s m
def ownH (t : Nat) (σ : Mem) (s : Nat) : Int32 := if σ (t + 3) s = -1 then -1 else σ (9 + (σ (t + 3) s).toNatClampNeg) s
def ownS (t : Nat) (σ : Mem) (m : Nat) : Int32 := if σ (t + 2) m = -1 then -1 else σ (4 + m) (σ (t + 2) m).toNatClampNeg
def wbP (t : Nat) (σ : Mem) (s m : Nat) : Prop := ownH t σ s < σ (9 + m) s ∧ ownS t σ m < σ (4 + m) s
/-- who is wed is one of the valley's (of six, of four) -/
def wfD (t : Nat) (σ : Mem) : Prop := (∀ s, s < 6 → σ (t + 3) s = -1 ∨ ∃ b, b < 4 ∧ σ (t + 3) s = nI b) ∧ ∀ m, m < 4 → σ (t + 2) m = -1 ∨ ∃ h, h < 6 ∧ σ (t + 2) m = nI h
def brkP (t : Nat) (σ : Mem) (S M k : Nat) : Prop := ∃ m, m < M ∧ (S ≤ k ∨ ¬ σ (t + 2) m = -1) ∧ ∃ s, s < k ∧ wbP t σ s m
theorem cl_sub {x : Int32} {b n : Nat} (h : x = nI b) (hb : b < n) (hn : n < 2 ^ 31) : x.toNatClampNeg = b := clN h hb hn

set_option maxHeartbeats 4000000 in
set_option maxRecDepth 20000 in
theorem c_begin (t : Nat) (hT : isD t) (σ : Mem) (d : Nat) (hd : 1 ≤ d) : PMet d mX0_begin [.ref t] σ (Pv (fun σ2 => σ2 = begF t σ)) := by
  obtain ⟨d, rfl⟩ : ∃ e, d = e + 1 := ⟨d - 1, by omega⟩
  refine PMet.start (ls0 := [(0, .ref t)]) miX0_begin.1 (Nat.le_of_ble_eq_true rfl) rfl ?_
  refine tq_aload_n 0 (dget dX0_begin 0 rfl) rfl rfl ?_
  refine tq_getR (dget dX0_begin 1 rfl) fX0_9 hT.1 rfl ?_
  refine tq_iconst (v := 0) (dget dX0_begin 2 rfl) rfl ?_
  refine mq_Sv (As := [.ref (t + 1), .int 0]) (rest := []) (dget dX0_begin 3 rfl) lX0_21 miJ7_fill_53178 (c_fill σ (t + 1) _ 0 hT.2.1 (by decide) d (by omega)) rfl rfl (Nat.le_of_ble_eq_true rfl) (Nat.le_of_ble_eq_true rfl) (fun σ_5 h_5 => ?_)
  obtain rfl := Eq.symm h_5
  refine tq_aload_n 0 (dget dX0_begin 4 rfl) rfl rfl ?_
  refine tq_getR (dget dX0_begin 5 rfl) fX0_15 hT.1 rfl ?_
  refine tq_iconst (v := (-1)) (dget dX0_begin 6 rfl) rfl ?_
  refine mq_Sv (As := [.ref (t + 2), .int (-1)]) (rest := []) (dget dX0_begin 7 rfl) lX0_21 miJ7_fill_53178 (c_fill (fillR σ (t + 1) 4 0) (t + 2) _ (-1) hT.2.2.1 (by decide) d (by omega)) rfl rfl (Nat.le_of_ble_eq_true rfl) (Nat.le_of_ble_eq_true rfl) (fun σ_13 h_13 => ?_)
  obtain rfl := Eq.symm h_13
  refine tq_aload_n 0 (dget dX0_begin 8 rfl) rfl rfl ?_
  refine tq_getR (dget dX0_begin 9 rfl) fX0_18 hT.1 rfl ?_
  refine tq_iconst (v := (-1)) (dget dX0_begin 10 rfl) rfl ?_
  refine mq_Sv (As := [.ref (t + 3), .int (-1)]) (rest := []) (dget dX0_begin 11 rfl) lX0_21 miJ7_fill_53178 (c_fill (fillR (fillR σ (t + 1) 4 0) (t + 2) 4 (-1)) (t + 3) _ (-1) hT.2.2.2 (by decide) d (by omega)) rfl rfl (Nat.le_of_ble_eq_true rfl) (Nat.le_of_ble_eq_true rfl) (fun σ_21 h_21 => ?_)
  obtain rfl := Eq.symm h_21
  exact tq_vret rfl (dget dX0_begin 12 rfl) ⟨rfl, rfl⟩
set_option maxHeartbeats 4000000 in
set_option maxRecDepth 20000 in
theorem c_wed (t : Nat) (hT : isD t) (σ : Mem) (s m : Nat) (hs6 : s < 6) (hm4 : m < 4) (d : Nat) (hd : 0 ≤ d) : PMet d mX0_wed [.ref t, .int (nI s), .int (nI m)] σ (Pv (fun σ2 => σ2 = wedF t σ s m)) := by
  refine PMet.start (ls0 := [(0, .ref t), (1, .int (nI s)), (2, .int (nI m))]) miX0_wed.1 (Nat.le_of_ble_eq_true rfl) rfl ?_
  refine tq_aload_n 0 (dget dX0_wed 0 rfl) rfl rfl ?_
  refine tq_getR (dget dX0_wed 1 rfl) fX0_18 hT.1 rfl ?_
  refine tq_iload_n 1 (dget dX0_wed 2 rfl) rfl rfl ?_
  refine tq_iload_n 2 (dget dX0_wed 3 rfl) rfl rfl ?_
  refine tq_iastN s (dget dX0_wed 4 rfl) hT.2.2.2 (by decide) rfl (by omega) ?_
  refine tq_aload_n 0 (dget dX0_wed 5 rfl) rfl rfl ?_
  refine tq_getR (dget dX0_wed 6 rfl) fX0_15 hT.1 rfl ?_
  refine tq_iload_n 2 (dget dX0_wed 7 rfl) rfl rfl ?_
  refine tq_iload_n 1 (dget dX0_wed 8 rfl) rfl rfl ?_
  refine tq_iastN m (dget dX0_wed 9 rfl) hT.2.2.1 (by decide) rfl (by omega) ?_
  exact tq_vret rfl (dget dX0_wed 10 rfl) ⟨rfl, rfl⟩
set_option maxHeartbeats 4000000 in
set_option maxRecDepth 20000 in
theorem c_part (t : Nat) (hT : isD t) (σ : Mem) (s m : Nat) (hs6 : s < 6) (hm4 : m < 4) (d : Nat) (hd : 0 ≤ d) : PMet d mX0_part [.ref t, .int (nI s), .int (nI m)] σ (Pv (fun σ2 => σ2 = partF t σ s m)) := by
  refine PMet.start (ls0 := [(0, .ref t), (1, .int (nI s)), (2, .int (nI m))]) miX0_part.1 (Nat.le_of_ble_eq_true rfl) rfl ?_
  refine tq_aload_n 0 (dget dX0_part 0 rfl) rfl rfl ?_
  refine tq_getR (dget dX0_part 1 rfl) fX0_18 hT.1 rfl ?_
  refine tq_iload_n 1 (dget dX0_part 2 rfl) rfl rfl ?_
  refine tq_iconst (v := (-1)) (dget dX0_part 3 rfl) rfl ?_
  refine tq_iastN s (dget dX0_part 4 rfl) hT.2.2.2 (by decide) rfl (by omega) ?_
  refine tq_aload_n 0 (dget dX0_part 5 rfl) rfl rfl ?_
  refine tq_getR (dget dX0_part 6 rfl) fX0_15 hT.1 rfl ?_
  refine tq_iload_n 2 (dget dX0_part 7 rfl) rfl rfl ?_
  refine tq_iconst (v := (-1)) (dget dX0_part 8 rfl) rfl ?_
  refine tq_iastN m (dget dX0_part 9 rfl) hT.2.2.1 (by decide) rfl (by omega) ?_
  exact tq_vret rfl (dget dX0_part 10 rfl) ⟨rfl, rfl⟩
set_option maxHeartbeats 4000000 in
set_option maxRecDepth 20000 in
theorem c_ask (t : Nat) (hT : isD t) (σ : Mem) (s m : Nat) (hs6 : s < 6) (hm4 : m < 4) (d : Nat) (hd : 2 ≤ d) : PMet d mX0_ask [.ref t, .ref 1, .int (nI s), .int (nI m)] σ (Pi (fun v σ2 => v = askV t σ s m ∧ σ2 = askM t σ s m)) := by
  obtain ⟨d, rfl⟩ : ∃ e, d = e + 1 := ⟨d - 1, by omega⟩
  refine PMet.start (ls0 := [(0, .ref t), (1, .ref 1), (2, .int (nI s)), (3, .int (nI m))]) miX0_ask.1 (Nat.le_of_ble_eq_true rfl) rfl ?_
  refine tq_aload_n 0 (dget dX0_ask 0 rfl) rfl rfl ?_
  refine tq_getR (dget dX0_ask 1 rfl) fX0_18 hT.1 rfl ?_
  refine tq_iload_n 2 (dget dX0_ask 2 rfl) rfl rfl ?_
  refine tq_ialdN s (dget dX0_ask 3 rfl) hT.2.2.2 (by decide) rfl (by omega) ?_
  refine tq_iconst (v := (-1)) (dget dX0_ask 4 rfl) rfl ?_
  refine tq_icmp_ne (tgt := 20) (dget dX0_ask 5 rfl) (by decide) (fun c_7 => ?_) (fun c_7 => ?_)
  · refine tq_iconst (v := 0) (dget dX0_ask 12 rfl) rfl ?_
    exact tq_iret rfl (dget dX0_ask 13 rfl) (by have f9 : ¬ (σ (t + 3) s = -1 ∧ σ (t + 2) m = -1) := fun q => c_7 q.1; exact ⟨_, rfl, (if_neg f9).symm, (if_neg f9).symm⟩)
  · refine tq_aload_n 0 (dget dX0_ask 6 rfl) rfl rfl ?_
    refine tq_getR (dget dX0_ask 7 rfl) fX0_15 hT.1 rfl ?_
    refine tq_iload_n 3 (dget dX0_ask 8 rfl) rfl rfl ?_
    refine tq_ialdN m (dget dX0_ask 9 rfl) hT.2.2.1 (by decide) rfl (by omega) ?_
    refine tq_iconst (v := (-1)) (dget dX0_ask 10 rfl) rfl ?_
    refine tq_icmp_eq (tgt := 22) (dget dX0_ask 11 rfl) (by decide) (fun c_17 => ?_) (fun c_17 => ?_)
    · refine tq_aload_n 1 (dget dX0_ask 14 rfl) rfl rfl ?_
      refine tq_iload_n 3 (dget dX0_ask 15 rfl) rfl rfl ?_
      refine tq_iload_n 2 (dget dX0_ask 16 rfl) rfl rfl ?_
      refine tq_aload_n 0 (dget dX0_ask 17 rfl) rfl rfl ?_
      refine tq_getR (dget dX0_ask 18 rfl) fX0_9 hT.1 rfl ?_
      refine tq_iload_n 3 (dget dX0_ask 19 rfl) rfl rfl ?_
      refine tq_ialdN m (dget dX0_ask 20 rfl) hT.2.1 (by decide) rfl (by omega) ?_
      refine mq_Vi (As := [.int (nI m), .int (nI s), .int (σ (t + 1) m)]) (rest := []) (dget dX0_ask 21 rfl) lX0_27 miX6_answer (c_answer σ m s (σ (t + 1) m) d (by omega) (by omega) (by omega)) rfl rfl rfl rfl (Nat.le_of_ble_eq_true rfl) (Nat.le_of_ble_eq_true rfl) (fun r_31 σ_31 h_31 => ?_)
      obtain ⟨a_31, e_31⟩ := h_31
      obtain rfl := a_31.symm
      obtain rfl := e_31.symm
      refine tq_istore (ls2 := [(4, .int (ansF (σ 1 2) (σ 2 m) (σ (4 + m) s) (σ (t + 1) m))), (0, .ref t), (1, .ref 1), (2, .int (nI s)), (3, .int (nI m))]) (dget dX0_ask 22 rfl) (by decide) rfl ?_
      refine tq_iload 0 (dget dX0_ask 23 rfl) rfl ?_
      refine tq_iconst (v := 3) (dget dX0_ask 24 rfl) rfl ?_
      refine tq_icmp_ne (tgt := 55) (dget dX0_ask 25 rfl) (by decide) (fun c_39 => ?_) (fun c_39 => ?_)
      · refine tq_aload_n 1 (dget dX0_ask 35 rfl) rfl rfl ?_
        refine tq_iload_n 3 (dget dX0_ask 36 rfl) rfl rfl ?_
        refine tq_iload_n 4 (dget dX0_ask 37 rfl) rfl rfl ?_
        refine mq_Vv (As := [.int (nI s), .int (nI m)]) (rest := []) (dget dX0_ask 38 rfl) lX0_33 miX0_wed (c_wed t hT σ s m (by omega) (by omega) d (by omega)) hT.1 rfl rfl rfl (Nat.le_of_ble_eq_true rfl) (Nat.le_of_ble_eq_true rfl) (fun σ_58 h_58 => ?_)
        obtain rfl := Eq.symm h_58
        refine tq_iload 0 (dget dX0_ask 39 rfl) rfl ?_
        exact tq_iret rfl (dget dX0_ask 40 rfl) (by have f9 : σ (t + 3) s = -1 ∧ σ (t + 2) m = -1 := ⟨c_7, c_17⟩; exact ⟨_, rfl, (if_pos f9).symm, ((if_pos f9).trans (if_neg c_39)).symm⟩)
      · refine tq_aload_n 1 (dget dX0_ask 26 rfl) rfl rfl ?_
        refine tq_getR (dget dX0_ask 27 rfl) fX0_9 hT.1 rfl ?_
        refine tq_iload_n 4 (dget dX0_ask 28 rfl) rfl rfl ?_
        refine tq_dup2 (dget dX0_ask 29 rfl) rfl rfl ?_
        refine tq_ialdN m (dget dX0_ask 30 rfl) hT.2.1 (by decide) rfl (by omega) ?_
        refine tq_iconst (v := 1) (dget dX0_ask 31 rfl) rfl ?_
        refine tq_iadd (dget dX0_ask 32 rfl) ?_
        refine tq_iastN m (dget dX0_ask 33 rfl) hT.2.1 (by decide) rfl (by omega) ?_
        refine tq_goto (tgt := 61) (dget dX0_ask 34 rfl) (by decide) ?_
        refine tq_iload 0 (dget dX0_ask 39 rfl) rfl ?_
        exact tq_iret rfl (dget dX0_ask 40 rfl) (by have f9 : σ (t + 3) s = -1 ∧ σ (t + 2) m = -1 := ⟨c_7, c_17⟩; exact ⟨_, rfl, (if_pos f9).symm, ((if_pos f9).trans (if_pos c_39)).symm⟩)
    · refine tq_iconst (v := 0) (dget dX0_ask 12 rfl) rfl ?_
      exact tq_iret rfl (dget dX0_ask 13 rfl) (by have f9 : ¬ (σ (t + 3) s = -1 ∧ σ (t + 2) m = -1) := fun q => c_17 q.2; exact ⟨_, rfl, (if_neg f9).symm, (if_neg f9).symm⟩)
set_option maxHeartbeats 4000000 in
set_option maxRecDepth 20000 in
theorem c_unask (t : Nat) (hT : isD t) (σ : Mem) (s m : Nat) (hs6 : s < 6) (hm4 : m < 4) (v : Int32) (d : Nat) (hd : 1 ≤ d) : PMet d mX0_unask [.ref t, .int (nI s), .int (nI m), .int v] σ (Pv (fun σ2 => σ2 = unaskM t σ s m v)) := by
  obtain ⟨d, rfl⟩ : ∃ e, d = e + 1 := ⟨d - 1, by omega⟩
  refine PMet.start (ls0 := [(0, .ref t), (1, .int (nI s)), (2, .int (nI m)), (3, .int v)]) miX0_unask.1 (Nat.le_of_ble_eq_true rfl) rfl ?_
  refine tq_iload_n 3 (dget dX0_unask 0 rfl) rfl rfl ?_
  refine tq_iconst (v := 3) (dget dX0_unask 1 rfl) rfl ?_
  refine tq_icmp_ne (tgt := 18) (dget dX0_unask 2 rfl) (by decide) (fun c_2 => ?_) (fun c_2 => ?_)
  · refine tq_iload_n 3 (dget dX0_unask 12 rfl) rfl rfl ?_
    refine tq_if_eq (tgt := 28) (dget dX0_unask 13 rfl) (by decide) (fun c_19 => ?_) (fun c_19 => ?_)
    · exact tq_vret rfl (dget dX0_unask 18 rfl) ⟨rfl, ((if_neg c_2).trans (if_pos c_19)).symm⟩
    · refine tq_aload_n 0 (dget dX0_unask 14 rfl) rfl rfl ?_
      refine tq_iload_n 1 (dget dX0_unask 15 rfl) rfl rfl ?_
      refine tq_iload_n 2 (dget dX0_unask 16 rfl) rfl rfl ?_
      refine mq_Vv (As := [.int (nI s), .int (nI m)]) (rest := []) (dget dX0_unask 17 rfl) lX0_37 miX0_part (c_part t hT σ s m (by omega) (by omega) d (by omega)) hT.1 rfl rfl rfl (Nat.le_of_ble_eq_true rfl) (Nat.le_of_ble_eq_true rfl) (fun σ_25 h_25 => ?_)
      obtain rfl := Eq.symm h_25
      exact tq_vret rfl (dget dX0_unask 18 rfl) ⟨rfl, ((if_neg c_2).trans (if_neg c_19)).symm⟩
  · refine tq_aload_n 0 (dget dX0_unask 3 rfl) rfl rfl ?_
    refine tq_getR (dget dX0_unask 4 rfl) fX0_9 hT.1 rfl ?_
    refine tq_iload_n 2 (dget dX0_unask 5 rfl) rfl rfl ?_
    refine tq_dup2 (dget dX0_unask 6 rfl) rfl rfl ?_
    refine tq_ialdN m (dget dX0_unask 7 rfl) hT.2.1 (by decide) rfl (by omega) ?_
    refine tq_iconst (v := 1) (dget dX0_unask 8 rfl) rfl ?_
    refine tq_isub (dget dX0_unask 9 rfl) ?_
    refine tq_iastN m (dget dX0_unask 10 rfl) hT.2.1 (by decide) rfl (by omega) ?_
    refine tq_goto (tgt := 28) (dget dX0_unask 11 rfl) (by decide) ?_
    exact tq_vret rfl (dget dX0_unask 18 rfl) ⟨rfl, (if_pos c_2).symm⟩
set_option maxHeartbeats 4000000 in
set_option maxRecDepth 20000 in
theorem c_wouldBreak (t : Nat) (hT : isD t) (σ : Mem) (s m : Nat) (hs6 : s < 6) (hm4 : m < 4) (hW : wfD t σ) (d : Nat) (hd : 0 ≤ d) : PMet d mX0_wouldBreak [.ref t, .ref 1, .int (nI s), .int (nI m)] σ (Pi (fun v σ2 => BP (wbP t σ s m) v ∧ σ2 = σ)) := by
  refine PMet.start (ls0 := [(0, .ref t), (1, .ref 1), (2, .int (nI s)), (3, .int (nI m))]) miX0_wouldBreak.1 (Nat.le_of_ble_eq_true rfl) rfl ?_
  have J27 : ∀ X1 : Int32, X1 = ownH t σ s → PAt (EM (d) (Pi (fun v σ2 => BP (wbP t σ s m) v ∧ σ2 = σ))) mX0_wouldBreak 27 [(0, .ref t), (1, .ref 1), (2, .int (nI s)), (3, .int (nI m))] [.int X1] σ := by
    intro X1 eX1
    refine tq_istore (ls2 := [(4, .int X1), (0, .ref t), (1, .ref 1), (2, .int (nI s)), (3, .int (nI m))]) (dget dX0_wouldBreak 17 rfl) (by decide) rfl ?_
    have J56 : ∀ X2 : Int32, X2 = ownS t σ m → PAt (EM (d) (Pi (fun v σ2 => BP (wbP t σ s m) v ∧ σ2 = σ))) mX0_wouldBreak 56 [(4, .int X1), (0, .ref t), (1, .ref 1), (2, .int (nI s)), (3, .int (nI m))] [.int X2] σ := by
      intro X2 eX2
      refine tq_istore (ls2 := [(5, .int X2), (4, .int X1), (0, .ref t), (1, .ref 1), (2, .int (nI s)), (3, .int (nI m))]) (dget dX0_wouldBreak 35 rfl) (by decide) rfl ?_
      refine tq_aload_n 3 (dget dX0_wouldBreak 36 rfl) rfl rfl ?_
      refine tq_getR (dget dX0_wouldBreak 37 rfl) fX0_51 rfl rfl ?_
      refine tq_iload_n 5 (dget dX0_wouldBreak 38 rfl) rfl rfl ?_
      refine tq_his m (dget dX0_wouldBreak 39 rfl) rfl (by omega) ?_
      refine tq_iload_n 4 (dget dX0_wouldBreak 40 rfl) rfl rfl ?_
      refine tq_ialdN s (dget dX0_wouldBreak 41 rfl) (SH_his (by omega)) (by decide) rfl (by omega) ?_
      refine tq_iload 1 (dget dX0_wouldBreak 42 rfl) rfl ?_
      refine tq_icmp_le (tgt := 88) (dget dX0_wouldBreak 43 rfl) (by decide) (fun c_68 => ?_) (fun c_68 => ?_)
      · refine tq_iconst (v := 0) (dget dX0_wouldBreak 54 rfl) rfl ?_
        exact tq_zret rfl rfl (dget dX0_wouldBreak 55 rfl) ⟨_, rfl, BP.n (fun q => by exact absurd q.1 (by rw [← eX1]; exact Int32.not_lt.mpr c_68)), rfl⟩
      · refine tq_aload_n 3 (dget dX0_wouldBreak 44 rfl) rfl rfl ?_
        refine tq_getR (dget dX0_wouldBreak 45 rfl) fX0_55 rfl rfl ?_
        refine tq_iload_n 5 (dget dX0_wouldBreak 46 rfl) rfl rfl ?_
        refine tq_hers m (dget dX0_wouldBreak 47 rfl) rfl (by omega) ?_
        refine tq_iload_n 4 (dget dX0_wouldBreak 48 rfl) rfl rfl ?_
        refine tq_ialdN s (dget dX0_wouldBreak 49 rfl) (SH_hers (by omega)) (by decide) rfl (by omega) ?_
        refine tq_iload 0 (dget dX0_wouldBreak 50 rfl) rfl ?_
        refine tq_icmp_le (tgt := 88) (dget dX0_wouldBreak 51 rfl) (by decide) (fun c_81 => ?_) (fun c_81 => ?_)
        · refine tq_iconst (v := 0) (dget dX0_wouldBreak 54 rfl) rfl ?_
          exact tq_zret rfl rfl (dget dX0_wouldBreak 55 rfl) ⟨_, rfl, BP.n (fun q => by exact absurd q.2 (by rw [← eX2]; exact Int32.not_lt.mpr c_81)), rfl⟩
        · refine tq_iconst (v := 1) (dget dX0_wouldBreak 52 rfl) rfl ?_
          refine tq_goto (tgt := 89) (dget dX0_wouldBreak 53 rfl) (by decide) ?_
          exact tq_zret rfl rfl (dget dX0_wouldBreak 55 rfl) ⟨_, rfl, BP.y ⟨by rw [← eX1]; exact Int32.not_le.mp c_68, by rw [← eX2]; exact Int32.not_le.mp c_81⟩, rfl⟩
    refine tq_aload_n 1 (dget dX0_wouldBreak 18 rfl) rfl rfl ?_
    refine tq_getR (dget dX0_wouldBreak 19 rfl) fX0_15 hT.1 rfl ?_
    refine tq_iload_n 4 (dget dX0_wouldBreak 20 rfl) rfl rfl ?_
    refine tq_ialdN m (dget dX0_wouldBreak 21 rfl) hT.2.2.1 (by decide) rfl (by omega) ?_
    refine tq_iconst (v := (-1)) (dget dX0_wouldBreak 22 rfl) rfl ?_
    refine tq_icmp_ne (tgt := 43) (dget dX0_wouldBreak 23 rfl) (by decide) (fun c_36 => ?_) (fun c_36 => ?_)
    · obtain ⟨q, g_36⟩ := (hW.2 m hm4).resolve_left c_36
      refine tq_aload_n 2 (dget dX0_wouldBreak 26 rfl) rfl rfl ?_
      refine tq_getR (dget dX0_wouldBreak 27 rfl) fX0_55 rfl rfl ?_
      refine tq_iload_n 4 (dget dX0_wouldBreak 28 rfl) rfl rfl ?_
      refine tq_hers m (dget dX0_wouldBreak 29 rfl) rfl (by omega) ?_
      refine tq_aload_n 1 (dget dX0_wouldBreak 30 rfl) rfl rfl ?_
      refine tq_getR (dget dX0_wouldBreak 31 rfl) fX0_15 hT.1 rfl ?_
      refine tq_iload_n 4 (dget dX0_wouldBreak 32 rfl) rfl rfl ?_
      refine tq_ialdN m (dget dX0_wouldBreak 33 rfl) hT.2.2.1 (by decide) rfl (by omega) ?_
      refine tq_ialdN q (dget dX0_wouldBreak 34 rfl) (SH_hers (by omega)) (by decide) g_36.2 g_36.1 ?_
      exact J56 _ (by unfold ownS; rw [if_neg c_36, cl_sub g_36.2 g_36.1 (by decide)])
    · refine tq_iconst (v := (-1)) (dget dX0_wouldBreak 24 rfl) rfl ?_
      refine tq_goto (tgt := 56) (dget dX0_wouldBreak 25 rfl) (by decide) ?_
      exact J56 _ (by unfold ownS; rw [if_pos c_36])
  refine tq_aload_n 0 (dget dX0_wouldBreak 0 rfl) rfl rfl ?_
  refine tq_getR (dget dX0_wouldBreak 1 rfl) fX0_18 hT.1 rfl ?_
  refine tq_iload_n 2 (dget dX0_wouldBreak 2 rfl) rfl rfl ?_
  refine tq_ialdN s (dget dX0_wouldBreak 3 rfl) hT.2.2.2 (by decide) rfl (by omega) ?_
  refine tq_iconst (v := (-1)) (dget dX0_wouldBreak 4 rfl) rfl ?_
  refine tq_icmp_ne (tgt := 14) (dget dX0_wouldBreak 5 rfl) (by decide) (fun c_7 => ?_) (fun c_7 => ?_)
  · obtain ⟨b, g_7⟩ := (hW.1 s hs6).resolve_left c_7
    refine tq_aload_n 1 (dget dX0_wouldBreak 8 rfl) rfl rfl ?_
    refine tq_getR (dget dX0_wouldBreak 9 rfl) fX0_51 rfl rfl ?_
    refine tq_aload_n 0 (dget dX0_wouldBreak 10 rfl) rfl rfl ?_
    refine tq_getR (dget dX0_wouldBreak 11 rfl) fX0_18 hT.1 rfl ?_
    refine tq_iload_n 2 (dget dX0_wouldBreak 12 rfl) rfl rfl ?_
    refine tq_ialdN s (dget dX0_wouldBreak 13 rfl) hT.2.2.2 (by decide) rfl (by omega) ?_
    refine tq_his b (dget dX0_wouldBreak 14 rfl) g_7.2 g_7.1 ?_
    refine tq_iload_n 2 (dget dX0_wouldBreak 15 rfl) rfl rfl ?_
    refine tq_ialdN s (dget dX0_wouldBreak 16 rfl) (SH_his g_7.1) (by decide) rfl (by omega) ?_
    exact J27 _ (by unfold ownH; rw [if_neg c_7, cl_sub g_7.2 g_7.1 (by decide)])
  · refine tq_iconst (v := (-1)) (dget dX0_wouldBreak 6 rfl) rfl ?_
    refine tq_goto (tgt := 27) (dget dX0_wouldBreak 7 rfl) (by decide) ?_
    exact J27 _ (by unfold ownH; rw [if_pos c_7])

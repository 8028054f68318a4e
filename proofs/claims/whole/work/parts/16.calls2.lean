/-! ===== the class's public calls (2): the valley, offers ===== -/
noncomputable def likesF (σ : Mem) (x y z : Int32) : Int32 := cnd (hM σ x) (cnd (hS σ y) (cnd (z = 0) (σ (4 + cl x) (cl y)) (cnd (z = 1) (σ (9 + cl x) (cl y)) (-2))) (-1)) (-1)
theorem likesF_ok {σ : Mem} {x y z : Int32} (h : ¬ likesF σ x y z < 0) : hM σ x ∧ hS σ y ∧ (z = 0 ∨ z = 1) := by
  unfold likesF at h
  by_cases h1 : hM σ x
  · rw [cnd_t h1] at h
    by_cases h2 : hS σ y
    · rw [cnd_t h2] at h
      by_cases h3 : z = 0
      · exact ⟨h1, h2, Or.inl h3⟩
      · rw [cnd_f h3] at h
        by_cases h4 : z = 1
        · exact ⟨h1, h2, Or.inr h4⟩
        · rw [cnd_f h4] at h
          exact absurd (by decide) h
    · rw [cnd_f h2] at h
      exact absurd (by decide) h
  · rw [cnd_f h1] at h
    exact absurd (by decide) h
def goX (σ : Mem) (C : Nat) (so mo : Nat → Nat) : Mem := goF σ so mo C
theorem OF_up {σ : Mem} {C i k : Nat} {v : Int32} {so mo : Nat → Nat} (h : OF σ C so mo) (h1 : i ≠ 13) (h2 : i ≠ 14) (h3 : i ≠ 15) : OF (up σ i k v) C so mo := OF_rows h (up_row (Ne.symm h1)) (up_row (Ne.symm h2)) (up_row (Ne.symm h3))

set_option maxHeartbeats 4000000 in
set_option maxRecDepth 20000 in
theorem c_like (σ : Mem) (S M C : Nat) (so mo : Nat → Nat) (hV : VA σ S M) (hO : OF σ C so mo) (x y z v : Int32) (d : Nat) (hd : 4 ≤ d) : PMet d mX7_like [.ref 0, .int x, .int y, .int z, .int v] σ (Pi (fun r σ2 => r = cnd (likesF σ x y z < 0) (likesF σ x y z) (cnd (0 ≤ v ∧ v ≤ 9) (likesF σ x y z) (-2)) ∧ σ2 = cnd (likesF σ x y z < 0) σ (cnd (0 ≤ v ∧ v ≤ 9) (goF (up σ (cnd (z = 0) (4 + cl x) (9 + cl x)) (cl y) v) so mo C) σ))) := by
  obtain ⟨d, rfl⟩ : ∃ e, d = e + 1 := ⟨d - 1, by omega⟩
  refine PMet.start (ls0 := [(0, .ref 0), (1, .int x), (2, .int y), (3, .int z), (4, .int v)]) miX7_like.1 (Nat.le_of_ble_eq_true rfl) rfl ?_
  refine tq_aload_n 0 (dget dX7_like 0 rfl) rfl rfl ?_
  refine tq_iload_n 1 (dget dX7_like 1 rfl) rfl rfl ?_
  refine tq_iload_n 2 (dget dX7_like 2 rfl) rfl rfl ?_
  refine tq_iload_n 3 (dget dX7_like 3 rfl) rfl rfl ?_
  refine mq_Vi (As := [.int x, .int y, .int z]) (rest := []) (dget dX7_like 4 rfl) lX7_102 miX7_likes (c_likes σ S M hV x y z d (by omega)) rfl rfl rfl rfl (Nat.le_of_ble_eq_true rfl) (Nat.le_of_ble_eq_true rfl) (fun r_4 σ_4 h_4 => ?_)
  obtain ⟨a_4, e_4⟩ := h_4
  obtain rfl := a_4.symm
  obtain rfl := e_4.symm
  rw [show cnd (hM σ x) (cnd (hS σ y) (cnd (z = 0) (σ (4 + cl x) (cl y)) (cnd (z = 1) (σ (9 + cl x) (cl y)) (-2))) (-1)) (-1) = likesF σ x y z from rfl]
  refine tq_istore (ls2 := [(5, .int (likesF σ x y z)), (0, .ref 0), (1, .int x), (2, .int y), (3, .int z), (4, .int v)]) (dget dX7_like 5 rfl) (by decide) rfl ?_
  refine tq_iload 0 (dget dX7_like 6 rfl) rfl ?_
  refine tq_if_ge (tgt := 17) (dget dX7_like 7 rfl) (by decide) (fun c_11 => ?_) (fun c_11 => ?_)
  · have g_11 := likesF_ok (Int32.not_lt.mpr c_11)
    refine tq_iload 5 (dget dX7_like 10 rfl) rfl ?_
    refine tq_if_lt (tgt := 29) (dget dX7_like 11 rfl) (by decide) (fun c_19 => ?_) (fun c_19 => ?_)
    · refine tq_bipush (v := (-2)) (dget dX7_like 15 rfl) rfl ?_
      exact tq_iret rfl (dget dX7_like 16 rfl) ⟨_, rfl, by simp only [cnd_f (P := likesF σ x y z < 0) (Int32.not_lt.mpr c_11), cnd_f (P := 0 ≤ v ∧ v ≤ 9) (fun q => by first | exact absurd q.1 (Int32.not_le.mpr c_19) | exact c_26 q.2)], by simp only [cnd_f (P := likesF σ x y z < 0) (Int32.not_lt.mpr c_11), cnd_f (P := 0 ≤ v ∧ v ≤ 9) (fun q => by first | exact absurd q.1 (Int32.not_le.mpr c_19) | exact c_26 q.2)]⟩
    · refine tq_iload 5 (dget dX7_like 12 rfl) rfl ?_
      refine tq_bipush (v := 9) (dget dX7_like 13 rfl) rfl ?_
      refine tq_icmp_le (tgt := 32) (dget dX7_like 14 rfl) (by decide) (fun c_26 => ?_) (fun c_26 => ?_)
      · obtain ⟨m, e_m, hm, hm4⟩ := hM_n hV g_11.1
        subst e_m
        obtain ⟨s, e_s, hs, hs6⟩ := hS_n hV g_11.2.1
        subst e_s
        rcases g_11.2.2 with rfl | rfl
        · refine tq_aload_n 1 (dget dX7_like 17 rfl) rfl rfl ?_
          refine tq_iload_n 4 (dget dX7_like 18 rfl) rfl rfl ?_
          refine mq_Va (As := [.int 0]) (rest := []) (dget dX7_like 19 rfl) lX7_98 miX7_likings (c_likings0 σ 0 rfl d (by omega)) rfl rfl rfl rfl (Nat.le_of_ble_eq_true rfl) (Nat.le_of_ble_eq_true rfl) (fun r_34 σ_34 h_34 => ?_)
          obtain ⟨a_34, e_34⟩ := h_34
          obtain rfl := a_34.symm
          obtain rfl := e_34.symm
          refine tq_iload_n 2 (dget dX7_like 20 rfl) rfl rfl ?_
          refine tq_hers m (dget dX7_like 21 rfl) rfl (by omega) ?_
          refine tq_iload_n 3 (dget dX7_like 22 rfl) rfl rfl ?_
          refine tq_iload 5 (dget dX7_like 23 rfl) rfl ?_
          refine tq_iastN s (dget dX7_like 24 rfl) (SH_hers (by omega)) (by decide) rfl (by omega) ?_
          refine tq_aload_n 1 (dget dX7_like 25 rfl) rfl rfl ?_
          refine tq_getR (dget dX7_like 26 rfl) fX7_21 rfl rfl ?_
          refine tq_aload_n 1 (dget dX7_like 27 rfl) rfl rfl ?_
          refine tq_getR (dget dX7_like 28 rfl) fX7_12 rfl rfl ?_
          refine mq_Vv (As := [.ref 1]) (rest := []) (dget dX7_like 29 rfl) lX7_105 miX2_goThrough (c_goThrough (up σ (4 + m) s v) C so mo (OF_up hO (by omega) (by omega) (by omega)).1 (OF_up (i := 4 + m) (k := s) (v := v) hO (by omega) (by omega) (by omega)).2.1 (OF_up hO (by omega) (by omega) (by omega)).2.2 d (by omega)) rfl rfl rfl rfl (Nat.le_of_ble_eq_true rfl) (Nat.le_of_ble_eq_true rfl) (fun σ_51 h_51 => ?_)
          obtain rfl := Eq.symm h_51
          refine tq_iload 0 (dget dX7_like 30 rfl) rfl ?_
          exact tq_iret rfl (dget dX7_like 31 rfl) ⟨_, rfl, by simp only [cnd_f (P := likesF σ (nI m) (nI s) 0 < 0) (Int32.not_lt.mpr c_11), cnd_t (P := 0 ≤ v ∧ v ≤ 9) ⟨Int32.not_lt.mp c_19, c_26⟩], by simp only [cnd_f (P := likesF σ (nI m) (nI s) 0 < 0) (Int32.not_lt.mpr c_11), cnd_t (P := 0 ≤ v ∧ v ≤ 9) ⟨Int32.not_lt.mp c_19, c_26⟩, cnd_t (P := True) trivial, nI_clamp (show m < 2 ^ 31 by omega), nI_clamp (show s < 2 ^ 31 by omega)]⟩
        · refine tq_aload_n 1 (dget dX7_like 17 rfl) rfl rfl ?_
          refine tq_iload_n 4 (dget dX7_like 18 rfl) rfl rfl ?_
          refine mq_Va (As := [.int 1]) (rest := []) (dget dX7_like 19 rfl) lX7_98 miX7_likings (c_likings1 σ 1 (by decide) d (by omega)) rfl rfl rfl rfl (Nat.le_of_ble_eq_true rfl) (Nat.le_of_ble_eq_true rfl) (fun r_34 σ_34 h_34 => ?_)
          obtain ⟨a_34, e_34⟩ := h_34
          obtain rfl := a_34.symm
          obtain rfl := e_34.symm
          refine tq_iload_n 2 (dget dX7_like 20 rfl) rfl rfl ?_
          refine tq_his m (dget dX7_like 21 rfl) rfl (by omega) ?_
          refine tq_iload_n 3 (dget dX7_like 22 rfl) rfl rfl ?_
          refine tq_iload 5 (dget dX7_like 23 rfl) rfl ?_
          refine tq_iastN s (dget dX7_like 24 rfl) (SH_his (by omega)) (by decide) rfl (by omega) ?_
          refine tq_aload_n 1 (dget dX7_like 25 rfl) rfl rfl ?_
          refine tq_getR (dget dX7_like 26 rfl) fX7_21 rfl rfl ?_
          refine tq_aload_n 1 (dget dX7_like 27 rfl) rfl rfl ?_
          refine tq_getR (dget dX7_like 28 rfl) fX7_12 rfl rfl ?_
          refine mq_Vv (As := [.ref 1]) (rest := []) (dget dX7_like 29 rfl) lX7_105 miX2_goThrough (c_goThrough (up σ (9 + m) s v) C so mo (OF_up hO (by omega) (by omega) (by omega)).1 (OF_up (i := 9 + m) (k := s) (v := v) hO (by omega) (by omega) (by omega)).2.1 (OF_up hO (by omega) (by omega) (by omega)).2.2 d (by omega)) rfl rfl rfl rfl (Nat.le_of_ble_eq_true rfl) (Nat.le_of_ble_eq_true rfl) (fun σ_51 h_51 => ?_)
          obtain rfl := Eq.symm h_51
          refine tq_iload 0 (dget dX7_like 30 rfl) rfl ?_
          exact tq_iret rfl (dget dX7_like 31 rfl) ⟨_, rfl, by simp only [cnd_f (P := likesF σ (nI m) (nI s) 1 < 0) (Int32.not_lt.mpr c_11), cnd_t (P := 0 ≤ v ∧ v ≤ 9) ⟨Int32.not_lt.mp c_19, c_26⟩], by simp only [cnd_f (P := likesF σ (nI m) (nI s) 1 < 0) (Int32.not_lt.mpr c_11), cnd_t (P := 0 ≤ v ∧ v ≤ 9) ⟨Int32.not_lt.mp c_19, c_26⟩, cnd_f (P := (1 : Int32) = 0) (by decide), nI_clamp (show m < 2 ^ 31 by omega), nI_clamp (show s < 2 ^ 31 by omega)]⟩
      · refine tq_bipush (v := (-2)) (dget dX7_like 15 rfl) rfl ?_
        exact tq_iret rfl (dget dX7_like 16 rfl) ⟨_, rfl, by simp only [cnd_f (P := likesF σ x y z < 0) (Int32.not_lt.mpr c_11), cnd_f (P := 0 ≤ v ∧ v ≤ 9) (fun q => by first | exact absurd q.1 (Int32.not_le.mpr c_19) | exact c_26 q.2)], by simp only [cnd_f (P := likesF σ x y z < 0) (Int32.not_lt.mpr c_11), cnd_f (P := 0 ≤ v ∧ v ≤ 9) (fun q => by first | exact absurd q.1 (Int32.not_le.mpr c_19) | exact c_26 q.2)]⟩
  · refine tq_iload 0 (dget dX7_like 8 rfl) rfl ?_
    exact tq_iret rfl (dget dX7_like 9 rfl) ⟨_, rfl, by simp only [cnd_t (P := likesF σ x y z < 0) (Int32.not_le.mp c_11)], by simp only [cnd_t (P := likesF σ x y z < 0) (Int32.not_le.mp c_11)]⟩
theorem tab_no0 {z : Int32} {hi : Int} (h : z.toInt < 0 ∨ hi < z.toInt) (hh : 0 ≤ hi := by decide) : ¬ z = 0 := by
  intro e
  have h2 : ((0 : Int32).toInt) = 0 := by decide
  rw [e, h2] at h
  omega
theorem tab_no1 {z : Int32} {hi : Int} (h : z.toInt < 0 ∨ hi < z.toInt) (hh : 1 ≤ hi := by decide) : ¬ z = 1 := by
  intro e
  have h2 : ((1 : Int32).toInt) = 1 := by decide
  rw [e, h2] at h
  omega
theorem tab_no2 {z : Int32} {hi : Int} (h : z.toInt < 0 ∨ hi < z.toInt) (hh : 2 ≤ hi := by decide) : ¬ z = 2 := by
  intro e
  have h2 : ((2 : Int32).toInt) = 2 := by decide
  rw [e, h2] at h
  omega
theorem tab_no3 {z : Int32} {hi : Int} (h : z.toInt < 0 ∨ hi < z.toInt) (hh : 3 ≤ hi := by decide) : ¬ z = 3 := by
  intro e
  have h2 : ((3 : Int32).toInt) = 3 := by decide
  rw [e, h2] at h
  omega
theorem tab_no4 {z : Int32} {hi : Int} (h : z.toInt < 0 ∨ hi < z.toInt) (hh : 4 ≤ hi := by decide) : ¬ z = 4 := by
  intro e
  have h2 : ((4 : Int32).toInt) = 4 := by decide
  rw [e, h2] at h
  omega
set_option maxHeartbeats 4000000 in
set_option maxRecDepth 20000 in
theorem c_ofMaid (σ : Mem) (S M : Nat) (hV : VA σ S M) (x z : Int32) (d : Nat) (hd : 1 ≤ d) : PMet d mX7_ofMaid [.ref 0, .int x, .int z] σ (Pi (fun v σ2 => v = cnd (hM σ x) (cnd (z = 0) (σ 2 (cl x)) (cnd (z = 1) (mindF (σ 2 (cl x)) (σ 18 (cl x))) (cnd (z = 2) (σ 18 (cl x)) (cnd (z = 3) (cnd (σ 19 (cl x) = -1) (-9) (σ 19 (cl x))) (-2))))) (-1) ∧ σ2 = σ)) := by
  obtain ⟨d, rfl⟩ : ∃ e, d = e + 1 := ⟨d - 1, by omega⟩
  refine PMet.start (ls0 := [(0, .ref 0), (1, .int x), (2, .int z)]) miX7_ofMaid.1 (Nat.le_of_ble_eq_true rfl) rfl ?_
  refine tq_aload_n 0 (dget dX7_ofMaid 0 rfl) rfl rfl ?_
  refine tq_getR (dget dX7_ofMaid 1 rfl) fX7_12 rfl rfl ?_
  refine tq_iload_n 1 (dget dX7_ofMaid 2 rfl) rfl rfl ?_
  refine mq_Vi (As := [.int x]) (rest := []) (dget dX7_ofMaid 3 rfl) lX7_92 miX6_hasMaid (c_hasMaid σ x d (by omega)) rfl rfl rfl rfl (Nat.le_of_ble_eq_true rfl) (Nat.le_of_ble_eq_true rfl) (fun r_5 σ_5 h_5 => ?_)
  obtain ⟨b_5, e_5⟩ := h_5
  obtain rfl := e_5.symm
  refine tq_if_ne (tgt := 13) (dget dX7_ofMaid 4 rfl) (by decide) (fun c_8 => ?_) (fun c_8 => ?_)
  · obtain ⟨m, e_m, hm, hm4⟩ := hM_n hV (b_5.t c_8)
    subst e_m
    refine tq_aload_n 0 (dget dX7_ofMaid 7 rfl) rfl rfl ?_
    refine tq_getR (dget dX7_ofMaid 8 rfl) fX7_21 rfl rfl ?_
    refine tq_getR (dget dX7_ofMaid 9 rfl) fX7_109 rfl rfl ?_
    refine tq_getR (dget dX7_ofMaid 10 rfl) fX7_113 rfl rfl ?_
    refine tq_iload_n 1 (dget dX7_ofMaid 11 rfl) rfl rfl ?_
    refine tq_ialdN m (dget dX7_ofMaid 12 rfl) rfl (by decide) rfl (by omega) ?_
    refine tq_istore_n (ls2 := [(3, .int (σ 18 m)), (0, .ref 0), (1, .int (nI m)), (2, .int z)]) (dget dX7_ofMaid 13 rfl) rfl (by decide) rfl ?_
    refine tq_aload_n 1 (dget dX7_ofMaid 14 rfl) rfl rfl ?_
    refine tq_getR (dget dX7_ofMaid 15 rfl) fX7_21 rfl rfl ?_
    refine tq_getR (dget dX7_ofMaid 16 rfl) fX7_109 rfl rfl ?_
    refine tq_getR (dget dX7_ofMaid 17 rfl) fX7_118 rfl rfl ?_
    refine tq_iload_n 2 (dget dX7_ofMaid 18 rfl) rfl rfl ?_
    refine tq_ialdN m (dget dX7_ofMaid 19 rfl) rfl (by decide) rfl (by omega) ?_
    refine tq_istore (ls2 := [(4, .int (σ 19 m)), (3, .int (σ 18 m)), (0, .ref 0), (1, .int (nI m)), (2, .int z)]) (dget dX7_ofMaid 20 rfl) (by decide) rfl ?_
    refine tq_iload_n 4 (dget dX7_ofMaid 21 rfl) rfl rfl ?_
    by_cases c_41 : (z).toInt < 0 ∨ 3 < (z).toInt
    · refine tq_tableOut (tgt := 112) (dget dX7_ofMaid 22 rfl) c_41 (by decide) ?_
      refine tq_bipush (v := (-2)) (dget dX7_ofMaid 46 rfl) rfl ?_
      exact tq_iret rfl (dget dX7_ofMaid 47 rfl) ⟨_, rfl, by simp only [cnd_t (P := hM σ (nI m)) (b_5.t c_8), nI_clamp (show m < 2 ^ 31 by omega), cnd_f (P := z = 0) (tab_no0 c_41), cnd_f (P := z = 1) (tab_no1 c_41), cnd_f (P := z = 2) (tab_no2 c_41), cnd_f (P := z = 3) (tab_no3 c_41)], rfl⟩
    · have c_41 := sw_in c_41
      by_cases s_41_0 : z = 0
      · refine tq_tableIn (tgt := 72) (off := 31) (dget dX7_ofMaid 22 rfl) (by rw [s_41_0]; decide) (by rw [s_41_0]; decide) (by rw [s_41_0]; rfl) (by decide) ?_
        refine tq_aload_n 2 (dget dX7_ofMaid 23 rfl) rfl rfl ?_
        refine tq_getR (dget dX7_ofMaid 24 rfl) fX7_12 rfl rfl ?_
        refine tq_getR (dget dX7_ofMaid 25 rfl) fX7_121 rfl rfl ?_
        refine tq_iload_n 3 (dget dX7_ofMaid 26 rfl) rfl rfl ?_
        refine tq_ialdN m (dget dX7_ofMaid 27 rfl) rfl (by decide) rfl (by omega) ?_
        exact tq_iret rfl (dget dX7_ofMaid 28 rfl) ⟨_, rfl, by simp only [cnd_t (P := hM σ (nI m)) (b_5.t c_8), nI_clamp (show m < 2 ^ 31 by omega), cnd_t (P := z = 0) s_41_0], rfl⟩
      by_cases s_41_1 : z = 1
      · refine tq_tableIn (tgt := 82) (off := 41) (dget dX7_ofMaid 22 rfl) (by rw [s_41_1]; decide) (by rw [s_41_1]; decide) (by rw [s_41_1]; rfl) (by decide) ?_
        refine tq_aload_n 2 (dget dX7_ofMaid 29 rfl) rfl rfl ?_
        refine tq_getR (dget dX7_ofMaid 30 rfl) fX7_12 rfl rfl ?_
        refine tq_getR (dget dX7_ofMaid 31 rfl) fX7_121 rfl rfl ?_
        refine tq_iload_n 3 (dget dX7_ofMaid 32 rfl) rfl rfl ?_
        refine tq_ialdN m (dget dX7_ofMaid 33 rfl) rfl (by decide) rfl (by omega) ?_
        refine tq_iload_n 1 (dget dX7_ofMaid 34 rfl) rfl rfl ?_
        refine mq_Si (As := [.int (σ 2 m), .int (σ 18 m)]) (rest := []) (dget dX7_ofMaid 35 rfl) lX7_124 miX6_mind (c_mind σ (σ 2 m) (σ 18 m) d (by omega)) rfl rfl (Nat.le_of_ble_eq_true rfl) (Nat.le_of_ble_eq_true rfl) (fun r_92 σ_92 h_92 => ?_)
        obtain ⟨a_92, e_92⟩ := h_92
        obtain rfl := a_92.symm
        obtain rfl := e_92.symm
        exact tq_iret rfl (dget dX7_ofMaid 36 rfl) ⟨_, rfl, by simp only [cnd_t (P := hM σ (nI m)) (b_5.t c_8), nI_clamp (show m < 2 ^ 31 by omega), cnd_f (P := z = 0) s_41_0, cnd_t (P := z = 1) s_41_1], rfl⟩
      by_cases s_41_2 : z = 2
      · refine tq_tableIn (tgt := 96) (off := 55) (dget dX7_ofMaid 22 rfl) (by rw [s_41_2]; decide) (by rw [s_41_2]; decide) (by rw [s_41_2]; rfl) (by decide) ?_
        refine tq_iload_n 1 (dget dX7_ofMaid 37 rfl) rfl rfl ?_
        exact tq_iret rfl (dget dX7_ofMaid 38 rfl) ⟨_, rfl, by simp only [cnd_t (P := hM σ (nI m)) (b_5.t c_8), nI_clamp (show m < 2 ^ 31 by omega), cnd_f (P := z = 0) s_41_0, cnd_f (P := z = 1) s_41_1, cnd_t (P := z = 2) s_41_2], rfl⟩
      have s_41_3 : z = 3 := sw_last4 c_41 s_41_0 s_41_1 s_41_2
      refine tq_tableIn (tgt := 98) (off := 57) (dget dX7_ofMaid 22 rfl) (by rw [s_41_3]; decide) (by rw [s_41_3]; decide) (by rw [s_41_3]; rfl) (by decide) ?_
      refine tq_iload 0 (dget dX7_ofMaid 39 rfl) rfl ?_
      refine tq_iconst (v := (-1)) (dget dX7_ofMaid 40 rfl) rfl ?_
      refine tq_icmp_ne (tgt := 109) (dget dX7_ofMaid 41 rfl) (by decide) (fun c_101 => ?_) (fun c_101 => ?_)
      · refine tq_iload 0 (dget dX7_ofMaid 44 rfl) rfl ?_
        exact tq_iret rfl (dget dX7_ofMaid 45 rfl) ⟨_, rfl, by simp only [cnd_t (P := hM σ (nI m)) (b_5.t c_8), nI_clamp (show m < 2 ^ 31 by omega), cnd_f (P := z = 0) s_41_0, cnd_f (P := z = 1) s_41_1, cnd_f (P := z = 2) s_41_2, cnd_t (P := z = 3) s_41_3, cnd_f c_101], rfl⟩
      · refine tq_bipush (v := (-9)) (dget dX7_ofMaid 42 rfl) rfl ?_
        refine tq_goto (tgt := 111) (dget dX7_ofMaid 43 rfl) (by decide) ?_
        exact tq_iret rfl (dget dX7_ofMaid 45 rfl) ⟨_, rfl, by simp only [cnd_t (P := hM σ (nI m)) (b_5.t c_8), nI_clamp (show m < 2 ^ 31 by omega), cnd_f (P := z = 0) s_41_0, cnd_f (P := z = 1) s_41_1, cnd_f (P := z = 2) s_41_2, cnd_t (P := z = 3) s_41_3, cnd_t c_101], rfl⟩
  · refine tq_iconst (v := (-1)) (dget dX7_ofMaid 5 rfl) rfl ?_
    exact tq_iret rfl (dget dX7_ofMaid 6 rfl) ⟨_, rfl, by simp only [cnd_f (P := hM σ x) (b_5.f c_8)], rfl⟩
set_option maxHeartbeats 4000000 in
set_option maxRecDepth 20000 in
theorem c_law (σ : Mem) (S M C : Nat) (so mo : Nat → Nat) (hV : VA σ S M) (hO : OF σ C so mo) (v : Int32) (d : Nat) (hd : 4 ≤ d) : PMet d mX7_law [.ref 0, .int v] σ (Pi (fun r σ2 => r = cnd (0 ≤ v ∧ v ≤ 9) (cnd (0 < σ 1 1) (σ 1 2) (-3)) (-2) ∧ σ2 = cnd (0 ≤ v ∧ v ≤ 9) (cnd (0 < σ 1 1) (goF (up σ 1 2 v) so mo C) σ) σ)) := by
  obtain ⟨d, rfl⟩ : ∃ e, d = e + 1 := ⟨d - 1, by omega⟩
  refine PMet.start (ls0 := [(0, .ref 0), (1, .int v)]) miX7_law.1 (Nat.le_of_ble_eq_true rfl) rfl ?_
  have hO1 := OF_up (i := 1) (k := 2) (v := v) hO (by decide) (by decide) (by decide)
  refine tq_iload_n 1 (dget dX7_law 0 rfl) rfl rfl ?_
  refine tq_if_lt (tgt := 10) (dget dX7_law 1 rfl) (by decide) (fun c_1 => ?_) (fun c_1 => ?_)
  · refine tq_bipush (v := (-2)) (dget dX7_law 5 rfl) rfl ?_
    exact tq_iret rfl (dget dX7_law 6 rfl) ⟨_, rfl, by simp only [cnd_f (P := 0 ≤ v ∧ v ≤ 9) (fun q => by first | exact absurd q.1 (Int32.not_le.mpr c_1) | exact c_7 q.2)], by simp only [cnd_f (P := 0 ≤ v ∧ v ≤ 9) (fun q => by first | exact absurd q.1 (Int32.not_le.mpr c_1) | exact c_7 q.2)]⟩
  · refine tq_iload_n 1 (dget dX7_law 2 rfl) rfl rfl ?_
    refine tq_bipush (v := 9) (dget dX7_law 3 rfl) rfl ?_
    refine tq_icmp_le (tgt := 13) (dget dX7_law 4 rfl) (by decide) (fun c_7 => ?_) (fun c_7 => ?_)
    · refine tq_aload_n 0 (dget dX7_law 7 rfl) rfl rfl ?_
      refine tq_getR (dget dX7_law 8 rfl) fX7_12 rfl rfl ?_
      refine mq_Vi (As := []) (rest := []) (dget dX7_law 9 rfl) lX7_128 miX6_stands (c_stands σ d (by omega)) rfl rfl rfl rfl (Nat.le_of_ble_eq_true rfl) (Nat.le_of_ble_eq_true rfl) (fun r_17 σ_17 h_17 => ?_)
      obtain ⟨b_17, e_17⟩ := h_17
      obtain rfl := e_17.symm
      refine tq_if_ne (tgt := 26) (dget dX7_law 10 rfl) (by decide) (fun c_20 => ?_) (fun c_20 => ?_)
      · refine tq_aload_n 0 (dget dX7_law 13 rfl) rfl rfl ?_
        refine tq_getR (dget dX7_law 14 rfl) fX7_12 rfl rfl ?_
        refine tq_getI (dget dX7_law 15 rfl) fX7_132 rfl rfl ?_
        refine tq_istore_n (ls2 := [(2, .int (σ 1 2)), (0, .ref 0), (1, .int v)]) (dget dX7_law 16 rfl) rfl (by decide) rfl ?_
        refine tq_aload_n 1 (dget dX7_law 17 rfl) rfl rfl ?_
        refine tq_getR (dget dX7_law 18 rfl) fX7_12 rfl rfl ?_
        refine tq_iload_n 2 (dget dX7_law 19 rfl) rfl rfl ?_
        refine tq_putI (dget dX7_law 20 rfl) fX7_132 rfl rfl rfl rfl ?_
        refine tq_aload_n 1 (dget dX7_law 21 rfl) rfl rfl ?_
        refine tq_getR (dget dX7_law 22 rfl) fX7_21 rfl rfl ?_
        refine tq_aload_n 1 (dget dX7_law 23 rfl) rfl rfl ?_
        refine tq_getR (dget dX7_law 24 rfl) fX7_12 rfl rfl ?_
        refine mq_Vv (As := [.ref 1]) (rest := []) (dget dX7_law 25 rfl) lX7_105 miX2_goThrough (c_goThrough (up σ 1 2 v) C so mo hO1.1 hO1.2.1 hO1.2.2 d (by omega)) rfl rfl rfl rfl (Nat.le_of_ble_eq_true rfl) (Nat.le_of_ble_eq_true rfl) (fun σ_50 h_50 => ?_)
        obtain rfl := Eq.symm h_50
        refine tq_iload_n 0 (dget dX7_law 26 rfl) rfl rfl ?_
        exact tq_iret rfl (dget dX7_law 27 rfl) ⟨_, rfl, by simp only [cnd_t (P := 0 ≤ v ∧ v ≤ 9) ⟨Int32.not_lt.mp c_1, c_7⟩, cnd_t (P := 0 < σ 1 1) (b_17.t c_20)], by simp only [cnd_t (P := 0 ≤ v ∧ v ≤ 9) ⟨Int32.not_lt.mp c_1, c_7⟩, cnd_t (P := 0 < σ 1 1) (b_17.t c_20)]⟩
      · refine tq_bipush (v := (-3)) (dget dX7_law 11 rfl) rfl ?_
        exact tq_iret rfl (dget dX7_law 12 rfl) ⟨_, rfl, by simp only [cnd_t (P := 0 ≤ v ∧ v ≤ 9) ⟨Int32.not_lt.mp c_1, c_7⟩, cnd_f (P := 0 < σ 1 1) (b_17.f c_20)], by simp only [cnd_t (P := 0 ≤ v ∧ v ≤ 9) ⟨Int32.not_lt.mp c_1, c_7⟩, cnd_f (P := 0 < σ 1 1) (b_17.f c_20)]⟩
    · refine tq_bipush (v := (-2)) (dget dX7_law 5 rfl) rfl ?_
      exact tq_iret rfl (dget dX7_law 6 rfl) ⟨_, rfl, by simp only [cnd_f (P := 0 ≤ v ∧ v ≤ 9) (fun q => by first | exact absurd q.1 (Int32.not_le.mpr c_1) | exact c_7 q.2)], by simp only [cnd_f (P := 0 ≤ v ∧ v ≤ 9) (fun q => by first | exact absurd q.1 (Int32.not_le.mpr c_1) | exact c_7 q.2)]⟩
set_option maxHeartbeats 4000000 in
set_option maxRecDepth 20000 in
theorem c_offer (σ : Mem) (S M C : Nat) (so mo : Nat → Nat) (hV : VA σ S M) (hO : OF σ C so mo) (y x : Int32) (d : Nat) (hd : 4 ≤ d) : PMet d mX7_offer [.ref 0, .int y, .int x] σ (Pi (fun r σ2 => r = cnd (hS σ y) (cnd (hM σ x) (cnd (C < 24) (nI C) (-4)) (-1)) (-1) ∧ σ2 = cnd (hS σ y) (cnd (hM σ x) (cnd (C < 24) (addF σ C (cl y) (cl x)) σ) σ) σ)) := by
  obtain ⟨d, rfl⟩ : ∃ e, d = e + 1 := ⟨d - 1, by omega⟩
  refine PMet.start (ls0 := [(0, .ref 0), (1, .int y), (2, .int x)]) miX7_offer.1 (Nat.le_of_ble_eq_true rfl) rfl ?_
  refine tq_aload_n 0 (dget dX7_offer 0 rfl) rfl rfl ?_
  refine tq_getR (dget dX7_offer 1 rfl) fX7_12 rfl rfl ?_
  refine tq_iload_n 1 (dget dX7_offer 2 rfl) rfl rfl ?_
  refine mq_Vi (As := [.int y]) (rest := []) (dget dX7_offer 3 rfl) lX7_95 miX6_hasSuitor (c_hasSuitor σ y d (by omega)) rfl rfl rfl rfl (Nat.le_of_ble_eq_true rfl) (Nat.le_of_ble_eq_true rfl) (fun r_5 σ_5 h_5 => ?_)
  obtain ⟨b_5, e_5⟩ := h_5
  obtain rfl := e_5.symm
  refine tq_if_eq (tgt := 22) (dget dX7_offer 4 rfl) (by decide) (fun c_8 => ?_) (fun c_8 => ?_)
  · refine tq_iconst (v := (-1)) (dget dX7_offer 10 rfl) rfl ?_
    exact tq_iret rfl (dget dX7_offer 11 rfl) ⟨_, rfl, by simp only [cnd_f (P := hS σ y) (b_5.f c_8)], by simp only [cnd_f (P := hS σ y) (b_5.f c_8)]⟩
  · refine tq_aload_n 0 (dget dX7_offer 5 rfl) rfl rfl ?_
    refine tq_getR (dget dX7_offer 6 rfl) fX7_12 rfl rfl ?_
    refine tq_iload_n 2 (dget dX7_offer 7 rfl) rfl rfl ?_
    refine mq_Vi (As := [.int x]) (rest := []) (dget dX7_offer 8 rfl) lX7_92 miX6_hasMaid (c_hasMaid σ x d (by omega)) rfl rfl rfl rfl (Nat.le_of_ble_eq_true rfl) (Nat.le_of_ble_eq_true rfl) (fun r_16 σ_16 h_16 => ?_)
    obtain ⟨b_16, e_16⟩ := h_16
    obtain rfl := e_16.symm
    refine tq_if_ne (tgt := 24) (dget dX7_offer 9 rfl) (by decide) (fun c_19 => ?_) (fun c_19 => ?_)
    · obtain ⟨s, e_s, hs, hs6⟩ := hS_n hV (b_5.t c_8)
      subst e_s
      obtain ⟨m, e_m, hm, hm4⟩ := hM_n hV (b_16.t c_19)
      subst e_m
      refine tq_aload_n 0 (dget dX7_offer 12 rfl) rfl rfl ?_
      refine tq_getR (dget dX7_offer 13 rfl) fX7_21 rfl rfl ?_
      refine tq_getI (dget dX7_offer 14 rfl) fX7_135 rfl rfl ?_
      refine tq_bipush (v := 24) (dget dX7_offer 15 rfl) rfl ?_
      refine tq_icmp_lt (tgt := 39) (dget dX7_offer 16 rfl) (by decide) (fun c_33 => ?_) (fun c_33 => ?_)
      · rw [hO.1] at c_33
        have g_33 : C < 24 := klt (b := 24) (by have := hO.2.1; omega) (by decide) c_33
        refine tq_aload_n 0 (dget dX7_offer 19 rfl) rfl rfl ?_
        refine tq_getR (dget dX7_offer 20 rfl) fX7_21 rfl rfl ?_
        refine tq_aload_n 0 (dget dX7_offer 21 rfl) rfl rfl ?_
        refine tq_getR (dget dX7_offer 22 rfl) fX7_12 rfl rfl ?_
        refine tq_iload_n 1 (dget dX7_offer 23 rfl) rfl rfl ?_
        refine tq_iload_n 2 (dget dX7_offer 24 rfl) rfl rfl ?_
        refine mq_Vi (As := [.ref 1, .int (nI s), .int (nI m)]) (rest := []) (dget dX7_offer 25 rfl) lX7_136 miX2_add (c_Oadd σ C s m hO.1 g_33 (by omega) (by omega) d (by omega)) rfl rfl rfl rfl (Nat.le_of_ble_eq_true rfl) (Nat.le_of_ble_eq_true rfl) (fun r_49 σ_49 h_49 => ?_)
        obtain ⟨a_49, e_49⟩ := h_49
        obtain rfl := a_49.symm
        obtain rfl := e_49.symm
        exact tq_iret rfl (dget dX7_offer 26 rfl) ⟨_, rfl, by simp only [cnd_t (P := hS σ (nI s)) (b_5.t c_8), cnd_t (P := hM σ (nI m)) (b_16.t c_19), nI_clamp (show m < 2 ^ 31 by omega), nI_clamp (show s < 2 ^ 31 by omega), cnd_t (P := C < 24) g_33], by simp only [cnd_t (P := hS σ (nI s)) (b_5.t c_8), cnd_t (P := hM σ (nI m)) (b_16.t c_19), nI_clamp (show m < 2 ^ 31 by omega), nI_clamp (show s < 2 ^ 31 by omega), cnd_t (P := C < 24) g_33]⟩
      · rw [hO.1] at c_33
        have g_33 : ¬ C < 24 := Nat.not_lt.mpr (knlt (b := 24) (by have := hO.2.1; omega) (by decide) c_33)
        refine tq_bipush (v := (-4)) (dget dX7_offer 17 rfl) rfl ?_
        exact tq_iret rfl (dget dX7_offer 18 rfl) ⟨_, rfl, by simp only [cnd_t (P := hS σ (nI s)) (b_5.t c_8), cnd_t (P := hM σ (nI m)) (b_16.t c_19), nI_clamp (show m < 2 ^ 31 by omega), nI_clamp (show s < 2 ^ 31 by omega), cnd_f (P := C < 24) g_33], by simp only [cnd_t (P := hS σ (nI s)) (b_5.t c_8), cnd_t (P := hM σ (nI m)) (b_16.t c_19), nI_clamp (show m < 2 ^ 31 by omega), nI_clamp (show s < 2 ^ 31 by omega), cnd_f (P := C < 24) g_33]⟩
    · refine tq_iconst (v := (-1)) (dget dX7_offer 10 rfl) rfl ?_
      exact tq_iret rfl (dget dX7_offer 11 rfl) ⟨_, rfl, by simp only [cnd_t (P := hS σ y) (b_5.t c_8), cnd_f (P := hM σ x) (b_16.f c_19)], by simp only [cnd_t (P := hS σ y) (b_5.t c_8), cnd_f (P := hM σ x) (b_16.f c_19)]⟩
theorem kC_n {x : Int32} {C : Nat} (hC : C < 2 ^ 31) (h1 : 0 ≤ x) (h2 : x < nI C) : ∃ k, x = nI k ∧ k < C := by
  obtain ⟨j, e, _, h3⟩ := dig (a := 0) (b := C) (by decide) hC h1 h2
  exact ⟨j, e, h3⟩
theorem kC_n2 {x : Int32} {C : Nat} (hC : C < 2 ^ 30) (h1 : 0 ≤ x) (h2 : x ≤ nI C) : ∃ k, x = nI k ∧ k ≤ C := by
  have h0 : ¬ x < 0 := Int32.not_lt.mpr h1
  obtain ⟨j, hj, rfl⟩ := nI_of h0
  exact ⟨j, rfl, kle hj (by omega) h2⟩

set_option maxHeartbeats 4000000 in
set_option maxRecDepth 20000 in
theorem c_comes (σ : Mem) (S M C : Nat) (so mo : Nat → Nat) (hV : VA σ S M) (hO : OF σ C so mo) (x : Int32) (d : Nat) (hd : 0 ≤ d) : PMet d mX7_comes [.ref 0, .int x] σ (Pi (fun r σ2 => r = cnd (0 ≤ x ∧ x < σ 13 4) (σ 16 (cl x)) (-1) ∧ σ2 = σ)) := by
  refine PMet.start (ls0 := [(0, .ref 0), (1, .int x)]) miX7_comes.1 (Nat.le_of_ble_eq_true rfl) rfl ?_
  have hC8 := hO.2.1
  refine tq_iload_n 1 (dget dX7_comes 0 rfl) rfl rfl ?_
  refine tq_if_lt (tgt := 15) (dget dX7_comes 1 rfl) (by decide) (fun c_1 => ?_) (fun c_1 => ?_)
  · refine tq_iconst (v := (-1)) (dget dX7_comes 7 rfl) rfl ?_
    exact tq_iret rfl (dget dX7_comes 8 rfl) ⟨_, rfl, by simp only [cnd_f (P := 0 ≤ x ∧ x < σ 13 4) (fun q => by first | exact absurd q.1 (Int32.not_le.mpr c_1) | exact c_12 q.2)], rfl⟩
  · refine tq_iload_n 1 (dget dX7_comes 2 rfl) rfl rfl ?_
    refine tq_aload_n 0 (dget dX7_comes 3 rfl) rfl rfl ?_
    refine tq_getR (dget dX7_comes 4 rfl) fX7_21 rfl rfl ?_
    refine tq_getI (dget dX7_comes 5 rfl) fX7_135 rfl rfl ?_
    refine tq_icmp_lt (tgt := 17) (dget dX7_comes 6 rfl) (by decide) (fun c_12 => ?_) (fun c_12 => ?_)
    · obtain ⟨k, e_k, hk⟩ := kC_n (C := C) (by omega) (Int32.not_lt.mp c_1) (by rw [← hO.1]; exact c_12)
      subst e_k
      refine tq_aload_n 0 (dget dX7_comes 9 rfl) rfl rfl ?_
      refine tq_getR (dget dX7_comes 10 rfl) fX7_21 rfl rfl ?_
      refine tq_getR (dget dX7_comes 11 rfl) fX7_140 rfl rfl ?_
      refine tq_iload_n 1 (dget dX7_comes 12 rfl) rfl rfl ?_
      refine tq_ialdN k (dget dX7_comes 13 rfl) rfl (by decide) rfl (by omega) ?_
      exact tq_iret rfl (dget dX7_comes 14 rfl) ⟨_, rfl, by simp only [cnd_t (P := 0 ≤ nI k ∧ nI k < σ 13 4) ⟨Int32.not_lt.mp c_1, c_12⟩, nI_clamp (show k < 2 ^ 31 by omega)], rfl⟩
    · refine tq_iconst (v := (-1)) (dget dX7_comes 7 rfl) rfl ?_
      exact tq_iret rfl (dget dX7_comes 8 rfl) ⟨_, rfl, by simp only [cnd_f (P := 0 ≤ x ∧ x < σ 13 4) (fun q => by first | exact absurd q.1 (Int32.not_le.mpr c_1) | exact c_12 q.2)], rfl⟩
set_option maxHeartbeats 4000000 in
set_option maxRecDepth 20000 in
theorem c_undo (σ : Mem) (S M C : Nat) (so mo : Nat → Nat) (hV : VA σ S M) (hO : OF σ C so mo) (x : Int32) (d : Nat) (hd : 4 ≤ d) : PMet d mX7_undo [.ref 0, .int x] σ (Pi (fun r σ2 => r = cnd (0 ≤ x ∧ x ≤ nI C) (nI (C - cl x)) (-2) ∧ σ2 = cnd (0 ≤ x ∧ x ≤ nI C) (goF (up σ 13 4 (nI (C - cl x))) so mo (C - cl x)) σ)) := by
  obtain ⟨d, rfl⟩ : ∃ e, d = e + 1 := ⟨d - 1, by omega⟩
  refine PMet.start (ls0 := [(0, .ref 0), (1, .int x)]) miX7_undo.1 (Nat.le_of_ble_eq_true rfl) rfl ?_
  have hC8 := hO.2.1
  refine tq_iload_n 1 (dget dX7_undo 0 rfl) rfl rfl ?_
  refine tq_if_lt (tgt := 15) (dget dX7_undo 1 rfl) (by decide) (fun c_1 => ?_) (fun c_1 => ?_)
  · refine tq_bipush (v := (-2)) (dget dX7_undo 7 rfl) rfl ?_
    exact tq_iret rfl (dget dX7_undo 8 rfl) ⟨_, rfl, by simp only [cnd_f (P := 0 ≤ x ∧ x ≤ nI C) (fun q => by first | exact absurd q.1 (Int32.not_le.mpr c_1) | exact absurd (by rw [hO.1]; exact q.2) c_12)], by simp only [cnd_f (P := 0 ≤ x ∧ x ≤ nI C) (fun q => by first | exact absurd q.1 (Int32.not_le.mpr c_1) | exact absurd (by rw [hO.1]; exact q.2) c_12)]⟩
  · refine tq_iload_n 1 (dget dX7_undo 2 rfl) rfl rfl ?_
    refine tq_aload_n 0 (dget dX7_undo 3 rfl) rfl rfl ?_
    refine tq_getR (dget dX7_undo 4 rfl) fX7_21 rfl rfl ?_
    refine tq_getI (dget dX7_undo 5 rfl) fX7_135 rfl rfl ?_
    refine tq_icmp_le (tgt := 18) (dget dX7_undo 6 rfl) (by decide) (fun c_12 => ?_) (fun c_12 => ?_)
    · obtain ⟨k, e_k, hk⟩ := kC_n2 (C := C) (by omega) (Int32.not_lt.mp c_1) (by rw [← hO.1]; exact c_12)
      subst e_k
      refine tq_aload_n 0 (dget dX7_undo 9 rfl) rfl rfl ?_
      refine tq_getR (dget dX7_undo 10 rfl) fX7_21 rfl rfl ?_
      refine tq_dup (dget dX7_undo 11 rfl) rfl ?_
      refine tq_getI (dget dX7_undo 12 rfl) fX7_135 rfl rfl ?_
      refine tq_iload_n 1 (dget dX7_undo 13 rfl) rfl rfl ?_
      refine tq_isub (dget dX7_undo 14 rfl) ?_
      refine tq_eqi (y := (nI (C - k))) (by rw [hO.1]; exact nI_subN hk) ?_
      refine tq_putI (dget dX7_undo 15 rfl) fX7_135 rfl rfl rfl rfl ?_
      refine tq_aload_n 0 (dget dX7_undo 16 rfl) rfl rfl ?_
      refine tq_getR (dget dX7_undo 17 rfl) fX7_21 rfl rfl ?_
      refine tq_aload_n 0 (dget dX7_undo 18 rfl) rfl rfl ?_
      refine tq_getR (dget dX7_undo 19 rfl) fX7_12 rfl rfl ?_
      refine mq_Vv (As := [.ref 1]) (rest := []) (dget dX7_undo 20 rfl) lX7_105 miX2_goThrough (c_goThrough (up σ 13 4 (nI (C - k))) (C - k) so mo up_s (by omega) (fun j hj => by rw [up_row (by decide), up_row (by decide)]; exact hO.2.2 j (by omega)) d (by omega)) rfl rfl rfl rfl (Nat.le_of_ble_eq_true rfl) (Nat.le_of_ble_eq_true rfl) (fun σ_39 h_39 => ?_)
      obtain rfl := Eq.symm h_39
      refine tq_aload_n 0 (dget dX7_undo 21 rfl) rfl rfl ?_
      refine tq_getR (dget dX7_undo 22 rfl) fX7_21 rfl rfl ?_
      refine tq_getI (dget dX7_undo 23 rfl) fX7_135 rfl rfl ?_
      refine tq_eqi (y := (nI (C - k))) ((congrFun (goF_row (up σ 13 4 (nI (C - k))) so mo (a := 13) (by decide) (by decide) (by decide) (by decide) (C - k)) 4).trans up_s) ?_
      exact tq_iret rfl (dget dX7_undo 24 rfl) ⟨_, rfl, by simp only [cnd_t (P := 0 ≤ nI k ∧ nI k ≤ nI C) ⟨Int32.not_lt.mp c_1, by rw [← hO.1]; exact c_12⟩, nI_clamp (show k < 2 ^ 31 by omega)], by simp only [cnd_t (P := 0 ≤ nI k ∧ nI k ≤ nI C) ⟨Int32.not_lt.mp c_1, by rw [← hO.1]; exact c_12⟩, nI_clamp (show k < 2 ^ 31 by omega)]⟩
    · refine tq_bipush (v := (-2)) (dget dX7_undo 7 rfl) rfl ?_
      exact tq_iret rfl (dget dX7_undo 8 rfl) ⟨_, rfl, by simp only [cnd_f (P := 0 ≤ x ∧ x ≤ nI C) (fun q => by first | exact absurd q.1 (Int32.not_le.mpr c_1) | exact absurd (by rw [hO.1]; exact q.2) c_12)], by simp only [cnd_f (P := 0 ≤ x ∧ x ≤ nI C) (fun q => by first | exact absurd q.1 (Int32.not_le.mpr c_1) | exact absurd (by rw [hO.1]; exact q.2) c_12)]⟩
def prF (f : Nat → Int32) (S : Nat) : Nat → Int64
  | 0 => 0
  | j + 1 => prF f S j * 10 + (figF (f (S - 1 - j))).toInt64

set_option maxHeartbeats 4000000 in
set_option maxRecDepth 20000 in
theorem c_pairs_loop (σ : Mem) (S M : Nat) (hV : VA σ S M) (hst : 0 < σ 1 1) (d : Nat) (hd : 1 ≤ d) : ∀ (n : Nat) (k : Nat) (hm : k < n) (hk : k ≤ S), PAt (EM d (Pl (fun v σ2 => v = cnd (0 < σ 1 1) (prF (σ 20) S S) (-9223372036854775808) ∧ σ2 = σ))) mX7_pairs 26 [(3, .int (nI k - 1)), (1, .long (prF (σ 20) S (S - k))), (0, .ref 0)] [] σ := by
  obtain ⟨d, rfl⟩ : ∃ e, d = e + 1 := ⟨d - 1, by omega⟩
  intro n
  induction n with
  | zero => intro k hm hk; exact absurd hm (by omega)
  | succ n ih =>
    intro k hm hk
    have v3 := hV.2.2.1
    refine tq_iload_n 0 (dget dX7_pairs 14 rfl) rfl rfl ?_
    refine tq_if_lt (tgt := 59) (dget dX7_pairs 15 rfl) (by decide) (fun c_27 => ?_) (fun c_27 => ?_)
    · have g_27 : k = 0 := by by_cases z : k = 0; exact z; exact absurd c_27 (by obtain ⟨j, rfl⟩ : ∃ j, k = j + 1 := ⟨k - 1, by omega⟩; rw [nI_pred]; exact nI_pos (by omega))
      refine tq_lload_n 1 (dget dX7_pairs 31 rfl) rfl rfl ?_
      exact tq_lret rfl (dget dX7_pairs 32 rfl) ⟨_, rfl, by simp only [cnd_t hst, g_27, Nat.sub_zero], rfl⟩
    · have g_27 : ¬ k = 0 := fun z => c_27 (by rw [z]; decide)
      obtain ⟨j0, rfl⟩ : ∃ j, k = j + 1 := ⟨k - 1, by omega⟩
      refine tq_sub [0, 1, 2] (ls' := [(3, .int (nI j0)), (1, .long (prF (σ 20) S (S - (j0 + 1)))), (0, .ref 0)]) (by rw [nI_pred]; rfl) ?_
      refine tq_lload_n 1 (dget dX7_pairs 16 rfl) rfl rfl ?_
      refine tq_ldc2 (v := 10) (dget dX7_pairs 17 rfl) (tblG_2 111 rfl rfl) ?_
      refine tq_lmul (dget dX7_pairs 18 rfl) ?_
      refine tq_aload_n 2 (dget dX7_pairs 19 rfl) rfl rfl ?_
      refine tq_getR (dget dX7_pairs 20 rfl) fX7_21 rfl rfl ?_
      refine tq_getR (dget dX7_pairs 21 rfl) fX7_109 rfl rfl ?_
      refine tq_getR (dget dX7_pairs 22 rfl) fX7_150 rfl rfl ?_
      refine tq_iload_n 0 (dget dX7_pairs 23 rfl) rfl rfl ?_
      refine tq_ialdN j0 (dget dX7_pairs 24 rfl) rfl (by decide) rfl (by omega) ?_
      refine mq_Si (As := [.int (σ 20 j0)]) (rest := [.long ((prF (σ 20) S (S - (j0 + 1))) * 10)]) (dget dX7_pairs 25 rfl) lX7_153 miX7_figure (c_figure σ (σ 20 j0) d (by omega)) rfl rfl (Nat.le_of_ble_eq_true rfl) (Nat.le_of_ble_eq_true rfl) (fun r_47 σ_47 h_47 => ?_)
      obtain ⟨a_47, e_47⟩ := h_47
      obtain rfl := a_47.symm
      obtain rfl := e_47.symm
      refine tq_i2l (dget dX7_pairs 26 rfl) ?_
      refine tq_ladd (dget dX7_pairs 27 rfl) ?_
      refine tq_lstore_n (ls2 := [(1, .long (((prF (σ 20) S (S - (j0 + 1))) * 10) + ((figF (σ 20 j0))).toInt64)), (3, .int (nI j0)), (0, .ref 0)]) (dget dX7_pairs 28 rfl) rfl (by decide) rfl ?_
      refine tq_iinc (v := ((nI j0) + (-1))) (ls2 := [(3, .int ((nI j0) + (-1))), (1, .long (((prF (σ 20) S (S - (j0 + 1))) * 10) + ((figF (σ 20 j0))).toInt64)), (0, .ref 0)]) 1 (dget dX7_pairs 29 rfl) rfl rfl (by decide) rfl ?_
      refine tq_goto (tgt := 26) (dget dX7_pairs 30 rfl) (by decide) ?_
      refine tq_sub [0, 1, 2] (ls' := [(3, .int ((nI j0) + (-1))), (1, .long (((prF (σ 20) S (S - (j0 + 1))) * 10) + ((figF (σ 20 j0))).toInt64)), (0, .ref 0)]) rfl ?_
      rw [show nI j0 + -1 = nI j0 - 1 from (Int32.sub_eq_add_neg _ _).symm]
      rw [show prF (σ 20) S (S - (j0 + 1)) * 10 + (figF (σ 20 j0)).toInt64 = prF (σ 20) S (S - j0) by rw [show S - j0 = (S - (j0 + 1)) + 1 by omega, prF, show S - 1 - (S - (j0 + 1)) = j0 by omega]]
      exact ih j0 (by omega) (by omega)
set_option maxHeartbeats 4000000 in
set_option maxRecDepth 20000 in
theorem c_pairs (σ : Mem) (S M : Nat) (hV : VA σ S M) (d : Nat) (hd : 1 ≤ d) : PMet d mX7_pairs [.ref 0] σ (Pl (fun v σ2 => v = cnd (0 < σ 1 1) (prF (σ 20) S S) (-9223372036854775808) ∧ σ2 = σ)) := by
  obtain ⟨d, rfl⟩ : ∃ e, d = e + 1 := ⟨d - 1, by omega⟩
  refine PMet.start (ls0 := [(0, .ref 0)]) miX7_pairs.1 (Nat.le_of_ble_eq_true rfl) rfl ?_
  refine tq_aload_n 0 (dget dX7_pairs 0 rfl) rfl rfl ?_
  refine tq_getR (dget dX7_pairs 1 rfl) fX7_12 rfl rfl ?_
  refine mq_Vi (As := []) (rest := []) (dget dX7_pairs 2 rfl) lX7_128 miX6_stands (c_stands σ d (by omega)) rfl rfl rfl rfl (Nat.le_of_ble_eq_true rfl) (Nat.le_of_ble_eq_true rfl) (fun r_4 σ_4 h_4 => ?_)
  obtain ⟨b_4, e_4⟩ := h_4
  obtain rfl := e_4.symm
  refine tq_if_ne (tgt := 14) (dget dX7_pairs 3 rfl) (by decide) (fun c_7 => ?_) (fun c_7 => ?_)
  · refine tq_lconst (v := 0) (dget dX7_pairs 6 rfl) rfl ?_
    refine tq_lstore_n (ls2 := [(1, .long 0), (0, .ref 0)]) (dget dX7_pairs 7 rfl) rfl (by decide) rfl ?_
    refine tq_aload_n 1 (dget dX7_pairs 8 rfl) rfl rfl ?_
    refine tq_getR (dget dX7_pairs 9 rfl) fX7_12 rfl rfl ?_
    refine tq_getI (dget dX7_pairs 10 rfl) fX7_145 rfl rfl ?_
    refine tq_iconst (v := 1) (dget dX7_pairs 11 rfl) rfl ?_
    refine tq_isub (dget dX7_pairs 12 rfl) ?_
    refine tq_istore_n (ls2 := [(3, .int ((σ 1 0) - 1)), (1, .long 0), (0, .ref 0)]) (dget dX7_pairs 13 rfl) rfl (by decide) rfl ?_
    refine tq_sub [0, 1, 2] (ls' := [(3, .int ((σ 1 0) - 1)), (1, .long 0), (0, .ref 0)]) rfl ?_
    rw [hV.1, show (0 : Int64) = prF (σ 20) S (S - S) by rw [Nat.sub_self]; rfl]
    exact c_pairs_loop σ S M hV (b_4.t c_7) (d + 1) (by omega) (S + 1) S (by omega) (Nat.le_refl _)
  · refine tq_ldc2 (v := (-9223372036854775808)) (dget dX7_pairs 4 rfl) (tblG_2 110 rfl rfl) ?_
    exact tq_lret rfl (dget dX7_pairs 5 rfl) ⟨_, rfl, by simp only [cnd_f (P := 0 < σ 1 1) (b_4.f c_7)], rfl⟩

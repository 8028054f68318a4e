/-! ===== the reference (3): sent, matches ===== -/
/-- all but the three scratch rows is as it was; of those, what lies behind the valley's places -/
def SC (σ τ : Mem) : Prop := (∀ r, r ≠ 52 → r ≠ 53 → r ≠ 54 → τ r = σ r) ∧ (∀ j, 4 ≤ j → τ 52 j = σ 52 j) ∧ (∀ j, 4 ≤ j → τ 53 j = σ 53 j) ∧ ∀ j, 6 ≤ j → τ 54 j = σ 54 j
theorem SC.rf (σ : Mem) : SC σ σ := ⟨fun _ _ _ _ => rfl, fun _ _ => rfl, fun _ _ => rfl, fun _ _ => rfl⟩
theorem SC.tr {σ τ ω : Mem} (h : SC σ τ) (g : SC τ ω) : SC σ ω := ⟨fun r a b c => (g.1 r a b c).trans (h.1 r a b c), fun j a => (g.2.1 j a).trans (h.2.1 j a), fun j a => (g.2.2.1 j a).trans (h.2.2.1 j a), fun j a => (g.2.2.2 j a).trans (h.2.2.2 j a)⟩
theorem SC.up52 {σ τ : Mem} (h : SC σ τ) {k : Nat} (hk : k < 4) (v : Int32) : SC σ (up τ 52 k v) := h.tr ⟨fun r a b c => up_row a, fun j a => up_n (by omega), fun j a => up_n (by omega), fun j a => up_n (by omega)⟩
theorem SC.up53 {σ τ : Mem} (h : SC σ τ) {k : Nat} (hk : k < 4) (v : Int32) : SC σ (up τ 53 k v) := h.tr ⟨fun r a b c => up_row b, fun j a => up_n (by omega), fun j a => up_n (by omega), fun j a => up_n (by omega)⟩
theorem SC.up54 {σ τ : Mem} (h : SC σ τ) {k : Nat} (hk : k < 6) (v : Int32) : SC σ (up τ 54 k v) := h.tr ⟨fun r a b c => up_row c, fun j a => up_n (by omega), fun j a => up_n (by omega), fun j a => up_n (by omega)⟩
theorem fillR_at {σ : Mem} {i n j : Nat} {v : Int32} : fillR σ i n v i j = if j < n then v else σ i j := by unfold fillR; rw [upR_s]
theorem begM_52 (σ : Mem) : begM σ 52 = fun j => if j < 4 then 0 else σ 52 j := by
  funext j
  unfold begM
  rw [fillR_row (by decide), fillR_row (by decide), fillR_at]
theorem begM_53 (σ : Mem) : begM σ 53 = fun j => if j < 4 then -9 else σ 53 j := by
  funext j
  unfold begM
  rw [fillR_row (by decide), fillR_at, fillR_row (by decide)]
theorem begM_54 (σ : Mem) : begM σ 54 = fun j => if j < 6 then -9 else σ 54 j := by
  funext j
  unfold begM
  rw [fillR_at, fillR_row (by decide), fillR_row (by decide)]
theorem SC.beg (σ : Mem) : SC σ (begM σ) := ⟨fun r a b c => begM_row a b c, fun j a => by rw [begM_52]; exact if_neg (by omega), fun j a => by rw [begM_53]; exact if_neg (by omega), fun j a => by rw [begM_54]; exact if_neg (by omega)⟩
/-- what begins anew begins alike -/
theorem beg_SC {σ τ : Mem} (h : SC σ τ) : begM τ = begM σ := by
  funext r
  by_cases h1 : r = 52
  · subst h1
    rw [begM_52, begM_52]
    funext j
    by_cases c : j < 4
    · rw [if_pos c, if_pos c]
    · rw [if_neg c, if_neg c]; exact h.2.1 j (by omega)
  by_cases h2 : r = 53
  · subst h2
    rw [begM_53, begM_53]
    funext j
    by_cases c : j < 4
    · rw [if_pos c, if_pos c]
    · rw [if_neg c, if_neg c]; exact h.2.2.1 j (by omega)
  by_cases h3 : r = 54
  · subst h3
    rw [begM_54, begM_54]
    funext j
    by_cases c : j < 6
    · rw [if_pos c, if_pos c]
    · rw [if_neg c, if_neg c]; exact h.2.2.2 j (by omega)
  rw [begM_row h1 h2 h3, begM_row h1 h2 h3]
  exact h.1 r h1 h2 h3
theorem VM_SC {σ τ : Mem} {S M : Nat} (hV : VM σ S M) (h : SC σ τ) : VM τ S M := by
  unfold VM
  rw [h.1 42 (by decide) (by decide) (by decide)]
  exact hV
theorem bcM {L : Nat} (h : L < 64) : cntN L 6 = L % 2 + cntN (L / 2) 6 ∧ (nI L &&& 1) = nI (L % 2) ∧ (nI L >>> ((1 : Int32) &&& 31)) = nI (L / 2) := by
  have h2 : ∀ a, a < 64 → cntN a 6 = a % 2 + cntN (a / 2) 6 ∧ (nI a &&& 1) = nI (a % 2) ∧ (nI a >>> ((1 : Int32) &&& 31)) = nI (a / 2) := by decide +kernel
  exact h2 L h
theorem cnt0 : cntN 0 6 = 0 := by decide +kernel
def brSm (σ : Mem) (S m told : Nat) : Nat → Prop := fun set => brP (σ 42 6) (σ 43 m) (fun s => σ 44 (6 * m + s)) S told set

set_option maxHeartbeats 4000000 in
set_option maxRecDepth 20000 in
theorem k_isIn (σ : Mem) (a b : Nat) (ha : a < 64) (hb : b < 6) (d : Nat) (hd : 0 ≤ d) : PMet d mX8_isIn [.int (nI a), .int (nI b)] σ (Pi (fun v σ2 => BP (bitN a b = true) v ∧ σ2 = σ)) := by
  refine PMet.start (ls0 := [(0, .int (nI a)), (1, .int (nI b))]) miX8_isIn.1 (Nat.le_of_ble_eq_true rfl) rfl ?_
  refine tq_iload_n 0 (dget dX8_isIn 0 rfl) rfl rfl ?_
  refine tq_iload_n 1 (dget dX8_isIn 1 rfl) rfl rfl ?_
  refine tq_ishr (dget dX8_isIn 2 rfl) ?_
  refine tq_iconst (v := 1) (dget dX8_isIn 3 rfl) rfl ?_
  refine tq_iand (dget dX8_isIn 4 rfl) ?_
  refine tq_eqi (y := (if bitN a b then 1 else 0)) (bit_and ha hb) ?_
  refine tq_iconst (v := 1) (dget dX8_isIn 5 rfl) rfl ?_
  refine tq_icmp_ne (tgt := 13) (dget dX8_isIn 6 rfl) (by decide) (fun c_6 => ?_) (fun c_6 => ?_)
  · refine tq_iconst (v := 0) (dget dX8_isIn 9 rfl) rfl ?_
    exact tq_zret rfl rfl (dget dX8_isIn 10 rfl) ⟨_, rfl, BP.n (fun q => c_6 (by rw [q]; rfl)), rfl⟩
  · refine tq_iconst (v := 1) (dget dX8_isIn 7 rfl) rfl ?_
    refine tq_goto (tgt := 14) (dget dX8_isIn 8 rfl) (by decide) ?_
    exact tq_zret rfl rfl (dget dX8_isIn 10 rfl) ⟨_, rfl, BP.y (by simpa using c_6), rfl⟩
set_option maxHeartbeats 4000000 in
set_option maxRecDepth 20000 in
theorem k_bits_loop (σ : Mem) (a : Nat) (ha : a < 64) (d : Nat) (hd : 0 ≤ d) : ∀ (n : Nat) (L : Nat) (c : Nat) (hm : L < n) (hL : L < 64) (hc : c + cntN L 6 = cntN a 6), PAt (EM d (Pi (fun v σ2 => v = nI (cntN a 6) ∧ σ2 = σ))) mX8_bits 4 [(2, .int (nI L)), (1, .int (nI c)), (0, .int (nI a))] [] σ := by
  intro n
  induction n with
  | zero => intro L c hm hL hc; exact absurd hm (by omega)
  | succ n ih =>
    intro L c hm hL hc
    obtain ⟨b1, b2, b3⟩ := bcM hL
    refine tq_iload_n 0 (dget dX8_bits 4 rfl) rfl rfl ?_
    refine tq_if_le (tgt := 21) (dget dX8_bits 5 rfl) (by decide) (fun c_5 => ?_) (fun c_5 => ?_)
    · have g_5 : L = 0 := Nat.le_zero.mp (kle (b := 0) (by omega) (by decide) c_5)
      refine tq_iload_n 1 (dget dX8_bits 17 rfl) rfl rfl ?_
      exact tq_iret rfl (dget dX8_bits 18 rfl) ⟨_, rfl, by rw [← hc, g_5, cnt0]; rfl, rfl⟩
    · have g_5 : ¬ L = 0 := fun e => c_5 (by rw [e]; decide)
      refine tq_iload_n 1 (dget dX8_bits 6 rfl) rfl rfl ?_
      refine tq_iload_n 0 (dget dX8_bits 7 rfl) rfl rfl ?_
      refine tq_iconst (v := 1) (dget dX8_bits 8 rfl) rfl ?_
      refine tq_iand (dget dX8_bits 9 rfl) ?_
      refine tq_eqi (y := (nI (L % 2))) b2 ?_
      refine tq_iadd (dget dX8_bits 10 rfl) ?_
      refine tq_eqi (y := (nI (c + L % 2))) (nI_add _ _) ?_
      refine tq_istore_n (ls2 := [(1, .int (nI (c + L % 2))), (2, .int (nI L)), (0, .int (nI a))]) (dget dX8_bits 11 rfl) rfl (by decide) rfl ?_
      refine tq_iload_n 1 (dget dX8_bits 12 rfl) rfl rfl ?_
      refine tq_iconst (v := 1) (dget dX8_bits 13 rfl) rfl ?_
      refine tq_ishr (dget dX8_bits 14 rfl) ?_
      refine tq_eqi (y := (nI (L / 2))) b3 ?_
      refine tq_istore_n (ls2 := [(2, .int (nI (L / 2))), (1, .int (nI (c + L % 2))), (0, .int (nI a))]) (dget dX8_bits 15 rfl) rfl (by decide) rfl ?_
      refine tq_goto (tgt := 4) (dget dX8_bits 16 rfl) (by decide) ?_
      refine tq_sub [0, 1, 2] (ls' := [(2, .int (nI (L / 2))), (1, .int (nI (c + L % 2))), (0, .int (nI a))]) rfl ?_
      exact ih (L / 2) (c + L % 2) (by omega) (by omega) (by omega)
set_option maxHeartbeats 4000000 in
set_option maxRecDepth 20000 in
theorem k_bits (σ : Mem) (a : Nat) (ha : a < 64) (d : Nat) (hd : 0 ≤ d) : PMet d mX8_bits [.int (nI a)] σ (Pi (fun v σ2 => v = nI (cntN a 6) ∧ σ2 = σ)) := by
  refine PMet.start (ls0 := [(0, .int (nI a))]) miX8_bits.1 (Nat.le_of_ble_eq_true rfl) rfl ?_
  refine tq_iconst (v := 0) (dget dX8_bits 0 rfl) rfl ?_
  refine tq_istore_n (ls2 := [(1, .int 0), (0, .int (nI a))]) (dget dX8_bits 1 rfl) rfl (by decide) rfl ?_
  refine tq_iload_n 1 (dget dX8_bits 2 rfl) rfl rfl ?_
  refine tq_istore_n (ls2 := [(2, .int (nI a)), (1, .int 0), (0, .int (nI a))]) (dget dX8_bits 3 rfl) rfl (by decide) rfl ?_
  refine tq_sub [0, 1, 2] (ls' := [(2, .int (nI a)), (1, .int 0), (0, .int (nI a))]) rfl ?_
  rw [show (0 : Int32) = nI 0 from rfl]
  exact k_bits_loop σ a ha d (by omega) (a + 1) a 0 (by omega) ha (by omega)
set_option maxHeartbeats 4000000 in
set_option maxRecDepth 20000 in
theorem k_doBring_loop (σ : Mem) (S M m told set : Nat) (hV : VM σ S M) (hm4 : m < 4) (ht : told < 6) (hset : set < 64) (j : Nat) (hk : σ 43 m = nI j) (hj : j < 3) (d : Nat) (hd : 2 ≤ d) : ∀ (n : Nat) (k : Nat) (are : Int32) (τ : Mem) (hm : S < k + n) (hk9 : k ≤ S) (hT : SC σ τ) (hA : BP (∀ j2, j2 < k → bitN set j2 = true → ansF (σ 42 6) (σ 43 m) (σ 44 (6 * m + j2)) (nI (cntN set j2)) = 3) are) (hI : (¬ are = 0 → τ 52 m = nI (cntN set k)) ∧ (are = 0 → are = 0)), PAt (EM d (Pi (fun v σ2 => BP (brSm σ S m told set) v ∧ SC σ σ2))) mX8_doBring 10 [(5, .int (nI k)), (4, .int are), (0, .ref 42), (1, .int (nI m)), (2, .int (nI set)), (3, .int (nI told))] [] τ := by
  obtain ⟨d, rfl⟩ : ∃ e, d = e + 1 := ⟨d - 1, by omega⟩
  intro n
  induction n with
  | zero => intro k are τ hm hk9 hT hA hI; exact absurd hm (by omega)
  | succ n ih =>
    intro k are τ hm hk9 hT hA hI
    obtain ⟨v1, v2, v3, v4⟩ := VM_SC hV hT
    have hc6 := cntN_le set k
    refine tq_iload 0 (dget dX8_doBring 6 rfl) rfl ?_
    refine tq_aload_n 2 (dget dX8_doBring 7 rfl) rfl rfl ?_
    refine tq_getI (dget dX8_doBring 8 rfl) fX8_81 rfl rfl ?_
    refine tq_icmp_ge (tgt := 67) (dget dX8_doBring 9 rfl) (by decide) (fun c_16 => ?_) (fun c_16 => ?_)
    · rw [v1] at c_16
      have g_16 := kle (by omega) (by omega) c_16
      have g_17 : k = S := by omega
      refine tq_iload 1 (dget dX8_doBring 36 rfl) rfl ?_
      refine tq_if_eq (tgt := 86) (dget dX8_doBring 37 rfl) (by decide) (fun c_69 => ?_) (fun c_69 => ?_)
      · refine tq_iconst (v := 0) (dget dX8_doBring 46 rfl) rfl ?_
        exact tq_zret rfl rfl (dget dX8_doBring 47 rfl) ⟨_, rfl, BP.n (fun q => hA.f c_69 (fun j2 h2 hb => q.1 j2 (by omega) hb)), hT⟩
      · have g_21 := c_69
        refine tq_aload_n 2 (dget dX8_doBring 38 rfl) rfl rfl ?_
        refine tq_iload_n 3 (dget dX8_doBring 39 rfl) rfl rfl ?_
        refine tq_iload_n 5 (dget dX8_doBring 40 rfl) rfl rfl ?_
        refine mq_Vi (As := [.int (nI m), .int (nI told)]) (rest := []) (dget dX8_doBring 41 rfl) lX8_166 miX8_doesWith (k_doesWith τ m told hm4 (by omega) j ((congrFun (hT.1 43 (by decide) (by decide) (by decide)) m).trans hk) hj d (by omega)) rfl rfl rfl rfl (Nat.le_of_ble_eq_true rfl) (Nat.le_of_ble_eq_true rfl) (fun r_75 σ_75 h_75 => ?_)
        obtain ⟨a_75, e_75⟩ := h_75
        obtain rfl := a_75.symm
        obtain rfl := e_75.symm
        rw [show ansM τ m told = ansF (σ 42 6) (σ 43 m) (σ 44 (6 * m + told)) (nI (cntN set k)) by unfold ansM; rw [hT.1 42 (by decide) (by decide) (by decide), hT.1 43 (by decide) (by decide) (by decide), hT.1 44 (by decide) (by decide) (by decide), hI.1 g_21]]
        refine tq_iconst (v := 3) (dget dX8_doBring 42 rfl) rfl ?_
        refine tq_icmp_eq (tgt := 86) (dget dX8_doBring 43 rfl) (by decide) (fun c_79 => ?_) (fun c_79 => ?_)
        · refine tq_iconst (v := 0) (dget dX8_doBring 46 rfl) rfl ?_
          exact tq_zret rfl rfl (dget dX8_doBring 47 rfl) ⟨_, rfl, BP.n (fun q => q.2 (by rw [← g_17]; exact c_79)), hT⟩
        · refine tq_iconst (v := 1) (dget dX8_doBring 44 rfl) rfl ?_
          refine tq_goto (tgt := 87) (dget dX8_doBring 45 rfl) (by decide) ?_
          exact tq_zret rfl rfl (dget dX8_doBring 47 rfl) ⟨_, rfl, BP.y ⟨fun s hs hb => hA.t g_21 s (by omega) hb, by rw [← g_17]; exact c_79⟩, hT⟩
    · rw [v1] at c_16
      have g_16 := knle (by omega) (by omega) c_16
      refine tq_iload 1 (dget dX8_doBring 10 rfl) rfl ?_
      refine tq_if_eq (tgt := 67) (dget dX8_doBring 11 rfl) (by decide) (fun c_21 => ?_) (fun c_21 => ?_)
      · refine tq_iload 1 (dget dX8_doBring 36 rfl) rfl ?_
        refine tq_if_eq (tgt := 86) (dget dX8_doBring 37 rfl) (by decide) (fun c_69 => ?_) (fun c_69 => ?_)
        · refine tq_iconst (v := 0) (dget dX8_doBring 46 rfl) rfl ?_
          exact tq_zret rfl rfl (dget dX8_doBring 47 rfl) ⟨_, rfl, BP.n (fun q => hA.f c_69 (fun j2 h2 hb => q.1 j2 (by omega) hb)), hT⟩
        · have g_21 := c_69
          exact absurd c_21 c_69
      · have g_21 := c_21
        refine tq_iload_n 4 (dget dX8_doBring 12 rfl) rfl rfl ?_
        refine tq_iload 0 (dget dX8_doBring 13 rfl) rfl ?_
        refine mq_Si (As := [.int (nI set), .int (nI k)]) (rest := []) (dget dX8_doBring 14 rfl) lX8_179 miX8_isIn (k_isIn τ set k hset (by omega) d (by omega)) rfl rfl (Nat.le_of_ble_eq_true rfl) (Nat.le_of_ble_eq_true rfl) (fun r_27 σ_27 h_27 => ?_)
        obtain ⟨b_27, e_27⟩ := h_27
        obtain rfl := e_27.symm
        refine tq_if_eq (tgt := 61) (dget dX8_doBring 15 rfl) (by decide) (fun c_30 => ?_) (fun c_30 => ?_)
        · refine tq_iinc (v := (nI (k + 1))) (ls2 := [(5, .int (nI (k + 1))), (4, .int are), (0, .ref 42), (1, .int (nI m)), (2, .int (nI set)), (3, .int (nI told))]) 0 (dget dX8_doBring 34 rfl) rfl (nI_1 k) (by decide) rfl ?_
          refine tq_goto (tgt := 10) (dget dX8_doBring 35 rfl) (by decide) ?_
          refine tq_sub [0, 1, 2, 3, 4, 5] (ls' := [(5, .int (nI (k + 1))), (4, .int are), (0, .ref 42), (1, .int (nI m)), (2, .int (nI set)), (3, .int (nI told))]) rfl ?_
          refine ih (k + 1) are τ (by omega) (by omega) hT (hA.iff ⟨fun q j2 h2 hb => ?_, fun q j2 h2 hb => q j2 (by omega) hb⟩) ⟨fun q => ?_, fun q => hI.2 q⟩
          · by_cases e : j2 = k
            · subst e; exact absurd hb (b_27.f c_30)
            · exact q j2 (by omega) hb
          · rw [hI.1 q, cntN, if_neg (b_27.f c_30)]; rfl
        · refine tq_aload_n 2 (dget dX8_doBring 16 rfl) rfl rfl ?_
          refine tq_iload_n 3 (dget dX8_doBring 17 rfl) rfl rfl ?_
          refine tq_iload 0 (dget dX8_doBring 18 rfl) rfl ?_
          refine mq_Vi (As := [.int (nI m), .int (nI k)]) (rest := []) (dget dX8_doBring 19 rfl) lX8_166 miX8_doesWith (k_doesWith τ m k hm4 (by omega) j ((congrFun (hT.1 43 (by decide) (by decide) (by decide)) m).trans hk) hj d (by omega)) rfl rfl rfl rfl (Nat.le_of_ble_eq_true rfl) (Nat.le_of_ble_eq_true rfl) (fun r_37 σ_37 h_37 => ?_)
          obtain ⟨a_37, e_37⟩ := h_37
          obtain rfl := a_37.symm
          obtain rfl := e_37.symm
          rw [show ansM τ m k = ansF (σ 42 6) (σ 43 m) (σ 44 (6 * m + k)) (nI (cntN set k)) by unfold ansM; rw [hT.1 42 (by decide) (by decide) (by decide), hT.1 43 (by decide) (by decide) (by decide), hT.1 44 (by decide) (by decide) (by decide), hI.1 g_21]]
          refine tq_iconst (v := 3) (dget dX8_doBring 20 rfl) rfl ?_
          refine tq_icmp_ne (tgt := 48) (dget dX8_doBring 21 rfl) (by decide) (fun c_41 => ?_) (fun c_41 => ?_)
          · refine tq_iconst (v := 0) (dget dX8_doBring 24 rfl) rfl ?_
            refine tq_istore (ls2 := [(4, .int 0), (5, .int (nI k)), (0, .ref 42), (1, .int (nI m)), (2, .int (nI set)), (3, .int (nI told))]) (dget dX8_doBring 25 rfl) (by decide) rfl ?_
            refine tq_aload_n 2 (dget dX8_doBring 26 rfl) rfl rfl ?_
            refine tq_getR (dget dX8_doBring 27 rfl) fX8_37 rfl rfl ?_
            refine tq_iload_n 3 (dget dX8_doBring 28 rfl) rfl rfl ?_
            refine tq_dup2 (dget dX8_doBring 29 rfl) rfl rfl ?_
            refine tq_ialdN m (dget dX8_doBring 30 rfl) rfl (by decide) rfl (by omega) ?_
            refine tq_iconst (v := 1) (dget dX8_doBring 31 rfl) rfl ?_
            refine tq_iadd (dget dX8_doBring 32 rfl) ?_
            refine tq_iastN m (dget dX8_doBring 33 rfl) rfl (by decide) rfl (by omega) ?_
            refine tq_iinc (v := (nI (k + 1))) (ls2 := [(5, .int (nI (k + 1))), (4, .int 0), (0, .ref 42), (1, .int (nI m)), (2, .int (nI set)), (3, .int (nI told))]) 1 (dget dX8_doBring 34 rfl) rfl (nI_1 k) (by decide) rfl ?_
            refine tq_goto (tgt := 10) (dget dX8_doBring 35 rfl) (by decide) ?_
            refine tq_sub [0, 1, 2, 3, 4, 5] (ls' := [(5, .int (nI (k + 1))), (4, .int 0), (0, .ref 42), (1, .int (nI m)), (2, .int (nI set)), (3, .int (nI told))]) rfl ?_
            refine ih (k + 1) 0 _ (by omega) (by omega) (hT.up52 hm4 _) (BP.n (fun q => c_41 (q k (by omega) (b_27.t c_30)))) ⟨fun q => ?_, fun q => ?_⟩
            · exact absurd rfl q
            · exact rfl
          · refine tq_iconst (v := 1) (dget dX8_doBring 22 rfl) rfl ?_
            refine tq_goto (tgt := 49) (dget dX8_doBring 23 rfl) (by decide) ?_
            refine tq_istore (ls2 := [(4, .int 1), (5, .int (nI k)), (0, .ref 42), (1, .int (nI m)), (2, .int (nI set)), (3, .int (nI told))]) (dget dX8_doBring 25 rfl) (by decide) rfl ?_
            refine tq_aload_n 2 (dget dX8_doBring 26 rfl) rfl rfl ?_
            refine tq_getR (dget dX8_doBring 27 rfl) fX8_37 rfl rfl ?_
            refine tq_iload_n 3 (dget dX8_doBring 28 rfl) rfl rfl ?_
            refine tq_dup2 (dget dX8_doBring 29 rfl) rfl rfl ?_
            refine tq_ialdN m (dget dX8_doBring 30 rfl) rfl (by decide) rfl (by omega) ?_
            refine tq_iconst (v := 1) (dget dX8_doBring 31 rfl) rfl ?_
            refine tq_iadd (dget dX8_doBring 32 rfl) ?_
            refine tq_iastN m (dget dX8_doBring 33 rfl) rfl (by decide) rfl (by omega) ?_
            refine tq_iinc (v := (nI (k + 1))) (ls2 := [(5, .int (nI (k + 1))), (4, .int 1), (0, .ref 42), (1, .int (nI m)), (2, .int (nI set)), (3, .int (nI told))]) 1 (dget dX8_doBring 34 rfl) rfl (nI_1 k) (by decide) rfl ?_
            refine tq_goto (tgt := 10) (dget dX8_doBring 35 rfl) (by decide) ?_
            refine tq_sub [0, 1, 2, 3, 4, 5] (ls' := [(5, .int (nI (k + 1))), (4, .int 1), (0, .ref 42), (1, .int (nI m)), (2, .int (nI set)), (3, .int (nI told))]) rfl ?_
            refine ih (k + 1) 1 _ (by omega) (by omega) (hT.up52 hm4 _) (BP.y (fun j2 h2 hb => ?_)) ⟨fun q => ?_, fun q => ?_⟩
            · by_cases e : j2 = k
              · subst e; exact c_41
              · exact hA.t g_21 j2 (by omega) hb
            · rw [up_s, hI.1 g_21, cntN, if_pos (b_27.t c_30)]; exact nI_1 _
            · exact absurd q (by decide)
set_option maxHeartbeats 4000000 in
set_option maxRecDepth 20000 in
theorem k_doBring (σ : Mem) (S M m told set : Nat) (hV : VM σ S M) (hm4 : m < 4) (ht : told < 6) (hset : set < 64) (j : Nat) (hk : σ 43 m = nI j) (hj : j < 3) (d : Nat) (hd : 2 ≤ d) : PMet d mX8_doBring [.ref 42, .int (nI m), .int (nI set), .int (nI told)] σ (Pi (fun v σ2 => BP (brSm σ S m told set) v ∧ SC σ σ2)) := by
  obtain ⟨d, rfl⟩ : ∃ e, d = e + 1 := ⟨d - 1, by omega⟩
  refine PMet.start (ls0 := [(0, .ref 42), (1, .int (nI m)), (2, .int (nI set)), (3, .int (nI told))]) miX8_doBring.1 (Nat.le_of_ble_eq_true rfl) rfl ?_
  refine tq_aload_n 0 (dget dX8_doBring 0 rfl) rfl rfl ?_
  refine mq_Vv (As := []) (rest := []) (dget dX8_doBring 1 rfl) lX8_169 miX8_begin (k_begin σ d (by omega)) rfl rfl rfl rfl (Nat.le_of_ble_eq_true rfl) (Nat.le_of_ble_eq_true rfl) (fun σ_1 h_1 => ?_)
  obtain rfl := Eq.symm h_1
  refine tq_iconst (v := 1) (dget dX8_doBring 2 rfl) rfl ?_
  refine tq_istore (ls2 := [(4, .int 1), (0, .ref 42), (1, .int (nI m)), (2, .int (nI set)), (3, .int (nI told))]) (dget dX8_doBring 3 rfl) (by decide) rfl ?_
  refine tq_iconst (v := 0) (dget dX8_doBring 4 rfl) rfl ?_
  refine tq_istore (ls2 := [(5, .int 0), (4, .int 1), (0, .ref 42), (1, .int (nI m)), (2, .int (nI set)), (3, .int (nI told))]) (dget dX8_doBring 5 rfl) (by decide) rfl ?_
  refine tq_sub [0, 1, 2, 3, 4, 5] (ls' := [(5, .int 0), (4, .int 1), (0, .ref 42), (1, .int (nI m)), (2, .int (nI set)), (3, .int (nI told))]) rfl ?_
  exact k_doBring_loop σ S M m told set hV hm4 ht hset j hk hj (d + 1) (by omega) (S + 1) 0 1 (begM σ) (by omega) (by omega) (SC.beg σ) (BP.y (fun j2 h2 _ => absurd h2 (by omega))) ⟨fun _ => by rw [begM_52]; exact if_pos hm4, fun q => q⟩
theorem brSm_SC {σ τ : Mem} {S m told set : Nat} (h : SC σ τ) : brSm τ S m told set ↔ brSm σ S m told set := by
  unfold brSm
  rw [h.1 42 (by decide) (by decide) (by decide), h.1 43 (by decide) (by decide) (by decide), h.1 44 (by decide) (by decide) (by decide)]
theorem fwV_neg {o : Option Nat} (hb : ∀ b, o = some b → b < 64) (h : fwV o < 0) : o = none := by
  cases o with
  | none => rfl
  | some b => exact absurd h (nI_pos (by have := hb b rfl; omega))
theorem fwV_nn {o : Option Nat} (h : ¬ fwV o < 0) : ∃ b, o = some b := by
  cases o with
  | none => exact absurd (by decide) h
  | some b => exact ⟨b, rfl⟩

set_option maxHeartbeats 4000000 in
set_option maxRecDepth 20000 in
theorem k_sent_loop (σ : Mem) (S M m told : Nat) (hV : VM σ S M) (hm4 : m < 4) (ht : told < 6) (j : Nat) (hk : σ 43 m = nI j) (hj : j < 3) (Q1 : Int32 → Mem → Prop) (d : Nat) (hd : 3 ≤ d) : ∀ (n : Nat) (k : Nat) (τ : Mem) (hm : 2 ^ S < k + n) (hk9 : k ≤ 2 ^ S) (hT : SC σ τ) (hQ : ∀ τ2, SC σ τ2 → Q1 (fwV (fwF (brSm σ S m told) told (2 ^ S))) τ2), PAt (EM d (Pi Q1)) mX8_sent 24 [(4, .int (nI k)), (3, .int (fwV (fwF (brSm σ S m told) told k))), (0, .ref 42), (1, .int (nI m)), (2, .int (nI told))] [] τ := by
  obtain ⟨d, rfl⟩ : ∃ e, d = e + 1 := ⟨d - 1, by omega⟩
  intro n
  induction n with
  | zero => intro k τ hm hk9 hT hQ; exact absurd hm (by omega)
  | succ n ih =>
    intro k τ hm hk9 hT hQ
    obtain ⟨v1, v2, v3, v4⟩ := id (VM_SC hV hT)
    have hp6 := pow_S v3
    have hlt : ∀ b, (fwF (brSm σ S m told) told k) = some b → b < k := fun b hb => fwF_lt k b hb
    refine tq_iload 0 (dget dX8_sent 14 rfl) rfl ?_
    refine tq_iconst (v := 1) (dget dX8_sent 15 rfl) rfl ?_
    refine tq_aload_n 2 (dget dX8_sent 16 rfl) rfl rfl ?_
    refine tq_getI (dget dX8_sent 17 rfl) fX8_81 rfl rfl ?_
    refine tq_ishl (dget dX8_sent 18 rfl) ?_
    refine tq_eqi (y := (nI (2 ^ S))) (by rw [v1]; exact shl_S v3) ?_
    refine tq_icmp_ge (tgt := 96) (dget dX8_sent 19 rfl) (by decide) (fun c_32 => ?_) (fun c_32 => ?_)
    · have g_32 := kle (by omega) (by omega) c_32
      have g_33 : k = 2 ^ S := by omega
      refine tq_iload_n 1 (dget dX8_sent 49 rfl) rfl rfl ?_
      exact tq_iret rfl (dget dX8_sent 50 rfl) ⟨_, rfl, by rw [g_33]; exact hQ τ hT⟩
    · have g_32 := knle (by omega) (by omega) c_32
      refine tq_iload_n 1 (dget dX8_sent 20 rfl) rfl rfl ?_
      refine tq_if_lt (tgt := 51) (dget dX8_sent 21 rfl) (by decide) (fun c_36 => ?_) (fun c_36 => ?_)
      · have g_36 := fwV_neg (fun b hb => by have := hlt b hb; omega) c_36
        refine tq_iconst (v := 1) (dget dX8_sent 27 rfl) rfl ?_
        refine tq_goto (tgt := 56) (dget dX8_sent 28 rfl) (by decide) ?_
        refine tq_istore (ls2 := [(5, .int 1), (4, .int (nI k)), (3, .int (fwV (fwF (brSm σ S m told) told k))), (0, .ref 42), (1, .int (nI m)), (2, .int (nI told))]) (dget dX8_sent 30 rfl) (by decide) rfl ?_
        refine tq_iload 0 (dget dX8_sent 31 rfl) rfl ?_
        refine tq_if_eq (tgt := 88) (dget dX8_sent 32 rfl) (by decide) (fun c_60 => ?_) (fun c_60 => ?_)
        · exact absurd c_60 (by decide)
        · refine tq_iload 1 (dget dX8_sent 33 rfl) rfl ?_
          refine tq_iload_n 5 (dget dX8_sent 34 rfl) rfl rfl ?_
          refine mq_Si (As := [.int (nI k), .int (nI told)]) (rest := []) (dget dX8_sent 35 rfl) lX8_179 miX8_isIn (k_isIn τ k told (by omega) ht d (by omega)) rfl rfl (Nat.le_of_ble_eq_true rfl) (Nat.le_of_ble_eq_true rfl) (fun r_66 σ_66 h_66 => ?_)
          obtain ⟨b_66, e_66⟩ := h_66
          obtain rfl := e_66.symm
          refine tq_if_ne (tgt := 88) (dget dX8_sent 36 rfl) (by decide) (fun c_69 => ?_) (fun c_69 => ?_)
          · have g_69 : ¬ bitN k told = false := fun q => absurd (b_66.t c_69) (by rw [q]; decide)
            refine tq_iload_n 2 (dget dX8_sent 45 rfl) rfl rfl ?_
            refine tq_istore_n (ls2 := [(3, .int (fwV (fwF (brSm σ S m told) told k))), (5, .int 1), (4, .int (nI k)), (0, .ref 42), (1, .int (nI m)), (2, .int (nI told))]) (dget dX8_sent 46 rfl) rfl (by decide) rfl ?_
            refine tq_iinc (v := (nI (k + 1))) (ls2 := [(4, .int (nI (k + 1))), (3, .int (fwV (fwF (brSm σ S m told) told k))), (5, .int 1), (0, .ref 42), (1, .int (nI m)), (2, .int (nI told))]) 2 (dget dX8_sent 47 rfl) rfl (nI_1 k) (by decide) rfl ?_
            refine tq_goto (tgt := 24) (dget dX8_sent 48 rfl) (by decide) ?_
            refine tq_sub [0, 1, 3, 4, 5] (ls' := [(4, .int (nI (k + 1))), (3, .int (fwV (fwF (brSm σ S m told) told k))), (0, .ref 42), (1, .int (nI m)), (2, .int (nI told))]) rfl ?_
            have hc : ¬ fwc (brSm σ S m told) told k (fwF (brSm σ S m told) told k) := fun hc => g_69 hc.2.1
            rw [show fwV (fwF (brSm σ S m told) told k) = fwV (fwF (brSm σ S m told) told (k + 1)) by rw [fwF_n hc]]
            exact ih (k + 1) _ (by omega) (by omega) hT hQ
          · have g_69 : bitN k told = false := by cases h9 : bitN k told; rfl; exact absurd h9 (b_66.f c_69)
            refine tq_aload_n 3 (dget dX8_sent 37 rfl) rfl rfl ?_
            refine tq_iload_n 4 (dget dX8_sent 38 rfl) rfl rfl ?_
            refine tq_iload 1 (dget dX8_sent 39 rfl) rfl ?_
            refine tq_iload_n 5 (dget dX8_sent 40 rfl) rfl rfl ?_
            refine mq_Vi (As := [.int (nI m), .int (nI k), .int (nI told)]) (rest := []) (dget dX8_sent 41 rfl) lX8_185 miX8_doBring (k_doBring τ S M m told k (VM_SC hV hT) hm4 ht (by omega) j ((congrFun (hT.1 43 (by decide) (by decide) (by decide)) m).trans hk) hj d (by omega)) rfl rfl rfl rfl (Nat.le_of_ble_eq_true rfl) (Nat.le_of_ble_eq_true rfl) (fun r_77 σ_77 h_77 => ?_)
            obtain ⟨b_77, s_77⟩ := h_77
            refine tq_if_eq (tgt := 88) (dget dX8_sent 42 rfl) (by decide) (fun c_80 => ?_) (fun c_80 => ?_)
            · refine tq_iload_n 2 (dget dX8_sent 45 rfl) rfl rfl ?_
              refine tq_istore_n (ls2 := [(3, .int (fwV (fwF (brSm σ S m told) told k))), (5, .int 1), (4, .int (nI k)), (0, .ref 42), (1, .int (nI m)), (2, .int (nI told))]) (dget dX8_sent 46 rfl) rfl (by decide) rfl ?_
              refine tq_iinc (v := (nI (k + 1))) (ls2 := [(4, .int (nI (k + 1))), (3, .int (fwV (fwF (brSm σ S m told) told k))), (5, .int 1), (0, .ref 42), (1, .int (nI m)), (2, .int (nI told))]) 2 (dget dX8_sent 47 rfl) rfl (nI_1 k) (by decide) rfl ?_
              refine tq_goto (tgt := 24) (dget dX8_sent 48 rfl) (by decide) ?_
              refine tq_sub [0, 1, 3, 4, 5] (ls' := [(4, .int (nI (k + 1))), (3, .int (fwV (fwF (brSm σ S m told) told k))), (0, .ref 42), (1, .int (nI m)), (2, .int (nI told))]) rfl ?_
              have hc : ¬ fwc (brSm σ S m told) told k (fwF (brSm σ S m told) told k) := fun hc => b_77.f c_80 ((brSm_SC hT).mpr hc.2.2)
              rw [show fwV (fwF (brSm σ S m told) told k) = fwV (fwF (brSm σ S m told) told (k + 1)) by rw [fwF_n hc]]
              exact ih (k + 1) _ (by omega) (by omega) (hT.tr s_77) hQ
            · refine tq_iload 1 (dget dX8_sent 43 rfl) rfl ?_
              refine tq_goto (tgt := 89) (dget dX8_sent 44 rfl) (by decide) ?_
              refine tq_istore_n (ls2 := [(3, .int (nI k)), (5, .int 1), (4, .int (nI k)), (0, .ref 42), (1, .int (nI m)), (2, .int (nI told))]) (dget dX8_sent 46 rfl) rfl (by decide) rfl ?_
              refine tq_iinc (v := (nI (k + 1))) (ls2 := [(4, .int (nI (k + 1))), (3, .int (nI k)), (5, .int 1), (0, .ref 42), (1, .int (nI m)), (2, .int (nI told))]) 2 (dget dX8_sent 47 rfl) rfl (nI_1 k) (by decide) rfl ?_
              refine tq_goto (tgt := 24) (dget dX8_sent 48 rfl) (by decide) ?_
              refine tq_sub [0, 1, 3, 4, 5] (ls' := [(4, .int (nI (k + 1))), (3, .int (nI k)), (0, .ref 42), (1, .int (nI m)), (2, .int (nI told))]) rfl ?_
              have hc : fwc (brSm σ S m told) told k (fwF (brSm σ S m told) told k) := ⟨fun b hb => absurd (g_36.symm.trans hb) (by simp), g_69, (brSm_SC hT).mp (b_77.t c_80)⟩
              rw [show nI k = fwV (fwF (brSm σ S m told) told (k + 1)) by rw [fwF_y hc]; rfl]
              exact ih (k + 1) _ (by omega) (by omega) (hT.tr s_77) hQ
      · obtain ⟨b, g_36⟩ := fwV_nn c_36
        have hb64 := hlt b g_36
        refine tq_iload 0 (dget dX8_sent 22 rfl) rfl ?_
        refine mq_Si (As := [.int (nI k)]) (rest := []) (dget dX8_sent 23 rfl) lX8_182 miX8_bits (k_bits τ k (by omega) d (by omega)) rfl rfl (Nat.le_of_ble_eq_true rfl) (Nat.le_of_ble_eq_true rfl) (fun r_41 σ_41 h_41 => ?_)
        have hck := cntN_le k 6
        have hcb := cntN_le b 6
        obtain ⟨a_41, e_41⟩ := h_41
        obtain rfl := a_41.symm
        obtain rfl := e_41.symm
        refine tq_iload_n 1 (dget dX8_sent 24 rfl) rfl rfl ?_
        refine mq_Si (As := [.int (fwV (fwF (brSm σ S m told) told k))]) (rest := [.int (nI (cntN k 6))]) (dget dX8_sent 25 rfl) lX8_182 miX8_bits (by rw [g_36]; exact k_bits τ b (by omega) d (by omega)) rfl rfl (Nat.le_of_ble_eq_true rfl) (Nat.le_of_ble_eq_true rfl) (fun r_45 σ_45 h_45 => ?_)
        obtain ⟨a_45, e_45⟩ := h_45
        obtain rfl := a_45.symm
        obtain rfl := e_45.symm
        refine tq_icmp_ge (tgt := 55) (dget dX8_sent 26 rfl) (by decide) (fun c_48 => ?_) (fun c_48 => ?_)
        · have g_48 : ¬ cntN k 6 < cntN b 6 := Nat.not_lt.mpr (kle (by omega) (by omega) c_48)
          refine tq_iconst (v := 0) (dget dX8_sent 29 rfl) rfl ?_
          refine tq_istore (ls2 := [(5, .int 0), (4, .int (nI k)), (3, .int (fwV (fwF (brSm σ S m told) told k))), (0, .ref 42), (1, .int (nI m)), (2, .int (nI told))]) (dget dX8_sent 30 rfl) (by decide) rfl ?_
          refine tq_iload 0 (dget dX8_sent 31 rfl) rfl ?_
          refine tq_if_eq (tgt := 88) (dget dX8_sent 32 rfl) (by decide) (fun c_60 => ?_) (fun c_60 => ?_)
          · refine tq_iload_n 2 (dget dX8_sent 45 rfl) rfl rfl ?_
            refine tq_istore_n (ls2 := [(3, .int (fwV (fwF (brSm σ S m told) told k))), (5, .int 0), (4, .int (nI k)), (0, .ref 42), (1, .int (nI m)), (2, .int (nI told))]) (dget dX8_sent 46 rfl) rfl (by decide) rfl ?_
            refine tq_iinc (v := (nI (k + 1))) (ls2 := [(4, .int (nI (k + 1))), (3, .int (fwV (fwF (brSm σ S m told) told k))), (5, .int 0), (0, .ref 42), (1, .int (nI m)), (2, .int (nI told))]) 2 (dget dX8_sent 47 rfl) rfl (nI_1 k) (by decide) rfl ?_
            refine tq_goto (tgt := 24) (dget dX8_sent 48 rfl) (by decide) ?_
            refine tq_sub [0, 1, 3, 4, 5] (ls' := [(4, .int (nI (k + 1))), (3, .int (fwV (fwF (brSm σ S m told) told k))), (0, .ref 42), (1, .int (nI m)), (2, .int (nI told))]) rfl ?_
            have hc : ¬ fwc (brSm σ S m told) told k (fwF (brSm σ S m told) told k) := fun hc => g_48 (hc.1 _ g_36)
            rw [show fwV (fwF (brSm σ S m told) told k) = fwV (fwF (brSm σ S m told) told (k + 1)) by rw [fwF_n hc]]
            exact ih (k + 1) _ (by omega) (by omega) hT hQ
          · exact absurd c_60 (by decide)
        · have g_48 : cntN k 6 < cntN b 6 := knle (by omega) (by omega) c_48
          refine tq_iconst (v := 1) (dget dX8_sent 27 rfl) rfl ?_
          refine tq_goto (tgt := 56) (dget dX8_sent 28 rfl) (by decide) ?_
          refine tq_istore (ls2 := [(5, .int 1), (4, .int (nI k)), (3, .int (fwV (fwF (brSm σ S m told) told k))), (0, .ref 42), (1, .int (nI m)), (2, .int (nI told))]) (dget dX8_sent 30 rfl) (by decide) rfl ?_
          refine tq_iload 0 (dget dX8_sent 31 rfl) rfl ?_
          refine tq_if_eq (tgt := 88) (dget dX8_sent 32 rfl) (by decide) (fun c_60 => ?_) (fun c_60 => ?_)
          · exact absurd c_60 (by decide)
          · refine tq_iload 1 (dget dX8_sent 33 rfl) rfl ?_
            refine tq_iload_n 5 (dget dX8_sent 34 rfl) rfl rfl ?_
            refine mq_Si (As := [.int (nI k), .int (nI told)]) (rest := []) (dget dX8_sent 35 rfl) lX8_179 miX8_isIn (k_isIn τ k told (by omega) ht d (by omega)) rfl rfl (Nat.le_of_ble_eq_true rfl) (Nat.le_of_ble_eq_true rfl) (fun r_66 σ_66 h_66 => ?_)
            obtain ⟨b_66, e_66⟩ := h_66
            obtain rfl := e_66.symm
            refine tq_if_ne (tgt := 88) (dget dX8_sent 36 rfl) (by decide) (fun c_69 => ?_) (fun c_69 => ?_)
            · have g_69 : ¬ bitN k told = false := fun q => absurd (b_66.t c_69) (by rw [q]; decide)
              refine tq_iload_n 2 (dget dX8_sent 45 rfl) rfl rfl ?_
              refine tq_istore_n (ls2 := [(3, .int (fwV (fwF (brSm σ S m told) told k))), (5, .int 1), (4, .int (nI k)), (0, .ref 42), (1, .int (nI m)), (2, .int (nI told))]) (dget dX8_sent 46 rfl) rfl (by decide) rfl ?_
              refine tq_iinc (v := (nI (k + 1))) (ls2 := [(4, .int (nI (k + 1))), (3, .int (fwV (fwF (brSm σ S m told) told k))), (5, .int 1), (0, .ref 42), (1, .int (nI m)), (2, .int (nI told))]) 2 (dget dX8_sent 47 rfl) rfl (nI_1 k) (by decide) rfl ?_
              refine tq_goto (tgt := 24) (dget dX8_sent 48 rfl) (by decide) ?_
              refine tq_sub [0, 1, 3, 4, 5] (ls' := [(4, .int (nI (k + 1))), (3, .int (fwV (fwF (brSm σ S m told) told k))), (0, .ref 42), (1, .int (nI m)), (2, .int (nI told))]) rfl ?_
              have hc : ¬ fwc (brSm σ S m told) told k (fwF (brSm σ S m told) told k) := fun hc => g_69 hc.2.1
              rw [show fwV (fwF (brSm σ S m told) told k) = fwV (fwF (brSm σ S m told) told (k + 1)) by rw [fwF_n hc]]
              exact ih (k + 1) _ (by omega) (by omega) hT hQ
            · have g_69 : bitN k told = false := by cases h9 : bitN k told; rfl; exact absurd h9 (b_66.f c_69)
              refine tq_aload_n 3 (dget dX8_sent 37 rfl) rfl rfl ?_
              refine tq_iload_n 4 (dget dX8_sent 38 rfl) rfl rfl ?_
              refine tq_iload 1 (dget dX8_sent 39 rfl) rfl ?_
              refine tq_iload_n 5 (dget dX8_sent 40 rfl) rfl rfl ?_
              refine mq_Vi (As := [.int (nI m), .int (nI k), .int (nI told)]) (rest := []) (dget dX8_sent 41 rfl) lX8_185 miX8_doBring (k_doBring τ S M m told k (VM_SC hV hT) hm4 ht (by omega) j ((congrFun (hT.1 43 (by decide) (by decide) (by decide)) m).trans hk) hj d (by omega)) rfl rfl rfl rfl (Nat.le_of_ble_eq_true rfl) (Nat.le_of_ble_eq_true rfl) (fun r_77 σ_77 h_77 => ?_)
              obtain ⟨b_77, s_77⟩ := h_77
              refine tq_if_eq (tgt := 88) (dget dX8_sent 42 rfl) (by decide) (fun c_80 => ?_) (fun c_80 => ?_)
              · refine tq_iload_n 2 (dget dX8_sent 45 rfl) rfl rfl ?_
                refine tq_istore_n (ls2 := [(3, .int (fwV (fwF (brSm σ S m told) told k))), (5, .int 1), (4, .int (nI k)), (0, .ref 42), (1, .int (nI m)), (2, .int (nI told))]) (dget dX8_sent 46 rfl) rfl (by decide) rfl ?_
                refine tq_iinc (v := (nI (k + 1))) (ls2 := [(4, .int (nI (k + 1))), (3, .int (fwV (fwF (brSm σ S m told) told k))), (5, .int 1), (0, .ref 42), (1, .int (nI m)), (2, .int (nI told))]) 2 (dget dX8_sent 47 rfl) rfl (nI_1 k) (by decide) rfl ?_
                refine tq_goto (tgt := 24) (dget dX8_sent 48 rfl) (by decide) ?_
                refine tq_sub [0, 1, 3, 4, 5] (ls' := [(4, .int (nI (k + 1))), (3, .int (fwV (fwF (brSm σ S m told) told k))), (0, .ref 42), (1, .int (nI m)), (2, .int (nI told))]) rfl ?_
                have hc : ¬ fwc (brSm σ S m told) told k (fwF (brSm σ S m told) told k) := fun hc => b_77.f c_80 ((brSm_SC hT).mpr hc.2.2)
                rw [show fwV (fwF (brSm σ S m told) told k) = fwV (fwF (brSm σ S m told) told (k + 1)) by rw [fwF_n hc]]
                exact ih (k + 1) _ (by omega) (by omega) (hT.tr s_77) hQ
              · refine tq_iload 1 (dget dX8_sent 43 rfl) rfl ?_
                refine tq_goto (tgt := 89) (dget dX8_sent 44 rfl) (by decide) ?_
                refine tq_istore_n (ls2 := [(3, .int (nI k)), (5, .int 1), (4, .int (nI k)), (0, .ref 42), (1, .int (nI m)), (2, .int (nI told))]) (dget dX8_sent 46 rfl) rfl (by decide) rfl ?_
                refine tq_iinc (v := (nI (k + 1))) (ls2 := [(4, .int (nI (k + 1))), (3, .int (nI k)), (5, .int 1), (0, .ref 42), (1, .int (nI m)), (2, .int (nI told))]) 2 (dget dX8_sent 47 rfl) rfl (nI_1 k) (by decide) rfl ?_
                refine tq_goto (tgt := 24) (dget dX8_sent 48 rfl) (by decide) ?_
                refine tq_sub [0, 1, 3, 4, 5] (ls' := [(4, .int (nI (k + 1))), (3, .int (nI k)), (0, .ref 42), (1, .int (nI m)), (2, .int (nI told))]) rfl ?_
                have hc : fwc (brSm σ S m told) told k (fwF (brSm σ S m told) told k) := ⟨fun b2 hb2 => by cases g_36.symm.trans hb2; exact g_48, g_69, (brSm_SC hT).mp (b_77.t c_80)⟩
                rw [show nI k = fwV (fwF (brSm σ S m told) told (k + 1)) by rw [fwF_y hc]; rfl]
                exact ih (k + 1) _ (by omega) (by omega) (hT.tr s_77) hQ
set_option maxHeartbeats 4000000 in
set_option maxRecDepth 20000 in
theorem k_sent (σ : Mem) (S M : Nat) (hV : VM σ S M) (hkd : kOK σ M) (x y : Int32) (d : Nat) (hd : 3 ≤ d) : PMet d mX8_sent [.ref 42, .int x, .int y] σ (Pi (fun v σ2 => v = cnd (hMm σ x) (cnd (hSm σ y) (fwV (fwF (brSm σ S (cl x) (cl y)) (cl y) (2 ^ S))) (-1)) (-1) ∧ SC σ σ2)) := by
  obtain ⟨d, rfl⟩ : ∃ e, d = e + 1 := ⟨d - 1, by omega⟩
  refine PMet.start (ls0 := [(0, .ref 42), (1, .int x), (2, .int y)]) miX8_sent.1 (Nat.le_of_ble_eq_true rfl) rfl ?_
  refine tq_aload_n 0 (dget dX8_sent 0 rfl) rfl rfl ?_
  refine tq_iload_n 1 (dget dX8_sent 1 rfl) rfl rfl ?_
  refine mq_Vi (As := [.int x]) (rest := []) (dget dX8_sent 2 rfl) lX8_152 miX8_noMaid (k_noMaid σ S M hV x d (by omega)) rfl rfl rfl rfl (Nat.le_of_ble_eq_true rfl) (Nat.le_of_ble_eq_true rfl) (fun r_2 σ_2 h_2 => ?_)
  obtain ⟨b_2, e_2⟩ := h_2
  obtain rfl := e_2.symm
  refine tq_if_ne (tgt := 16) (dget dX8_sent 3 rfl) (by decide) (fun c_5 => ?_) (fun c_5 => ?_)
  · refine tq_iconst (v := (-1)) (dget dX8_sent 8 rfl) rfl ?_
    exact tq_iret rfl (dget dX8_sent 9 rfl) ⟨_, rfl, by simp only [cnd_f (P := hMm σ x) (b_2.t c_5)], SC.rf σ⟩
  · refine tq_aload_n 0 (dget dX8_sent 4 rfl) rfl rfl ?_
    refine tq_iload_n 2 (dget dX8_sent 5 rfl) rfl rfl ?_
    refine mq_Vi (As := [.int y]) (rest := []) (dget dX8_sent 6 rfl) lX8_155 miX8_noSuitor (k_noSuitor σ S M hV y d (by omega)) rfl rfl rfl rfl (Nat.le_of_ble_eq_true rfl) (Nat.le_of_ble_eq_true rfl) (fun r_10 σ_10 h_10 => ?_)
    obtain ⟨b_10, e_10⟩ := h_10
    obtain rfl := e_10.symm
    refine tq_if_eq (tgt := 18) (dget dX8_sent 7 rfl) (by decide) (fun c_13 => ?_) (fun c_13 => ?_)
    · obtain ⟨m, e_m, hm, hm4⟩ := hMm_n hV (Classical.not_not.mp (b_2.f c_5))
      subst e_m
      obtain ⟨s, e_s, hs, hs6⟩ := hSm_n hV (Classical.not_not.mp (b_10.f c_13))
      subst e_s
      obtain ⟨j, hj, hk⟩ := hkd m hm
      refine tq_bipush (v := (-9)) (dget dX8_sent 10 rfl) rfl ?_
      refine tq_istore_n (ls2 := [(3, .int (-9)), (0, .ref 42), (1, .int (nI m)), (2, .int (nI s))]) (dget dX8_sent 11 rfl) rfl (by decide) rfl ?_
      refine tq_iconst (v := 0) (dget dX8_sent 12 rfl) rfl ?_
      refine tq_istore (ls2 := [(4, .int 0), (3, .int (-9)), (0, .ref 42), (1, .int (nI m)), (2, .int (nI s))]) (dget dX8_sent 13 rfl) (by decide) rfl ?_
      refine tq_sub [0, 1, 2, 3, 4] (ls' := [(4, .int 0), (3, .int (-9)), (0, .ref 42), (1, .int (nI m)), (2, .int (nI s))]) rfl ?_
      exact k_sent_loop σ S M m s hV hm4 hs6 j hk hj _ (d + 1) (by omega) (2 ^ S + 1) 0 σ (by omega) (Nat.zero_le _) (SC.rf σ) (fun τ2 h2 => ⟨by simp only [cnd_t (P := hMm σ (nI m)) (Classical.not_not.mp (b_2.f c_5)), cnd_t (P := hSm σ (nI s)) (Classical.not_not.mp (b_10.f c_13)), nI_clamp (show m < 2 ^ 31 by omega), nI_clamp (show s < 2 ^ 31 by omega)], h2⟩)
    · refine tq_iconst (v := (-1)) (dget dX8_sent 8 rfl) rfl ?_
      exact tq_iret rfl (dget dX8_sent 9 rfl) ⟨_, rfl, by simp only [cnd_t (P := hMm σ x) (Classical.not_not.mp (b_2.f c_5)), cnd_f (P := hSm σ y) (b_10.t c_13)], SC.rf σ⟩

/-! ===== the reference (5): firm, brought ===== -/
theorem fsV_some (σ : Mem) (S M : Nat) (y : Int32) (R : Nat) : fsV σ S M y (some R) = figM (layF (begM σ) R S M S 54 (cl y)) := rfl
theorem goodM_y {σ : Mem} {S M R : Nat} (h1 : layOK (begM σ) R S M S) (h2 : frmP (layF (begM σ) R S M S) S M) : goodM σ S M R := ⟨h1, h2⟩
theorem cntG_y {P : Nat → Prop} {k : Nat} (h : P k) : cntG P (k + 1) = cntG P k + 1 := by
  show cntG P k + cnd (P k) 1 0 = _
  rw [cnd_t h]
theorem cntG_n {P : Nat → Prop} {k : Nat} (h : ¬ P k) : cntG P (k + 1) = cntG P k := by
  show cntG P k + cnd (P k) 1 0 = _
  rw [cnd_f h, Nat.add_zero]
theorem cntG_0 {P : Nat → Prop} : ∀ k, (∀ r, r < k → ¬ P r) → cntG P k = 0
  | 0, _ => rfl
  | k + 1, h => by rw [cntG_n (h k (by omega))]; exact cntG_0 k (fun r hr => h r (by omega))
theorem fstG_y {P : Nat → Prop} {k K : Nat} (h : ∀ r, r < k → ¬ P r) (hk : P k) (hK : k < K) : fstG P K = some k := by
  have h1 : fstG P (k + 1) = some k := by
    unfold fstG
    rw [fstG_none k h]
    exact cnd_t hk _ _
  have h2 := fstG_stay h1 (K - (k + 1))
  rw [show k + 1 + (K - (k + 1)) = K by omega] at h2
  exact h2
noncomputable def frmV (σ : Mem) (S M : Nat) (y : Int32) : Int32 := cnd (y = -1) (nI (cntG (goodM σ S M) ((M + 1) ^ S))) (fsV σ S M y (fstG (goodM σ S M) ((M + 1) ^ S)))

set_option maxHeartbeats 4000000 in
set_option maxRecDepth 20000 in
theorem k_firm_loop (σ : Mem) (S M : Nat) (hV : VM σ S M) (y : Int32) (hy : y = -1 ∨ ∃ s, s < 6 ∧ y = nI s) (d : Nat) (hd : 2 ≤ d) : ∀ (n : Nat) (k : Nat) (τ : Mem) (hm : (M + 1) ^ S < k + n) (hk : k ≤ (M + 1) ^ S) (hT : SC σ τ) (hI : ¬ y = -1 → ∀ r, r < k → ¬ goodM σ S M r), PAt (EM d (Pi (fun v σ2 => v = frmV σ S M y ∧ SC σ σ2))) mX8_firm 29 [(3, .int (nI k)), (2, .int (nI (cntG (goodM σ S M) k))), (0, .ref 42), (1, .int y)] [] τ := by
  obtain ⟨d, rfl⟩ : ∃ e, d = e + 1 := ⟨d - 1, by omega⟩
  intro n
  induction n with
  | zero => intro k τ hm hk hT hI; exact absurd hm (by omega)
  | succ n ih =>
    intro k τ hm hk hT hI
    obtain ⟨v1, v2, v3, v4⟩ := id (VM_SC hV hT)
    have hp := pow5 (a := M + 1) (S := S) (by omega) v3
    have hcl := cntG_le (goodM σ S M) k
    refine tq_iload_n 0 (dget dX8_firm 18 rfl) rfl rfl ?_
    refine tq_aload_n 2 (dget dX8_firm 19 rfl) rfl rfl ?_
    refine tq_aload_n 2 (dget dX8_firm 20 rfl) rfl rfl ?_
    refine tq_getI (dget dX8_firm 21 rfl) fX8_88 rfl rfl ?_
    refine tq_eqi (y := (nI M)) v2 ?_
    refine tq_iconst (v := 1) (dget dX8_firm 22 rfl) rfl ?_
    refine tq_iadd (dget dX8_firm 23 rfl) ?_
    refine tq_eqi (y := (nI (M + 1))) (nI_add (M) (1)) ?_
    refine mq_Vi (As := [.int (nI (M + 1))]) (rest := [.int (nI k)]) (dget dX8_firm 24 rfl) lX8_194 miX8_power (k_power τ S M (M + 1) (VM_SC hV hT) (by omega) d (by omega)) rfl rfl rfl rfl (Nat.le_of_ble_eq_true rfl) (Nat.le_of_ble_eq_true rfl) (fun r_37 σ_37 h_37 => ?_)
    obtain ⟨a_37, e_37⟩ := h_37
    obtain rfl := a_37.symm
    obtain rfl := e_37.symm
    refine tq_icmp_ge (tgt := 96) (dget dX8_firm 25 rfl) (by decide) (fun c_40 => ?_) (fun c_40 => ?_)
    · have g_40 := kle (by omega) (by omega) c_40
      have g_41 : k = (M + 1) ^ S := by omega
      refine tq_iload_n 1 (dget dX8_firm 52 rfl) rfl rfl ?_
      exact tq_iret rfl (dget dX8_firm 53 rfl) (by refine ⟨_, rfl, ?_, hT⟩; unfold frmV; by_cases q : y = -1; rw [cnd_t q, g_41]; rw [cnd_f q, fstG_none _ (fun r hr => hI q r (by omega)), cntG_0 k (hI q)]; rfl)
    · have g_40 := knle (by omega) (by omega) c_40
      refine tq_aload_n 2 (dget dX8_firm 26 rfl) rfl rfl ?_
      refine tq_iload_n 0 (dget dX8_firm 27 rfl) rfl rfl ?_
      refine mq_Vi (As := [.int (nI k)]) (rest := []) (dget dX8_firm 28 rfl) lX8_197 miX8_laysMatch (k_lays τ S M k (VM_SC hV hT) (by omega) d (by omega)) rfl rfl rfl rfl (Nat.le_of_ble_eq_true rfl) (Nat.le_of_ble_eq_true rfl) (fun r_45 σ_45 h_45 => ?_)
      obtain ⟨b_45, e_45⟩ := h_45
      rw [beg_SC hT] at b_45 e_45
      obtain rfl := e_45.symm
      have hT2 := layF_ok (R := k) v3 v4 (SC.beg σ) (wfM_beg σ) S (Nat.le_refl _)
      have hT3 := hT2.1
      refine tq_if_eq (tgt := 90) (dget dX8_firm 29 rfl) (by decide) (fun c_48 => ?_) (fun c_48 => ?_)
      · refine tq_iinc (v := (nI (k + 1))) (ls2 := [(3, .int (nI (k + 1))), (2, .int (nI (cntG (goodM σ S M) k))), (0, .ref 42), (1, .int y)]) 0 (dget dX8_firm 50 rfl) rfl (nI_1 k) (by decide) rfl ?_
        refine tq_goto (tgt := 29) (dget dX8_firm 51 rfl) (by decide) ?_
        refine tq_sub [0, 1, 2, 3] (ls' := [(3, .int (nI (k + 1))), (2, .int (nI (cntG (goodM σ S M) k))), (0, .ref 42), (1, .int y)]) rfl ?_
        have hng : ¬ goodM σ S M k := fun q => b_45.f c_48 q.1
        rw [show cntG (goodM σ S M) k = cntG (goodM σ S M) (k + 1) from (cntG_n hng).symm]
        exact ih (k + 1) _ (by omega) (by omega) hT3 (fun hq r hr => if e : r = k then e ▸ hng else hI hq r (by omega))
      · refine tq_aload_n 2 (dget dX8_firm 30 rfl) rfl rfl ?_
        refine mq_Vi (As := []) (rest := []) (dget dX8_firm 31 rfl) lX8_200 miX8_isFirm (k_isFirm (layF (begM σ) k S M S) S M (VM_SC hV hT3) hT2.2 d (by omega)) rfl rfl rfl rfl (Nat.le_of_ble_eq_true rfl) (Nat.le_of_ble_eq_true rfl) (fun r_52 σ_52 h_52 => ?_)
        obtain ⟨b_52, e_52⟩ := h_52
        obtain rfl := e_52.symm
        refine tq_if_eq (tgt := 90) (dget dX8_firm 32 rfl) (by decide) (fun c_55 => ?_) (fun c_55 => ?_)
        · refine tq_iinc (v := (nI (k + 1))) (ls2 := [(3, .int (nI (k + 1))), (2, .int (nI (cntG (goodM σ S M) k))), (0, .ref 42), (1, .int y)]) 0 (dget dX8_firm 50 rfl) rfl (nI_1 k) (by decide) rfl ?_
          refine tq_goto (tgt := 29) (dget dX8_firm 51 rfl) (by decide) ?_
          refine tq_sub [0, 1, 2, 3] (ls' := [(3, .int (nI (k + 1))), (2, .int (nI (cntG (goodM σ S M) k))), (0, .ref 42), (1, .int y)]) rfl ?_
          have hng : ¬ goodM σ S M k := fun q => b_52.f c_55 q.2
          rw [show cntG (goodM σ S M) k = cntG (goodM σ S M) (k + 1) from (cntG_n hng).symm]
          exact ih (k + 1) _ (by omega) (by omega) hT3 (fun hq r hr => if e : r = k then e ▸ hng else hI hq r (by omega))
        · refine tq_iload_n 1 (dget dX8_firm 33 rfl) rfl rfl ?_
          refine tq_if_ne (tgt := 87) (dget dX8_firm 34 rfl) (by decide) (fun c_59 => ?_) (fun c_59 => ?_)
          · refine tq_iinc (v := (nI (cntG (goodM σ S M) k + 1))) (ls2 := [(2, .int (nI (cntG (goodM σ S M) k + 1))), (3, .int (nI k)), (0, .ref 42), (1, .int y)]) 1 (dget dX8_firm 49 rfl) rfl (nI_1 _) (by decide) rfl ?_
            refine tq_iinc (v := (nI (k + 1))) (ls2 := [(3, .int (nI (k + 1))), (2, .int (nI (cntG (goodM σ S M) k + 1))), (0, .ref 42), (1, .int y)]) 1 (dget dX8_firm 50 rfl) rfl (nI_1 k) (by decide) rfl ?_
            refine tq_goto (tgt := 29) (dget dX8_firm 51 rfl) (by decide) ?_
            refine tq_sub [0, 1, 2, 3] (ls' := [(3, .int (nI (k + 1))), (2, .int (nI (cntG (goodM σ S M) k + 1))), (0, .ref 42), (1, .int y)]) rfl ?_
            have hg : goodM σ S M k := goodM_y (b_45.t c_48) (b_52.t c_55)
            have hy1 : y = -1 := by
              rcases hy with q | ⟨s, hs, q⟩
              · exact q
              · exact absurd (by rw [cntG_0 k (hI (by rw [q]; exact nI_nm1 (by omega)))]; rfl) c_59
            rw [show cntG (goodM σ S M) k + 1 = cntG (goodM σ S M) (k + 1) from (cntG_y hg).symm]
            exact ih (k + 1) _ (by omega) (by omega) hT3 (fun hq => absurd hy1 hq)
          · refine tq_iload_n 3 (dget dX8_firm 35 rfl) rfl rfl ?_
            refine tq_if_lt (tgt := 87) (dget dX8_firm 36 rfl) (by decide) (fun c_63 => ?_) (fun c_63 => ?_)
            · refine tq_iinc (v := (nI (cntG (goodM σ S M) k + 1))) (ls2 := [(2, .int (nI (cntG (goodM σ S M) k + 1))), (3, .int (nI k)), (0, .ref 42), (1, .int y)]) 1 (dget dX8_firm 49 rfl) rfl (nI_1 _) (by decide) rfl ?_
              refine tq_iinc (v := (nI (k + 1))) (ls2 := [(3, .int (nI (k + 1))), (2, .int (nI (cntG (goodM σ S M) k + 1))), (0, .ref 42), (1, .int y)]) 1 (dget dX8_firm 50 rfl) rfl (nI_1 k) (by decide) rfl ?_
              refine tq_goto (tgt := 29) (dget dX8_firm 51 rfl) (by decide) ?_
              refine tq_sub [0, 1, 2, 3] (ls' := [(3, .int (nI (k + 1))), (2, .int (nI (cntG (goodM σ S M) k + 1))), (0, .ref 42), (1, .int y)]) rfl ?_
              have hg : goodM σ S M k := goodM_y (b_45.t c_48) (b_52.t c_55)
              have hy1 : y = -1 := by
                rcases hy with q | ⟨s, hs, q⟩
                · exact q
                · rw [q] at c_63; exact absurd c_63 (nI_pos (by omega))
              rw [show cntG (goodM σ S M) k + 1 = cntG (goodM σ S M) (k + 1) from (cntG_y hg).symm]
              exact ih (k + 1) _ (by omega) (by omega) hT3 (fun hq => absurd hy1 hq)
            · obtain ⟨s, hs6, e_s⟩ : ∃ s, s < 6 ∧ y = nI s := by
                rcases hy with q | q
                · exact absurd (by rw [q]; decide) c_63
                · exact q
              subst e_s
              refine tq_aload_n 2 (dget dX8_firm 37 rfl) rfl rfl ?_
              refine tq_getR (dget dX8_firm 38 rfl) fX8_43 rfl rfl ?_
              refine tq_iload_n 3 (dget dX8_firm 39 rfl) rfl rfl ?_
              refine tq_ialdN s (dget dX8_firm 40 rfl) rfl (by decide) rfl (by omega) ?_
              refine tq_if_ge (tgt := 80) (dget dX8_firm 41 rfl) (by decide) (fun c_72 => ?_) (fun c_72 => ?_)
              · refine tq_aload_n 2 (dget dX8_firm 44 rfl) rfl rfl ?_
                refine tq_getR (dget dX8_firm 45 rfl) fX8_43 rfl rfl ?_
                refine tq_iload_n 3 (dget dX8_firm 46 rfl) rfl rfl ?_
                refine tq_ialdN s (dget dX8_firm 47 rfl) rfl (by decide) rfl (by omega) ?_
                exact tq_iret rfl (dget dX8_firm 48 rfl) (by refine ⟨_, rfl, ?_, hT3⟩; have hq : ¬ nI s = -1 := nI_nm1 (by omega); unfold frmV; rw [cnd_f hq, fstG_y (hI hq) (goodM_y (b_45.t c_48) (b_52.t c_55)) g_40, fsV_some, show cl (nI s) = s from nI_clamp (by omega)]; unfold figM; rw [if_neg (Int32.not_lt.mpr c_72)])
              · refine tq_bipush (v := 9) (dget dX8_firm 42 rfl) rfl ?_
                refine tq_goto (tgt := 86) (dget dX8_firm 43 rfl) (by decide) ?_
                exact tq_iret rfl (dget dX8_firm 48 rfl) (by refine ⟨_, rfl, ?_, hT3⟩; have hq : ¬ nI s = -1 := nI_nm1 (by omega); unfold frmV; rw [cnd_f hq, fstG_y (hI hq) (goodM_y (b_45.t c_48) (b_52.t c_55)) g_40, fsV_some, show cl (nI s) = s from nI_clamp (by omega)]; unfold figM; rw [if_pos (Int32.not_le.mp c_72)])
set_option maxHeartbeats 4000000 in
set_option maxRecDepth 20000 in
theorem k_firm (σ : Mem) (S M : Nat) (hV : VM σ S M) (y : Int32) (d : Nat) (hd : 2 ≤ d) : PMet d mX8_firm [.ref 42, .int y] σ (Pi (fun v σ2 => v = cnd (y = -1 ∨ hSm σ y) (cnd (σ 42 2 = 0) (-3) (frmV σ S M y)) (-1) ∧ SC σ σ2)) := by
  obtain ⟨d, rfl⟩ : ∃ e, d = e + 1 := ⟨d - 1, by omega⟩
  refine PMet.start (ls0 := [(0, .ref 42), (1, .int y)]) miX8_firm.1 (Nat.le_of_ble_eq_true rfl) rfl ?_
  refine tq_iload_n 1 (dget dX8_firm 0 rfl) rfl rfl ?_
  refine tq_iconst (v := (-1)) (dget dX8_firm 1 rfl) rfl ?_
  refine tq_icmp_eq (tgt := 15) (dget dX8_firm 2 rfl) (by decide) (fun c_2 => ?_) (fun c_2 => ?_)
  · refine tq_aload_n 0 (dget dX8_firm 9 rfl) rfl rfl ?_
    refine tq_getI (dget dX8_firm 10 rfl) fX8_88 rfl rfl ?_
    refine tq_if_ne (tgt := 25) (dget dX8_firm 11 rfl) (by decide) (fun c_19 => ?_) (fun c_19 => ?_)
    · refine tq_iconst (v := 0) (dget dX8_firm 14 rfl) rfl ?_
      refine tq_istore_n (ls2 := [(2, .int 0), (0, .ref 42), (1, .int y)]) (dget dX8_firm 15 rfl) rfl (by decide) rfl ?_
      refine tq_iconst (v := 0) (dget dX8_firm 16 rfl) rfl ?_
      refine tq_istore_n (ls2 := [(3, .int 0), (2, .int 0), (0, .ref 42), (1, .int y)]) (dget dX8_firm 17 rfl) rfl (by decide) rfl ?_
      refine tq_sub [0, 1, 2, 3] (ls' := [(3, .int 0), (2, .int 0), (0, .ref 42), (1, .int y)]) rfl ?_
      simp only [cnd_t (P := y = -1 ∨ hSm σ y) (Or.inl c_2), cnd_f (P := σ 42 2 = 0) c_19]
      exact k_firm_loop σ S M hV y (Or.inl c_2) (d + 1) (by omega) ((M + 1) ^ S + 1) 0 σ (by omega) (Nat.zero_le _) (SC.rf σ) (fun _ r hr => absurd hr (by omega))
    · refine tq_bipush (v := (-3)) (dget dX8_firm 12 rfl) rfl ?_
      exact tq_iret rfl (dget dX8_firm 13 rfl) ⟨_, rfl, by simp only [cnd_t (P := y = -1 ∨ hSm σ y) (Or.inl c_2), cnd_t (P := σ 42 2 = 0) c_19], SC.rf σ⟩
  · refine tq_aload_n 0 (dget dX8_firm 3 rfl) rfl rfl ?_
    refine tq_iload_n 1 (dget dX8_firm 4 rfl) rfl rfl ?_
    refine mq_Vi (As := [.int y]) (rest := []) (dget dX8_firm 5 rfl) lX8_155 miX8_noSuitor (k_noSuitor σ S M hV y d (by omega)) rfl rfl rfl rfl (Nat.le_of_ble_eq_true rfl) (Nat.le_of_ble_eq_true rfl) (fun r_7 σ_7 h_7 => ?_)
    obtain ⟨b_7, e_7⟩ := h_7
    obtain rfl := e_7.symm
    refine tq_if_eq (tgt := 15) (dget dX8_firm 6 rfl) (by decide) (fun c_10 => ?_) (fun c_10 => ?_)
    · refine tq_aload_n 0 (dget dX8_firm 9 rfl) rfl rfl ?_
      refine tq_getI (dget dX8_firm 10 rfl) fX8_88 rfl rfl ?_
      refine tq_if_ne (tgt := 25) (dget dX8_firm 11 rfl) (by decide) (fun c_19 => ?_) (fun c_19 => ?_)
      · refine tq_iconst (v := 0) (dget dX8_firm 14 rfl) rfl ?_
        refine tq_istore_n (ls2 := [(2, .int 0), (0, .ref 42), (1, .int y)]) (dget dX8_firm 15 rfl) rfl (by decide) rfl ?_
        refine tq_iconst (v := 0) (dget dX8_firm 16 rfl) rfl ?_
        refine tq_istore_n (ls2 := [(3, .int 0), (2, .int 0), (0, .ref 42), (1, .int y)]) (dget dX8_firm 17 rfl) rfl (by decide) rfl ?_
        refine tq_sub [0, 1, 2, 3] (ls' := [(3, .int 0), (2, .int 0), (0, .ref 42), (1, .int y)]) rfl ?_
        simp only [cnd_t (P := y = -1 ∨ hSm σ y) (Or.inr (Classical.not_not.mp (b_7.f c_10))), cnd_f (P := σ 42 2 = 0) c_19]
        exact k_firm_loop σ S M hV y (Or.inr (by obtain ⟨s, e, _, h6⟩ := hSm_n hV (Classical.not_not.mp (b_7.f c_10)); exact ⟨s, h6, e⟩)) (d + 1) (by omega) ((M + 1) ^ S + 1) 0 σ (by omega) (Nat.zero_le _) (SC.rf σ) (fun _ r hr => absurd hr (by omega))
      · refine tq_bipush (v := (-3)) (dget dX8_firm 12 rfl) rfl ?_
        exact tq_iret rfl (dget dX8_firm 13 rfl) ⟨_, rfl, by simp only [cnd_t (P := y = -1 ∨ hSm σ y) (Or.inr (Classical.not_not.mp (b_7.f c_10))), cnd_t (P := σ 42 2 = 0) c_19], SC.rf σ⟩
    · refine tq_iconst (v := (-1)) (dget dX8_firm 7 rfl) rfl ?_
      exact tq_iret rfl (dget dX8_firm 8 rfl) ⟨_, rfl, by simp only [cnd_f (P := y = -1 ∨ hSm σ y) (fun q => q.elim c_2 (b_7.t c_10))], SC.rf σ⟩
set_option maxHeartbeats 4000000 in
set_option maxRecDepth 20000 in
theorem k_brought_inner (σ : Mem) (S M : Nat) (hV : VM σ S M) (hM0 : 0 < M) (hkd : kOK σ M) (R c : Nat) (hR : R < 2 ^ 31) (d : Nat) (hd : 3 ≤ d) : ∀ (n : Nat) (k : Nat) (hm : S < k + n) (hk : k ≤ S) (hout : PAt (EM d (Pi (fun v σ2 => v = nI (cntG (brG σ S M) (M ^ S)) ∧ SC σ σ2))) mX8_brought 70 [(1, .int (nI c)), (2, .int (nI R)), (0, .ref 42)] [] (brF (begM σ) R M S)), PAt (EM d (Pi (fun v σ2 => v = nI (cntG (brG σ S M) (M ^ S)) ∧ SC σ σ2))) mX8_brought 35 [(4, .int (nI k)), (3, .int (nI (R / M ^ k))), (1, .int (nI c)), (2, .int (nI R)), (0, .ref 42)] [] (brF (begM σ) R M k) := by
  obtain ⟨d, rfl⟩ : ∃ e, d = e + 1 := ⟨d - 1, by omega⟩
  intro n
  induction n with
  | zero => intro k hm hk hout; exact absurd hm (by omega)
  | succ n ih =>
    intro k hm hk hout
    obtain ⟨hT, hW⟩ := brF_ok (R := R) (S := S) hV.2.2.1 hV.2.2.2 hM0 (SC.beg σ) (wfM_beg σ) k hk
    obtain ⟨v1, v2, v3, v4⟩ := id (VM_SC hV hT)
    have hdl := Nat.div_le_self R (M ^ k)
    have hdg : digN R M k < M := Nat.mod_lt _ hM0
    obtain ⟨j, hj, hk2⟩ := hkd (digN R M k) hdg
    refine tq_iload 0 (dget dX8_brought 21 rfl) rfl ?_
    refine tq_aload_n 4 (dget dX8_brought 22 rfl) rfl rfl ?_
    refine tq_getI (dget dX8_brought 23 rfl) fX8_81 rfl rfl ?_
    refine tq_icmp_ge (tgt := 70) (dget dX8_brought 24 rfl) (by decide) (fun c_41 => ?_) (fun c_41 => ?_)
    · rw [v1] at c_41
      have g_41 := kle (by omega) (by omega) c_41
      have g_42 : k = S := by omega
      refine tq_sub [2, 3, 4] (ls' := [(1, .int (nI c)), (2, .int (nI R)), (0, .ref 42)]) rfl ?_
      rw [g_42]
      exact hout
    · rw [v1] at c_41
      have g_41 := knle (by omega) (by omega) c_41
      refine tq_aload_n 4 (dget dX8_brought 25 rfl) rfl rfl ?_
      refine tq_iload 0 (dget dX8_brought 26 rfl) rfl ?_
      refine tq_iload_n 1 (dget dX8_brought 27 rfl) rfl rfl ?_
      refine tq_aload_n 4 (dget dX8_brought 28 rfl) rfl rfl ?_
      refine tq_getI (dget dX8_brought 29 rfl) fX8_88 rfl rfl ?_
      refine tq_eqi (y := (nI M)) v2 ?_
      refine tq_irem (dget dX8_brought 30 rfl) (nI_ne0 (by omega) (by omega)) ?_
      refine tq_eqi (y := (nI (digN R M k))) (nI_modN (by omega) (by omega)) ?_
      refine mq_Vi (As := [.int (nI k), .int (nI (digN R M k))]) (rest := []) (dget dX8_brought 31 rfl) lX8_172 miX8_ask (k_ask (brF (begM σ) R M k) (digN R M k) k (by omega) (by omega) j ((congrFun (hT.1 43 (by decide) (by decide) (by decide)) (digN R M k)).trans hk2) hj d (by omega)) rfl rfl rfl rfl (Nat.le_of_ble_eq_true rfl) (Nat.le_of_ble_eq_true rfl) (fun r_53 σ_53 h_53 => ?_)
      obtain ⟨a_53, e_53⟩ := h_53
      obtain rfl := a_53.symm
      obtain rfl := e_53.symm
      refine tq_pop (dget dX8_brought 32 rfl) rfl ?_
      refine tq_iload_n 1 (dget dX8_brought 33 rfl) rfl rfl ?_
      refine tq_aload_n 4 (dget dX8_brought 34 rfl) rfl rfl ?_
      refine tq_getI (dget dX8_brought 35 rfl) fX8_88 rfl rfl ?_
      refine tq_eqi (y := (nI M)) ((congrFun ((askMm_ok (s := k) (m := digN R M k) (by omega) (by omega) hT hW).1.1 42 (by decide) (by decide) (by decide)) 2).trans hV.2.1) ?_
      refine tq_idiv (dget dX8_brought 36 rfl) (nI_ne0 (by omega) (by omega)) ?_
      refine tq_eqi (y := (nI (R / M ^ k / M))) (nI_divN (by omega) (by omega)) ?_
      refine tq_istore_n (ls2 := [(3, .int (nI (R / M ^ k / M))), (4, .int (nI k)), (1, .int (nI c)), (2, .int (nI R)), (0, .ref 42)]) (dget dX8_brought 37 rfl) rfl (by decide) rfl ?_
      refine tq_iinc (v := (nI (k + 1))) (ls2 := [(4, .int (nI (k + 1))), (3, .int (nI (R / M ^ k / M))), (1, .int (nI c)), (2, .int (nI R)), (0, .ref 42)]) 1 (dget dX8_brought 38 rfl) rfl (nI_1 k) (by decide) rfl ?_
      refine tq_goto (tgt := 35) (dget dX8_brought 39 rfl) (by decide) ?_
      refine tq_sub [0, 1, 2, 3, 4] (ls' := [(4, .int (nI (k + 1))), (3, .int (nI (R / M ^ k / M))), (1, .int (nI c)), (2, .int (nI R)), (0, .ref 42)]) rfl ?_
      rw [digN_div]
      exact ih (k + 1) (by omega) (by omega) hout
set_option maxHeartbeats 4000000 in
set_option maxRecDepth 20000 in
theorem k_brought_outer (σ : Mem) (S M : Nat) (hV : VM σ S M) (hM0 : 0 < M) (hkd : kOK σ M) (d : Nat) (hd : 3 ≤ d) : ∀ (n : Nat) (k : Nat) (τ : Mem) (hm : M ^ S < k + n) (hk : k ≤ M ^ S) (hT : SC σ τ), PAt (EM d (Pi (fun v σ2 => v = nI (cntG (brG σ S M) (M ^ S)) ∧ SC σ σ2))) mX8_brought 14 [(2, .int (nI k)), (1, .int (nI (cntG (brG σ S M) k))), (0, .ref 42)] [] τ := by
  obtain ⟨d, rfl⟩ : ∃ e, d = e + 1 := ⟨d - 1, by omega⟩
  intro n
  induction n with
  | zero => intro k τ hm hk hT; exact absurd hm (by omega)
  | succ n ih =>
    intro k τ hm hk hT
    obtain ⟨v1, v2, v3, v4⟩ := id (VM_SC hV hT)
    have hp := pow5 (a := M) (S := S) (by omega) v3
    have hcl := cntG_le (brG σ S M) k
    refine tq_iload_n 0 (dget dX8_brought 9 rfl) rfl rfl ?_
    refine tq_aload_n 2 (dget dX8_brought 10 rfl) rfl rfl ?_
    refine tq_aload_n 2 (dget dX8_brought 11 rfl) rfl rfl ?_
    refine tq_getI (dget dX8_brought 12 rfl) fX8_88 rfl rfl ?_
    refine tq_eqi (y := (nI M)) v2 ?_
    refine mq_Vi (As := [.int (nI M)]) (rest := [.int (nI k)]) (dget dX8_brought 13 rfl) lX8_194 miX8_power (k_power τ S M M (VM_SC hV hT) (by omega) d (by omega)) rfl rfl rfl rfl (Nat.le_of_ble_eq_true rfl) (Nat.le_of_ble_eq_true rfl) (fun r_20 σ_20 h_20 => ?_)
    obtain ⟨a_20, e_20⟩ := h_20
    obtain rfl := a_20.symm
    obtain rfl := e_20.symm
    refine tq_icmp_ge (tgt := 91) (dget dX8_brought 14 rfl) (by decide) (fun c_23 => ?_) (fun c_23 => ?_)
    · have g_23 := kle (by omega) (by omega) c_23
      have g_24 : k = M ^ S := by omega
      refine tq_iload_n 1 (dget dX8_brought 51 rfl) rfl rfl ?_
      exact tq_iret rfl (dget dX8_brought 52 rfl) ⟨_, rfl, by rw [g_24], hT⟩
    · have g_23 := knle (by omega) (by omega) c_23
      refine tq_aload_n 2 (dget dX8_brought 15 rfl) rfl rfl ?_
      refine mq_Vv (As := []) (rest := []) (dget dX8_brought 16 rfl) lX8_169 miX8_begin (k_begin τ d (by omega)) rfl rfl rfl rfl (Nat.le_of_ble_eq_true rfl) (Nat.le_of_ble_eq_true rfl) (fun σ_27 h_27 => ?_)
      obtain rfl := Eq.symm h_27
      rw [beg_SC hT]
      refine tq_iload_n 0 (dget dX8_brought 17 rfl) rfl rfl ?_
      refine tq_istore_n (ls2 := [(3, .int (nI k)), (2, .int (nI k)), (1, .int (nI (cntG (brG σ S M) k))), (0, .ref 42)]) (dget dX8_brought 18 rfl) rfl (by decide) rfl ?_
      refine tq_iconst (v := 0) (dget dX8_brought 19 rfl) rfl ?_
      refine tq_istore (ls2 := [(4, .int 0), (3, .int (nI k)), (2, .int (nI k)), (1, .int (nI (cntG (brG σ S M) k))), (0, .ref 42)]) (dget dX8_brought 20 rfl) (by decide) rfl ?_
      have hT2 := brF_ok (R := k) (S := S) hV.2.2.1 hV.2.2.2 hM0 (SC.beg σ) (wfM_beg σ) S (Nat.le_refl _)
      have hout : PAt (EM (d + 1) (Pi (fun v σ2 => v = nI (cntG (brG σ S M) (M ^ S)) ∧ SC σ σ2))) mX8_brought 70 [(1, .int (nI (cntG (brG σ S M) k))), (2, .int (nI k)), (0, .ref 42)] [] (brF (begM σ) k M S) := by
        refine tq_iload_n 0 (dget dX8_brought 40 rfl) rfl rfl ?_
        refine tq_aload_n 2 (dget dX8_brought 41 rfl) rfl rfl ?_
        refine mq_Vi (As := []) (rest := [.int (nI (cntG (brG σ S M) k))]) (dget dX8_brought 42 rfl) lX8_200 miX8_isFirm (k_isFirm (brF (begM σ) k M S) S M (VM_SC hV hT2.1) hT2.2 d (by omega)) rfl rfl rfl rfl (Nat.le_of_ble_eq_true rfl) (Nat.le_of_ble_eq_true rfl) (fun r_72 σ_72 h_72 => ?_)
        obtain ⟨b_72, e_72⟩ := h_72
        obtain rfl := e_72.symm
        refine tq_if_eq (tgt := 82) (dget dX8_brought 43 rfl) (by decide) (fun c_75 => ?_) (fun c_75 => ?_)
        · refine tq_iconst (v := 0) (dget dX8_brought 46 rfl) rfl ?_
          refine tq_iadd (dget dX8_brought 47 rfl) ?_
          refine tq_eqi (y := (nI ((cntG (brG σ S M) k) + 0))) (nI_add ((cntG (brG σ S M) k)) (0)) ?_
          refine tq_istore_n (ls2 := [(1, .int (nI ((cntG (brG σ S M) k) + 0))), (2, .int (nI k)), (0, .ref 42)]) (dget dX8_brought 48 rfl) rfl (by decide) rfl ?_
          refine tq_iinc (v := (nI (k + 1))) (ls2 := [(2, .int (nI (k + 1))), (1, .int (nI ((cntG (brG σ S M) k) + 0))), (0, .ref 42)]) 1 (dget dX8_brought 49 rfl) rfl (nI_1 k) (by decide) rfl ?_
          refine tq_goto (tgt := 14) (dget dX8_brought 50 rfl) (by decide) ?_
          refine tq_sub [0, 1, 2] (ls' := [(2, .int (nI (k + 1))), (1, .int (nI ((cntG (brG σ S M) k) + 0))), (0, .ref 42)]) rfl ?_
          have hng : ¬ brG σ S M k := b_72.f c_75
          rw [show cntG (brG σ S M) k + 0 = cntG (brG σ S M) (k + 1) from (cntG_n hng).symm]
          exact ih (k + 1) _ (by omega) (by omega) hT2.1
        · refine tq_iconst (v := 1) (dget dX8_brought 44 rfl) rfl ?_
          refine tq_goto (tgt := 83) (dget dX8_brought 45 rfl) (by decide) ?_
          refine tq_iadd (dget dX8_brought 47 rfl) ?_
          refine tq_eqi (y := (nI ((cntG (brG σ S M) k) + 1))) (nI_add ((cntG (brG σ S M) k)) (1)) ?_
          refine tq_istore_n (ls2 := [(1, .int (nI ((cntG (brG σ S M) k) + 1))), (2, .int (nI k)), (0, .ref 42)]) (dget dX8_brought 48 rfl) rfl (by decide) rfl ?_
          refine tq_iinc (v := (nI (k + 1))) (ls2 := [(2, .int (nI (k + 1))), (1, .int (nI ((cntG (brG σ S M) k) + 1))), (0, .ref 42)]) 1 (dget dX8_brought 49 rfl) rfl (nI_1 k) (by decide) rfl ?_
          refine tq_goto (tgt := 14) (dget dX8_brought 50 rfl) (by decide) ?_
          refine tq_sub [0, 1, 2] (ls' := [(2, .int (nI (k + 1))), (1, .int (nI ((cntG (brG σ S M) k) + 1))), (0, .ref 42)]) rfl ?_
          have hg : brG σ S M k := b_72.t c_75
          rw [show cntG (brG σ S M) k + 1 = cntG (brG σ S M) (k + 1) from (cntG_y hg).symm]
          exact ih (k + 1) _ (by omega) (by omega) hT2.1
      refine tq_sub [0, 1, 3, 2, 4] (ls' := [(4, .int 0), (3, .int (nI k)), (1, .int (nI (cntG (brG σ S M) k))), (2, .int (nI k)), (0, .ref 42)]) rfl ?_
      have hX := k_brought_inner σ S M hV hM0 hkd k (cntG (brG σ S M) k) (by omega) (d + 1) (by omega) (S + 1) 0 (by omega) (by omega) hout
      rw [show k / M ^ 0 = k by rw [Nat.pow_zero, Nat.div_one]] at hX
      exact hX
set_option maxHeartbeats 4000000 in
set_option maxRecDepth 20000 in
theorem k_brought (σ : Mem) (S M : Nat) (hV : VM σ S M) (hkd : kOK σ M) (d : Nat) (hd : 3 ≤ d) : PMet d mX8_brought [.ref 42] σ (Pi (fun v σ2 => v = cnd (σ 42 2 = 0) (-3) (nI (cntG (brG σ S M) (M ^ S))) ∧ SC σ σ2)) := by
  obtain ⟨d, rfl⟩ : ∃ e, d = e + 1 := ⟨d - 1, by omega⟩
  refine PMet.start (ls0 := [(0, .ref 42)]) miX8_brought.1 (Nat.le_of_ble_eq_true rfl) rfl ?_
  refine tq_aload_n 0 (dget dX8_brought 0 rfl) rfl rfl ?_
  refine tq_getI (dget dX8_brought 1 rfl) fX8_88 rfl rfl ?_
  refine tq_if_ne (tgt := 10) (dget dX8_brought 2 rfl) (by decide) (fun c_4 => ?_) (fun c_4 => ?_)
  · have hM0 : 0 < M := by rw [hV.2.1] at c_4; exact Nat.pos_of_ne_zero (fun e => c_4 (by rw [e]; rfl))
    refine tq_iconst (v := 0) (dget dX8_brought 5 rfl) rfl ?_
    refine tq_istore_n (ls2 := [(1, .int 0), (0, .ref 42)]) (dget dX8_brought 6 rfl) rfl (by decide) rfl ?_
    refine tq_iconst (v := 0) (dget dX8_brought 7 rfl) rfl ?_
    refine tq_istore_n (ls2 := [(2, .int 0), (1, .int 0), (0, .ref 42)]) (dget dX8_brought 8 rfl) rfl (by decide) rfl ?_
    refine tq_sub [0, 1, 2] (ls' := [(2, .int 0), (1, .int 0), (0, .ref 42)]) rfl ?_
    simp only [cnd_f (P := σ 42 2 = 0) c_4]
    exact k_brought_outer σ S M hV hM0 hkd (d + 1) (by omega) (M ^ S + 1) 0 σ (by omega) (Nat.zero_le _) (SC.rf σ)
  · refine tq_bipush (v := (-3)) (dget dX8_brought 3 rfl) rfl ?_
    exact tq_iret rfl (dget dX8_brought 4 rfl) ⟨_, rfl, by simp only [cnd_t (P := σ 42 2 = 0) c_4], SC.rf σ⟩

/-! ===== the law: its loop ===== -/
theorem lw_body {b L : Nat} {xs : Nat → Int32} {cs : Nat × Nat} (hL : L ≤ 3584) (hcs : cs.1 ≤ 600000 ∧ cs.2 ≤ 7302250) {i : Nat} (hi : i + 7 ≤ L) {σ : Mem} (hI : INV σ) (kk : ∀ σ2, INV σ2 → PAt (lwE b L xs cs) mLw 1162 (lwLs i) [] σ2) : PAt (lwE b L xs cs) mLw 27 (lwLs i) [] σ := by
  refine tq_aload_n 1 (dget dL0 16 rfl) rfl rfl ?_
  refine tq_iload_n 0 (dget dL0 17 rfl) rfl rfl ?_
  refine lw_sld (j := i) (dget dL0 18 rfl) rfl (by omega) hL ?_
  refine tq_bipush (v := 31) (dget dL0 19 rfl) rfl ?_
  refine tq_iand (dget dL0 20 rfl) ?_
  by_cases c : (xs i &&& 31).toInt < 0 ∨ 28 < (xs i &&& 31).toInt
  · exact tq_tableOut (tgt := 1162) (dget dL0 21 rfl) c (by decide) (kk σ hI)
  · obtain ⟨j, hj, e⟩ := lw_sw c
    rw [e]
    rcases lw_29 hj with rfl | rfl | rfl | rfl | rfl | rfl | rfl | rfl | rfl | rfl | rfl | rfl | rfl | rfl | rfl | rfl | rfl | rfl | rfl | rfl | rfl | rfl | rfl | rfl | rfl | rfl | rfl | rfl | rfl
    · exact tq_tableIn (tgt := 164) (off := 131) (dget dL0 21 rfl) (by decide) (by decide) rfl (by decide) (lw_c0 hL hcs hi hI kk)
    · exact tq_tableIn (tgt := 217) (off := 184) (dget dL0 21 rfl) (by decide) (by decide) rfl (by decide) (lw_c1 hL hcs hi hI kk)
    · exact tq_tableIn (tgt := 260) (off := 227) (dget dL0 21 rfl) (by decide) (by decide) rfl (by decide) (lw_c2 hL hcs hi hI kk)
    · exact tq_tableIn (tgt := 313) (off := 280) (dget dL0 21 rfl) (by decide) (by decide) rfl (by decide) (lw_c3 hL hcs hi hI kk)
    · exact tq_tableIn (tgt := 346) (off := 313) (dget dL0 21 rfl) (by decide) (by decide) rfl (by decide) (lw_c4 hL hcs hi hI kk)
    · exact tq_tableIn (tgt := 369) (off := 336) (dget dL0 21 rfl) (by decide) (by decide) rfl (by decide) (lw_c5 hL hcs hi hI kk)
    · exact tq_tableIn (tgt := 402) (off := 369) (dget dL0 21 rfl) (by decide) (by decide) rfl (by decide) (lw_c6 hL hcs hi hI kk)
    · exact tq_tableIn (tgt := 425) (off := 392) (dget dL0 21 rfl) (by decide) (by decide) rfl (by decide) (lw_c7 hL hcs hi hI kk)
    · exact tq_tableIn (tgt := 448) (off := 415) (dget dL0 21 rfl) (by decide) (by decide) rfl (by decide) (lw_c8 hL hcs hi hI kk)
    · exact tq_tableIn (tgt := 462) (off := 429) (dget dL0 21 rfl) (by decide) (by decide) rfl (by decide) (lw_c9 hL hcs hi hI kk)
    · exact tq_tableIn (tgt := 537) (off := 504) (dget dL0 21 rfl) (by decide) (by decide) rfl (by decide) (lw_c10 hL hcs hi hI kk)
    · exact tq_tableIn (tgt := 570) (off := 537) (dget dL0 21 rfl) (by decide) (by decide) rfl (by decide) (lw_c11 hL hcs hi hI kk)
    · exact tq_tableIn (tgt := 593) (off := 560) (dget dL0 21 rfl) (by decide) (by decide) rfl (by decide) (lw_c12 hL hcs hi hI kk)
    · exact tq_tableIn (tgt := 606) (off := 573) (dget dL0 21 rfl) (by decide) (by decide) rfl (by decide) (lw_c13 hL hcs hi hI kk)
    · exact tq_tableIn (tgt := 660) (off := 627) (dget dL0 21 rfl) (by decide) (by decide) rfl (by decide) (lw_c14 hL hcs hi hI kk)
    · exact tq_tableIn (tgt := 729) (off := 696) (dget dL0 21 rfl) (by decide) (by decide) rfl (by decide) (lw_c15 hL hcs hi hI kk)
    · exact tq_tableIn (tgt := 752) (off := 719) (dget dL0 21 rfl) (by decide) (by decide) rfl (by decide) (lw_c16 hL hcs hi hI kk)
    · exact tq_tableIn (tgt := 795) (off := 762) (dget dL0 21 rfl) (by decide) (by decide) rfl (by decide) (lw_c17 hL hcs hi hI kk)
    · exact tq_tableIn (tgt := 818) (off := 785) (dget dL0 21 rfl) (by decide) (by decide) rfl (by decide) (lw_c18 hL hcs hi hI kk)
    · exact tq_tableIn (tgt := 861) (off := 828) (dget dL0 21 rfl) (by decide) (by decide) rfl (by decide) (lw_c19 hL hcs hi hI kk)
    · exact tq_tableIn (tgt := 884) (off := 851) (dget dL0 21 rfl) (by decide) (by decide) rfl (by decide) (lw_c20 hL hcs hi hI kk)
    · exact tq_tableIn (tgt := 927) (off := 894) (dget dL0 21 rfl) (by decide) (by decide) rfl (by decide) (lw_c21 hL hcs hi hI kk)
    · exact tq_tableIn (tgt := 971) (off := 938) (dget dL0 21 rfl) (by decide) (by decide) rfl (by decide) (lw_c22 hL hcs hi hI kk)
    · exact tq_tableIn (tgt := 1034) (off := 1001) (dget dL0 21 rfl) (by decide) (by decide) rfl (by decide) (lw_c23 hL hcs hi hI kk)
    · exact tq_tableIn (tgt := 1057) (off := 1024) (dget dL0 21 rfl) (by decide) (by decide) rfl (by decide) (lw_c24 hL hcs hi hI kk)
    · exact tq_tableIn (tgt := 1080) (off := 1047) (dget dL0 21 rfl) (by decide) (by decide) rfl (by decide) (lw_c25 hL hcs hi hI kk)
    · exact tq_tableIn (tgt := 1113) (off := 1080) (dget dL0 21 rfl) (by decide) (by decide) rfl (by decide) (lw_c26 hL hcs hi hI kk)
    · exact tq_tableIn (tgt := 1126) (off := 1093) (dget dL0 21 rfl) (by decide) (by decide) rfl (by decide) (lw_c27 hL hcs hi hI kk)
    · exact tq_tableIn (tgt := 1139) (off := 1106) (dget dL0 21 rfl) (by decide) (by decide) rfl (by decide) (lw_c28 hL hcs hi hI kk)
theorem lw_loop {b L : Nat} {xs : Nat → Int32} {cs : Nat × Nat} (hL : L ≤ 3584) (hcs : cs.1 ≤ 600000 ∧ cs.2 ≤ 7302250) : ∀ (n i : Nat) (σ : Mem), i ≤ L → L < i + n → INV σ → PAt (lwE b L xs cs) mLw 18 (lwLs i) [] σ
  | 0, i, σ, h1, h2, _ => absurd h2 (by omega)
  | n + 1, i, σ, h1, h2, hI => by
    refine tq_iload_n 0 (dget dL0 10 rfl) rfl rfl ?_
    refine tq_aload_n 1 (dget dL0 11 rfl) rfl rfl ?_
    refine lw_slen (dget dL0 12 rfl) ?_
    refine tq_bipush (v := 7) (dget dL0 13 rfl) rfl ?_
    refine tq_isub (dget dL0 14 rfl) ?_
    refine tq_icmp_gt (tgt := 1168) (dget dL0 15 rfl) (by decide) (fun _ => ?_) (fun c => ?_)
    · refine tq_iconst (v := 1) (dget dL13 58 rfl) rfl ?_
      exact lw_end (dget dL13 59 rfl) hcs
    · have hi : i + 7 ≤ L := lw_le hL h1 c
      refine lw_body hL hcs hi hI (fun σ2 h => ?_)
      refine tq_iinc (v := (nI (i + 7))) (ls2 := lwLs (i + 7)) 0 (dget dL13 56 rfl) rfl (by rw [show Int32.ofInt 7 = nI 7 by decide]; exact nI_add i 7) (by decide) rfl ?_
      refine tq_goto (tgt := 18) (dget dL13 57 rfl) (by decide) ?_
      exact lw_loop hL hcs n (i + 7) σ2 (by omega) (by omega) h

set_option maxHeartbeats 4000000 in
set_option maxRecDepth 100000 in
theorem c_does {G : aG} {Z : aZ} {Y : aY} {k : Nat} {f : Int} (hf : 0 ≤ f ∧ f < 1000) (hk : aSky k) (hB : aB Z) (hP : okP (vP Z)) (hS : okS (vP Z) (vS Z k)) (hd : Z k 6 ≤ 5000) : aSI G yX8_does cX8_does 5 (some .boolean) 5 109 [.ref (G.1 k), .int (aI f)] Z Y (fun x Z' Y' => x = aTr (sDoB (vP Z) (vS Z k) f) ∧ aSp Z Y k (sDoS (vP Z) (vS Z k) f) Z' Y') := by
  refine aS.of (own := RX8) (by decide +kernel) rfl 3 (Nat.le_of_ble_eq_true rfl) (fun X hX hE => ?_)
  show AW X G 0 [some (.ref (G.1 k)), some (.int (aI f)), none, none, none] [] Z Y
  obtain ⟨hk0, hk1, hk2, hk3, hkb, hka⟩ := aSky_sh hk
  have hfP := fP hP
  have hfS := fS hS
  refine a_iload_n hX rfl rfl dX8_does_0 (pc' := 1) rfl ?_
  refine a_bipush hX rfl dX8_does_1 (pc' := 3) rfl ?_
  refine a_idiv hX (by first | omega | (have := sOwed_rng hP hS (p := f / 10 % 10) (by omega); omega)) (by first | omega | (have := sOwed_rng hP hS (p := f / 10 % 10) (by omega); omega)) dX8_does_3 (pc' := 4) rfl ?_
  refine a_istore2 hX rfl (by decide) rfl dX8_does_4 (pc' := 5) rfl ?_
  refine a_iload_n hX rfl rfl dX8_does_5 (pc' := 6) rfl ?_
  refine a_bipush hX rfl dX8_does_6 (pc' := 8) rfl ?_
  refine a_idiv hX (by first | omega | (have := sOwed_rng hP hS (p := f / 10 % 10) (by omega); omega)) (by first | omega | (have := sOwed_rng hP hS (p := f / 10 % 10) (by omega); omega)) dX8_does_8 (pc' := 9) rfl ?_
  refine a_bipush hX rfl dX8_does_9 (pc' := 11) rfl ?_
  refine a_irem hX (by first | omega | (have := sOwed_rng hP hS (p := f / 10 % 10) (by omega); omega)) (by first | omega | (have := sOwed_rng hP hS (p := f / 10 % 10) (by omega); omega)) dX8_does_11 (pc' := 12) rfl ?_
  refine a_istore3 hX rfl (by decide) rfl dX8_does_12 (pc' := 13) rfl ?_
  refine a_iload_n hX rfl rfl dX8_does_13 (pc' := 14) rfl ?_
  refine a_bipush hX rfl dX8_does_14 (pc' := 16) rfl ?_
  refine a_irem hX (by first | omega | (have := sOwed_rng hP hS (p := f / 10 % 10) (by omega); omega)) (by first | omega | (have := sOwed_rng hP hS (p := f / 10 % 10) (by omega); omega)) dX8_does_16 (pc' := 17) rfl ?_
  refine a_istore4 hX (by decide) rfl dX8_does_17 (pc' := 19) rfl ?_
  refine a_iload_n hX rfl rfl dX8_does_19 (pc' := 20) rfl ?_
  have hsw : f / 100 = 0 ∨ f / 100 = 1 ∨ f / 100 = 2 ∨ f / 100 = 3 ∨ f / 100 = 4 ∨ (f / 100 < 0 ∨ 4 < f / 100) := by omega
  rcases hsw with e20 | e20 | e20 | e20 | e20 | e20
  · refine a_tsIn hX dX8_does_20 (by omega) (by omega) (by omega) (off := 36) (by rw [e20]; rfl) (tgt := 56) (by decide) ?_
    refine a_iload_n hX rfl rfl dX8_does_56 (pc' := 57) rfl ?_
    refine a_if_eq hX (by first | omega | (have := sOwed_rng hP hS (p := f / 10 % 10) (by omega); omega)) dX8_does_57 (pc' := 60) rfl (tgt := 62) (by decide) (fun c57 => ?_) (fun c57 => ?_)
    · refine a_aload_n hX rfl rfl dX8_does_62 (pc' := 63) rfl ?_
      refine a_cV0I hX cv_X8_117 (c_goDay hk hB hP hS hd) hk0 (by omega) ⟨by decide, by decide⟩ (Nat.le_of_ble_eq_true rfl) dX8_does_63 (pc' := 66) rfl (fun x63 Z63 Y63 h63 => ?_)
      refine a_pop hX rfl dX8_does_66 (pc' := 67) rfl ?_
      refine a_iconst hX dX8_does_67 (pc' := 68) rfl ?_
      refine a_zret hX (by omega) dX8_does_68 (hE _ _ _ ?_)
      have hq : sDoB (vP Z) (vS Z k) f = decide (f = 0) := by unfold sDoB; rw [if_pos (show f / 100 = 0 by omega)]
      have hq1 : sDoB (vP Z) (vS Z k) f = true := by rw [hq]; exact decide_eq_true (by omega)
      have hs : sDoS (vP Z) (vS Z k) f = dDay (vP Z) (vS Z k) := by unfold sDoS; rw [if_pos hq1, if_pos (show f / 100 = 0 by omega)]
      exact ⟨_, rfl, (aTr_true hq1).symm, by rw [hs]; exact h63.2⟩
    · refine a_iconst hX dX8_does_60 (pc' := 61) rfl ?_
      refine a_zret hX (by omega) dX8_does_61 (hE _ _ _ ?_)
      have hq : sDoB (vP Z) (vS Z k) f = decide (f = 0) := by unfold sDoB; rw [if_pos (show f / 100 = 0 by omega)]
      have hq1 : sDoB (vP Z) (vS Z k) f = false := by rw [hq]; exact decide_eq_false (by omega)
      have hs : sDoS (vP Z) (vS Z k) f = vS Z k := by unfold sDoS; rw [if_neg (by rw [hq1]; decide)]
      exact ⟨_, rfl, (aTr_false hq1).symm, by rw [hs]; exact ⟨rfl, hS, aOff.rf, hB, rfl⟩⟩
  · refine a_tsIn hX dX8_does_20 (by omega) (by omega) (by omega) (off := 49) (by rw [e20]; rfl) (tgt := 69) (by decide) ?_
    refine a_aload_n hX rfl rfl dX8_does_69 (pc' := 70) rfl ?_
    refine a_iload_n hX rfl rfl dX8_does_70 (pc' := 71) rfl ?_
    refine a_iload hX rfl dX8_does_71 (pc' := 73) rfl ?_
    refine a_cV2I hX cv_X8_121 (c_tryDrop (by omega) (by omega) hk hB hP hS hd) hk0 (by omega) ⟨by decide, by decide⟩ (Nat.le_of_ble_eq_true rfl) dX8_does_73 (pc' := 76) rfl (fun x73 Z73 Y73 h73 => ?_)
    refine a_zret hX (by have q1 := h73.1; have q2 := aTr_rng (pHasC (vP Z) (f / 10 % 10) && pHasP (vP Z) (f % 10) && sCan (vP Z) (vS Z k) (f / 10 % 10) (f % 10)); omega) dX8_does_76 (hE _ _ _ ?_)
    have hq : sDoB (vP Z) (vS Z k) f = (pHasC (vP Z) (f / 10 % 10) && pHasP (vP Z) (f % 10) && sCan (vP Z) (vS Z k) (f / 10 % 10) (f % 10)) := by unfold sDoB; rw [if_neg (show ¬ f / 100 = 0 by omega), if_pos (show f / 100 = 1 by omega)]
    have hs : sDoS (vP Z) (vS Z k) f = if (pHasC (vP Z) (f / 10 % 10) && pHasP (vP Z) (f % 10) && sCan (vP Z) (vS Z k) (f / 10 % 10) (f % 10)) = true then dDrop (vP Z) (vS Z k) (f / 10 % 10) (f % 10) else vS Z k := by unfold sDoS; rw [hq, if_neg (show ¬ f / 100 = 0 by omega), if_pos (show f / 100 = 1 by omega)]
    exact ⟨_, rfl, by rw [hq]; exact h73.1, by rw [hs]; exact h73.2⟩
  · refine a_tsIn hX dX8_does_20 (by omega) (by omega) (by omega) (off := 57) (by rw [e20]; rfl) (tgt := 77) (by decide) ?_
    refine a_aload_n hX rfl rfl dX8_does_77 (pc' := 78) rfl ?_
    refine a_getfR hX (r := 3) fl_X8_9 hk0 (by omega) rfl dX8_does_78 (pc' := 81) rfl ?_
    refine a_iload_n hX rfl rfl dX8_does_81 (pc' := 82) rfl ?_
    refine a_cV1i hX cv_X8_72 (c_hasCloud (by omega) hB hP) rfl (by decide) ⟨by decide, by decide⟩ (Nat.le_of_ble_eq_true rfl) dX8_does_82 (pc' := 85) rfl ?_
    refine a_ifb_eq hX dX8_does_85 (pc' := 88) rfl (tgt := 94) (by decide) (fun c85 => ?_) (fun c85 => ?_)
    · refine a_iconst hX dX8_does_94 (pc' := 95) rfl ?_
      refine a_zret hX (by omega) dX8_does_95 (hE _ _ _ ?_)
      have hq : sDoB (vP Z) (vS Z k) f = (pHasC (vP Z) (f / 10 % 10) && decide (f % 10 ≤ 1)) := by unfold sDoB; rw [if_neg (show ¬ f / 100 = 0 by omega), if_neg (show ¬ f / 100 = 1 by omega), if_pos (show f / 100 = 2 by omega)]
      have hq1 : sDoB (vP Z) (vS Z k) f = false := by rw [hq]; first | (rw [c85]; rfl) | (rw [decide_eq_false (by omega), Bool.and_false])
      have hs : sDoS (vP Z) (vS Z k) f = vS Z k := by unfold sDoS; rw [if_neg (by rw [hq1]; decide)]
      exact ⟨_, rfl, (aTr_false hq1).symm, by rw [hs]; exact ⟨rfl, hS, aOff.rf, hB, rfl⟩⟩
    · have hc1 := pHasC_no c85
      refine a_iload hX rfl dX8_does_88 (pc' := 90) rfl ?_
      refine a_iconst hX dX8_does_90 (pc' := 91) rfl ?_
      refine a_icmp_le hX (by first | omega | (have := sOwed_rng hP hS (p := f / 10 % 10) (by omega); omega)) (by first | omega | (have := sOwed_rng hP hS (p := f / 10 % 10) (by omega); omega)) dX8_does_91 (pc' := 94) rfl (tgt := 96) (by decide) (fun c91 => ?_) (fun c91 => ?_)
      · refine a_aload_n hX rfl rfl dX8_does_96 (pc' := 97) rfl ?_
        refine a_iload_n hX rfl rfl dX8_does_97 (pc' := 98) rfl ?_
        refine a_iload hX rfl dX8_does_98 (pc' := 100) rfl ?_
        refine a_iconst hX dX8_does_100 (pc' := 101) rfl ?_
        refine a_icmp_ne hX (by first | omega | (have := sOwed_rng hP hS (p := f / 10 % 10) (by omega); omega)) (by first | omega | (have := sOwed_rng hP hS (p := f / 10 % 10) (by omega); omega)) dX8_does_101 (pc' := 104) rfl (tgt := 108) (by decide) (fun c101 => ?_) (fun c101 => ?_)
        · refine a_iconst hX dX8_does_108 (pc' := 109) rfl ?_
          first
            | rw [show (1 : Int) = aTr (decide (f % 10 = 1)) from (aTr_pos (by omega)).symm]
            | rw [show (0 : Int) = aTr (decide (f % 10 = 1)) from (aTr_neg (by omega)).symm]
          refine a_cV2V hX cv_X8_124 (c_push (on := decide (f % 10 = 1)) hc1 hk hB hP hS hd) hk0 (by omega) ⟨by decide, by decide⟩ (Nat.le_of_ble_eq_true rfl) dX8_does_109 (pc' := 112) rfl (fun Z109 Y109 h109 => ?_)
          refine a_iconst hX dX8_does_112 (pc' := 113) rfl ?_
          refine a_zret hX (by omega) dX8_does_113 (hE _ _ _ ?_)
          have hq : sDoB (vP Z) (vS Z k) f = (pHasC (vP Z) (f / 10 % 10) && decide (f % 10 ≤ 1)) := by unfold sDoB; rw [if_neg (show ¬ f / 100 = 0 by omega), if_neg (show ¬ f / 100 = 1 by omega), if_pos (show f / 100 = 2 by omega)]
          have hq1 : sDoB (vP Z) (vS Z k) f = true := by rw [hq, c85]; exact decide_eq_true (by omega)
          have hs : sDoS (vP Z) (vS Z k) f = dPush (vS Z k) (f / 10 % 10) (decide (f % 10 = 1)) := by unfold sDoS; rw [if_pos hq1, if_neg (show ¬ f / 100 = 0 by omega), if_neg (show ¬ f / 100 = 1 by omega), if_pos (show f / 100 = 2 by omega)]
          exact ⟨_, rfl, (aTr_true hq1).symm, by rw [hs]; exact h109⟩
        · refine a_iconst hX dX8_does_104 (pc' := 105) rfl ?_
          refine a_goto hX dX8_does_105 (tgt := 109) (by decide) ?_
          first
            | rw [show (1 : Int) = aTr (decide (f % 10 = 1)) from (aTr_pos (by omega)).symm]
            | rw [show (0 : Int) = aTr (decide (f % 10 = 1)) from (aTr_neg (by omega)).symm]
          refine a_cV2V hX cv_X8_124 (c_push (on := decide (f % 10 = 1)) hc1 hk hB hP hS hd) hk0 (by omega) ⟨by decide, by decide⟩ (Nat.le_of_ble_eq_true rfl) dX8_does_109 (pc' := 112) rfl (fun Z109 Y109 h109 => ?_)
          refine a_iconst hX dX8_does_112 (pc' := 113) rfl ?_
          refine a_zret hX (by omega) dX8_does_113 (hE _ _ _ ?_)
          have hq : sDoB (vP Z) (vS Z k) f = (pHasC (vP Z) (f / 10 % 10) && decide (f % 10 ≤ 1)) := by unfold sDoB; rw [if_neg (show ¬ f / 100 = 0 by omega), if_neg (show ¬ f / 100 = 1 by omega), if_pos (show f / 100 = 2 by omega)]
          have hq1 : sDoB (vP Z) (vS Z k) f = true := by rw [hq, c85]; exact decide_eq_true (by omega)
          have hs : sDoS (vP Z) (vS Z k) f = dPush (vS Z k) (f / 10 % 10) (decide (f % 10 = 1)) := by unfold sDoS; rw [if_pos hq1, if_neg (show ¬ f / 100 = 0 by omega), if_neg (show ¬ f / 100 = 1 by omega), if_pos (show f / 100 = 2 by omega)]
          exact ⟨_, rfl, (aTr_true hq1).symm, by rw [hs]; exact h109⟩
      · refine a_iconst hX dX8_does_94 (pc' := 95) rfl ?_
        refine a_zret hX (by omega) dX8_does_95 (hE _ _ _ ?_)
        have hq : sDoB (vP Z) (vS Z k) f = (pHasC (vP Z) (f / 10 % 10) && decide (f % 10 ≤ 1)) := by unfold sDoB; rw [if_neg (show ¬ f / 100 = 0 by omega), if_neg (show ¬ f / 100 = 1 by omega), if_pos (show f / 100 = 2 by omega)]
        have hq1 : sDoB (vP Z) (vS Z k) f = false := by rw [hq]; first | (rw [c85]; rfl) | (rw [decide_eq_false (by omega), Bool.and_false])
        have hs : sDoS (vP Z) (vS Z k) f = vS Z k := by unfold sDoS; rw [if_neg (by rw [hq1]; decide)]
        exact ⟨_, rfl, (aTr_false hq1).symm, by rw [hs]; exact ⟨rfl, hS, aOff.rf, hB, rfl⟩⟩
  · refine a_tsIn hX dX8_does_20 (by omega) (by omega) (by omega) (off := 94) (by rw [e20]; rfl) (tgt := 114) (by decide) ?_
    refine a_iload_n hX rfl rfl dX8_does_114 (pc' := 115) rfl ?_
    refine a_if_ne hX (by first | omega | (have := sOwed_rng hP hS (p := f / 10 % 10) (by omega); omega)) dX8_does_115 (pc' := 118) rfl (tgt := 139) (by decide) (fun c115 => ?_) (fun c115 => ?_)
    · refine a_iconst hX dX8_does_139 (pc' := 140) rfl ?_
      refine a_zret hX (by omega) dX8_does_140 (hE _ _ _ ?_)
      have hq : sDoB (vP Z) (vS Z k) f = (decide (f / 10 % 10 = 0) && pHasP (vP Z) (f % 10) && !sTorn (vS Z k) (f % 10)) := by unfold sDoB; rw [if_neg (show ¬ f / 100 = 0 by omega), if_neg (show ¬ f / 100 = 1 by omega), if_neg (show ¬ f / 100 = 2 by omega), if_pos (show f / 100 = 3 by omega)]
      have hq1 : sDoB (vP Z) (vS Z k) f = false := by rw [hq]; first | (rw [decide_eq_false (by omega)]; rfl) | (rw [c127, Bool.and_false]; rfl) | (rw [c136, Bool.not_true, Bool.and_false])
      have hs : sDoS (vP Z) (vS Z k) f = vS Z k := by unfold sDoS; rw [if_neg (by rw [hq1]; decide)]
      exact ⟨_, rfl, (aTr_false hq1).symm, by rw [hs]; exact ⟨rfl, hS, aOff.rf, hB, rfl⟩⟩
    · refine a_aload_n hX rfl rfl dX8_does_118 (pc' := 119) rfl ?_
      refine a_getfR hX (r := 3) fl_X8_9 hk0 (by omega) rfl dX8_does_119 (pc' := 122) rfl ?_
      refine a_iload hX rfl dX8_does_122 (pc' := 124) rfl ?_
      refine a_cV1i hX cv_X8_49 (c_hasPaper (by omega) hB hP) rfl (by decide) ⟨by decide, by decide⟩ (Nat.le_of_ble_eq_true rfl) dX8_does_124 (pc' := 127) rfl ?_
      refine a_ifb_eq hX dX8_does_127 (pc' := 130) rfl (tgt := 139) (by decide) (fun c127 => ?_) (fun c127 => ?_)
      · refine a_iconst hX dX8_does_139 (pc' := 140) rfl ?_
        refine a_zret hX (by omega) dX8_does_140 (hE _ _ _ ?_)
        have hq : sDoB (vP Z) (vS Z k) f = (decide (f / 10 % 10 = 0) && pHasP (vP Z) (f % 10) && !sTorn (vS Z k) (f % 10)) := by unfold sDoB; rw [if_neg (show ¬ f / 100 = 0 by omega), if_neg (show ¬ f / 100 = 1 by omega), if_neg (show ¬ f / 100 = 2 by omega), if_pos (show f / 100 = 3 by omega)]
        have hq1 : sDoB (vP Z) (vS Z k) f = false := by rw [hq]; first | (rw [decide_eq_false (by omega)]; rfl) | (rw [c127, Bool.and_false]; rfl) | (rw [c136, Bool.not_true, Bool.and_false])
        have hs : sDoS (vP Z) (vS Z k) f = vS Z k := by unfold sDoS; rw [if_neg (by rw [hq1]; decide)]
        exact ⟨_, rfl, (aTr_false hq1).symm, by rw [hs]; exact ⟨rfl, hS, aOff.rf, hB, rfl⟩⟩
      · have hp1 := pHasP_no c127
        refine a_aload_n hX rfl rfl dX8_does_130 (pc' := 131) rfl ?_
        refine a_iload hX rfl dX8_does_131 (pc' := 133) rfl ?_
        refine a_cV1i hX cv_X8_53 (c_isTorn (by omega) hk hB hP hS hd) hk0 (by omega) ⟨by decide, by decide⟩ (Nat.le_of_ble_eq_true rfl) dX8_does_133 (pc' := 136) rfl ?_
        refine a_ifb_eq hX dX8_does_136 (pc' := 139) rfl (tgt := 141) (by decide) (fun c136 => ?_) (fun c136 => ?_)
        · refine a_aload_n hX rfl rfl dX8_does_141 (pc' := 142) rfl ?_
          refine a_iload hX rfl dX8_does_142 (pc' := 144) rfl ?_
          refine a_cV1V hX cv_X8_128 (c_rip (by omega) hk hB hP hS hd) hk0 (by omega) ⟨by decide, by decide⟩ (Nat.le_of_ble_eq_true rfl) dX8_does_144 (pc' := 147) rfl (fun Z144 Y144 h144 => ?_)
          refine a_iconst hX dX8_does_147 (pc' := 148) rfl ?_
          refine a_zret hX (by omega) dX8_does_148 (hE _ _ _ ?_)
          have hq : sDoB (vP Z) (vS Z k) f = (decide (f / 10 % 10 = 0) && pHasP (vP Z) (f % 10) && !sTorn (vS Z k) (f % 10)) := by unfold sDoB; rw [if_neg (show ¬ f / 100 = 0 by omega), if_neg (show ¬ f / 100 = 1 by omega), if_neg (show ¬ f / 100 = 2 by omega), if_pos (show f / 100 = 3 by omega)]
          have hq1 : sDoB (vP Z) (vS Z k) f = true := by rw [hq, decide_eq_true (by omega), c127, c136]; rfl
          have hs : sDoS (vP Z) (vS Z k) f = dRip (vS Z k) (f % 10) := by unfold sDoS; rw [if_pos hq1, if_neg (show ¬ f / 100 = 0 by omega), if_neg (show ¬ f / 100 = 1 by omega), if_neg (show ¬ f / 100 = 2 by omega), if_pos (show f / 100 = 3 by omega)]
          exact ⟨_, rfl, (aTr_true hq1).symm, by rw [hs]; exact h144⟩
        · refine a_iconst hX dX8_does_139 (pc' := 140) rfl ?_
          refine a_zret hX (by omega) dX8_does_140 (hE _ _ _ ?_)
          have hq : sDoB (vP Z) (vS Z k) f = (decide (f / 10 % 10 = 0) && pHasP (vP Z) (f % 10) && !sTorn (vS Z k) (f % 10)) := by unfold sDoB; rw [if_neg (show ¬ f / 100 = 0 by omega), if_neg (show ¬ f / 100 = 1 by omega), if_neg (show ¬ f / 100 = 2 by omega), if_pos (show f / 100 = 3 by omega)]
          have hq1 : sDoB (vP Z) (vS Z k) f = false := by rw [hq]; first | (rw [decide_eq_false (by omega)]; rfl) | (rw [c127, Bool.and_false]; rfl) | (rw [c136, Bool.not_true, Bool.and_false])
          have hs : sDoS (vP Z) (vS Z k) f = vS Z k := by unfold sDoS; rw [if_neg (by rw [hq1]; decide)]
          exact ⟨_, rfl, (aTr_false hq1).symm, by rw [hs]; exact ⟨rfl, hS, aOff.rf, hB, rfl⟩⟩
  · refine a_tsIn hX dX8_does_20 (by omega) (by omega) (by omega) (off := 129) (by rw [e20]; rfl) (tgt := 149) (by decide) ?_
    refine a_aload_n hX rfl rfl dX8_does_149 (pc' := 150) rfl ?_
    refine a_getfR hX (r := 3) fl_X8_9 hk0 (by omega) rfl dX8_does_150 (pc' := 153) rfl ?_
    refine a_iload_n hX rfl rfl dX8_does_153 (pc' := 154) rfl ?_
    refine a_cV1i hX cv_X8_49 (c_hasPaper (by omega) hB hP) rfl (by decide) ⟨by decide, by decide⟩ (Nat.le_of_ble_eq_true rfl) dX8_does_154 (pc' := 157) rfl ?_
    refine a_ifb_eq hX dX8_does_157 (pc' := 160) rfl (tgt := 174) (by decide) (fun c157 => ?_) (fun c157 => ?_)
    · refine a_iconst hX dX8_does_174 (pc' := 175) rfl ?_
      refine a_zret hX (by omega) dX8_does_175 (hE _ _ _ ?_)
      have hq : sDoB (vP Z) (vS Z k) f = (pHasP (vP Z) (f / 10 % 10) && decide (sOwed (vP Z) (vS Z k) (f / 10 % 10) ≤ f % 10)) := by unfold sDoB; rw [if_neg (show ¬ f / 100 = 0 by omega), if_neg (show ¬ f / 100 = 1 by omega), if_neg (show ¬ f / 100 = 2 by omega), if_neg (show ¬ f / 100 = 3 by omega), if_pos (show f / 100 = 4 by omega)]
      first
        | (have hq1 : sDoB (vP Z) (vS Z k) f = true := by rw [hq, c157]; exact decide_eq_true (by omega)
           have hs : sDoS (vP Z) (vS Z k) f = vS Z k := by unfold sDoS; rw [if_pos hq1, if_neg (show ¬ f / 100 = 0 by omega), if_neg (show ¬ f / 100 = 1 by omega), if_neg (show ¬ f / 100 = 2 by omega), if_neg (show ¬ f / 100 = 3 by omega)]
           exact ⟨_, rfl, (aTr_true hq1).symm, by rw [hs]; exact ⟨rfl, hS, aOff.rf, hB, rfl⟩⟩)
        | (have hq1 : sDoB (vP Z) (vS Z k) f = false := by rw [hq]; first | (rw [c157]; rfl) | (rw [decide_eq_false (by omega), Bool.and_false])
           have hs : sDoS (vP Z) (vS Z k) f = vS Z k := by unfold sDoS; rw [if_neg (by rw [hq1]; decide)]
           exact ⟨_, rfl, (aTr_false hq1).symm, by rw [hs]; exact ⟨rfl, hS, aOff.rf, hB, rfl⟩⟩)
    · have hp1 := pHasP_no c157
      refine a_aload_n hX rfl rfl dX8_does_160 (pc' := 161) rfl ?_
      refine a_iload_n hX rfl rfl dX8_does_161 (pc' := 162) rfl ?_
      refine a_cV1i hX cv_X8_69 (c_owed (by omega) hk hB hP hS hd) hk0 (by omega) ⟨by decide, by decide⟩ (Nat.le_of_ble_eq_true rfl) dX8_does_162 (pc' := 165) rfl ?_
      refine a_iload hX rfl dX8_does_165 (pc' := 167) rfl ?_
      refine a_icmp_gt hX (by first | omega | (have := sOwed_rng hP hS (p := f / 10 % 10) (by omega); omega)) (by first | omega | (have := sOwed_rng hP hS (p := f / 10 % 10) (by omega); omega)) dX8_does_167 (pc' := 170) rfl (tgt := 174) (by decide) (fun c167 => ?_) (fun c167 => ?_)
      · refine a_iconst hX dX8_does_174 (pc' := 175) rfl ?_
        refine a_zret hX (by omega) dX8_does_175 (hE _ _ _ ?_)
        have hq : sDoB (vP Z) (vS Z k) f = (pHasP (vP Z) (f / 10 % 10) && decide (sOwed (vP Z) (vS Z k) (f / 10 % 10) ≤ f % 10)) := by unfold sDoB; rw [if_neg (show ¬ f / 100 = 0 by omega), if_neg (show ¬ f / 100 = 1 by omega), if_neg (show ¬ f / 100 = 2 by omega), if_neg (show ¬ f / 100 = 3 by omega), if_pos (show f / 100 = 4 by omega)]
        first
          | (have hq1 : sDoB (vP Z) (vS Z k) f = true := by rw [hq, c157]; exact decide_eq_true (by omega)
             have hs : sDoS (vP Z) (vS Z k) f = vS Z k := by unfold sDoS; rw [if_pos hq1, if_neg (show ¬ f / 100 = 0 by omega), if_neg (show ¬ f / 100 = 1 by omega), if_neg (show ¬ f / 100 = 2 by omega), if_neg (show ¬ f / 100 = 3 by omega)]
             exact ⟨_, rfl, (aTr_true hq1).symm, by rw [hs]; exact ⟨rfl, hS, aOff.rf, hB, rfl⟩⟩)
          | (have hq1 : sDoB (vP Z) (vS Z k) f = false := by rw [hq]; first | (rw [c157]; rfl) | (rw [decide_eq_false (by omega), Bool.and_false])
             have hs : sDoS (vP Z) (vS Z k) f = vS Z k := by unfold sDoS; rw [if_neg (by rw [hq1]; decide)]
             exact ⟨_, rfl, (aTr_false hq1).symm, by rw [hs]; exact ⟨rfl, hS, aOff.rf, hB, rfl⟩⟩)
      · refine a_iconst hX dX8_does_170 (pc' := 171) rfl ?_
        refine a_goto hX dX8_does_171 (tgt := 175) (by decide) ?_
        refine a_zret hX (by omega) dX8_does_175 (hE _ _ _ ?_)
        have hq : sDoB (vP Z) (vS Z k) f = (pHasP (vP Z) (f / 10 % 10) && decide (sOwed (vP Z) (vS Z k) (f / 10 % 10) ≤ f % 10)) := by unfold sDoB; rw [if_neg (show ¬ f / 100 = 0 by omega), if_neg (show ¬ f / 100 = 1 by omega), if_neg (show ¬ f / 100 = 2 by omega), if_neg (show ¬ f / 100 = 3 by omega), if_pos (show f / 100 = 4 by omega)]
        first
          | (have hq1 : sDoB (vP Z) (vS Z k) f = true := by rw [hq, c157]; exact decide_eq_true (by omega)
             have hs : sDoS (vP Z) (vS Z k) f = vS Z k := by unfold sDoS; rw [if_pos hq1, if_neg (show ¬ f / 100 = 0 by omega), if_neg (show ¬ f / 100 = 1 by omega), if_neg (show ¬ f / 100 = 2 by omega), if_neg (show ¬ f / 100 = 3 by omega)]
             exact ⟨_, rfl, (aTr_true hq1).symm, by rw [hs]; exact ⟨rfl, hS, aOff.rf, hB, rfl⟩⟩)
          | (have hq1 : sDoB (vP Z) (vS Z k) f = false := by rw [hq]; first | (rw [c157]; rfl) | (rw [decide_eq_false (by omega), Bool.and_false])
             have hs : sDoS (vP Z) (vS Z k) f = vS Z k := by unfold sDoS; rw [if_neg (by rw [hq1]; decide)]
             exact ⟨_, rfl, (aTr_false hq1).symm, by rw [hs]; exact ⟨rfl, hS, aOff.rf, hB, rfl⟩⟩)
  · refine a_tsOut hX dX8_does_20 (by omega) e20 (tgt := 176) (by decide) ?_
    refine a_iconst hX dX8_does_176 (pc' := 177) rfl ?_
    refine a_zret hX (by omega) dX8_does_177 (hE _ _ _ ?_)
    have hq1 : sDoB (vP Z) (vS Z k) f = false := by unfold sDoB; rw [if_neg (by omega), if_neg (by omega), if_neg (by omega), if_neg (by omega), if_neg (by omega)]
    have hs : sDoS (vP Z) (vS Z k) f = vS Z k := by unfold sDoS; rw [if_neg (by rw [hq1]; decide)]
    exact ⟨_, rfl, (aTr_false hq1).symm, by rw [hs]; exact ⟨rfl, hS, aOff.rf, hB, rfl⟩⟩

set_option maxHeartbeats 4000000 in
set_option maxRecDepth 100000 in
theorem c_store {G : aG} {Z : aZ} {Y : aY} {k : Nat} {r : Nat} (hr0 : aSh r = (1, 0, [16])) (hr1 : 19 < r ∧ r < 80) (hk : aSky k) (hB : aB Z) : aSV G yX8_store cX8_store 2 none 1 64 [.ref (G.1 k), .ref (G.1 r)] Z Y (fun Z' Y' => vRow Z' r = vS Z k ∧ (∀ a : Nat, a ≠ r → Z' a = Z a) ∧ aB Z' ∧ Y' = Y) := by
  refine aS.of (own := RX8) (by decide +kernel) rfl 0 (Nat.le_of_ble_eq_true rfl) (fun X hX hE => ?_)
  show AW X G 0 [some (.ref (G.1 k)), some (.ref (G.1 r))] [] Z Y
  obtain ⟨hk0, hk1, hk2, hk3, hkb, hka⟩ := aSky_sh hk
  have hB0 := hB
  refine a_aload_n hX rfl rfl dX8_store_0 (pc' := 1) rfl ?_
  refine a_ifnull hX dX8_store_1 (pc' := 4) rfl ?_
  refine a_aload_n hX rfl rfl dX8_store_4 (pc' := 5) rfl ?_
  refine a_alen hX (v := 16) hr0 (by omega) rfl dX8_store_5 (pc' := 6) rfl ?_
  refine a_bipush hX rfl dX8_store_6 (pc' := 8) rfl ?_
  refine a_icmp_ge hX (by omega) (by omega) dX8_store_8 (pc' := 11) rfl (tgt := 12) (by decide) (fun c8 => ?_) (fun c8 => ?_)
  · refine a_aload_n hX rfl rfl dX8_store_12 (pc' := 13) rfl ?_
    refine a_getfR hX (r := (k + 1)) fl_X8_15 hk0 (by omega) rfl dX8_store_13 (pc' := 16) rfl ?_
    refine a_iconst hX dX8_store_16 (pc' := 17) rfl ?_
    refine a_aload_n hX rfl rfl dX8_store_17 (pc' := 18) rfl ?_
    refine a_iconst hX dX8_store_18 (pc' := 19) rfl ?_
    refine a_iconst hX dX8_store_19 (pc' := 20) rfl ?_
    refine a_copyB hX cs_X8_43 hk1 (by omega) hr0 (by omega) hB (by omega) (by decide) (by decide) rfl dX8_store_20 (pc' := 23) rfl (fun hB => ?_)
    refine a_aload_n hX rfl rfl dX8_store_23 (pc' := 24) rfl ?_
    refine a_getfR hX (r := (k + 2)) fl_X8_19 hk0 (by omega) rfl dX8_store_24 (pc' := 27) rfl ?_
    refine a_iconst hX dX8_store_27 (pc' := 28) rfl ?_
    refine a_aload_n hX rfl rfl dX8_store_28 (pc' := 29) rfl ?_
    refine a_iconst hX dX8_store_29 (pc' := 30) rfl ?_
    refine a_iconst hX dX8_store_30 (pc' := 31) rfl ?_
    refine a_copyB hX cs_X8_43 hk2 (by omega) hr0 (by omega) hB (by omega) (by decide) (by decide) rfl dX8_store_31 (pc' := 34) rfl (fun hB => ?_)
    refine a_aload_n hX rfl rfl dX8_store_34 (pc' := 35) rfl ?_
    refine a_getfR hX (r := (k + 3)) fl_X8_22 hk0 (by omega) rfl dX8_store_35 (pc' := 38) rfl ?_
    refine a_iconst hX dX8_store_38 (pc' := 39) rfl ?_
    refine a_aload_n hX rfl rfl dX8_store_39 (pc' := 40) rfl ?_
    refine a_bipush hX rfl dX8_store_40 (pc' := 42) rfl ?_
    refine a_iconst hX dX8_store_42 (pc' := 43) rfl ?_
    refine a_copyB hX cs_X8_43 hk3 (by omega) hr0 (by omega) hB (by omega) (by decide) (by decide) rfl dX8_store_43 (pc' := 46) rfl (fun hB => ?_)
    refine a_aload_n hX rfl rfl dX8_store_46 (pc' := 47) rfl ?_
    refine a_bipush hX rfl dX8_store_47 (pc' := 49) rfl ?_
    refine a_aload_n hX rfl rfl dX8_store_49 (pc' := 50) rfl ?_
    refine a_getfI hX (ji := 4) rfl hB fl_X8_25 hk0 (by omega) rfl dX8_store_50 (pc' := 53) rfl (fun hb => ?_)
    simp only [aCp_ne (show k ≠ r by omega)]
    refine a_iastB hX hr0 (by omega) (by decide) (by omega) hB (by have := hB0 k 4; omega) dX8_store_53 (pc' := 54) rfl (fun hB => ?_)
    refine a_aload_n hX rfl rfl dX8_store_54 (pc' := 55) rfl ?_
    refine a_bipush hX rfl dX8_store_55 (pc' := 57) rfl ?_
    refine a_aload_n hX rfl rfl dX8_store_57 (pc' := 58) rfl ?_
    refine a_getfI hX (ji := 5) rfl hB fl_X8_29 hk0 (by omega) rfl dX8_store_58 (pc' := 61) rfl (fun hb => ?_)
    simp only [aU_ne (show k ≠ r by omega), aCp_ne (show k ≠ r by omega)]
    refine a_iastB hX hr0 (by omega) (by decide) (by omega) hB (by have := hB0 k 5; omega) dX8_store_61 (pc' := 62) rfl (fun hB => ?_)
    refine a_aload_n hX rfl rfl dX8_store_62 (pc' := 63) rfl ?_
    refine a_bipush hX rfl dX8_store_63 (pc' := 65) rfl ?_
    refine a_aload_n hX rfl rfl dX8_store_65 (pc' := 66) rfl ?_
    refine a_getfI hX (ji := 6) rfl hB fl_X8_32 hk0 (by omega) rfl dX8_store_66 (pc' := 69) rfl (fun hb => ?_)
    simp only [aU_ne (show k ≠ r by omega), aCp_ne (show k ≠ r by omega)]
    refine a_iastB hX hr0 (by omega) (by decide) (by omega) hB (by have := hB0 k 6; omega) dX8_store_69 (pc' := 70) rfl (fun hB => ?_)
    refine a_vret hX dX8_store_70 (hE _ _ _ ?_)
    have hfr : ∀ a : Nat, a ≠ r → (aU (aU (aU (aCp (aCp (aCp Z (k + 1) r 0 0 4) (k + 2) r 0 4 4) (k + 3) r 0 8 5) r 13 (Z k 4)) r 14 (Z k 5)) r 15 (Z k 6)) a = Z a := fun a ha => by
      rw [aU_row ha, aU_row ha, aU_row ha, aCp_row ha, aCp_row ha, aCp_row ha]
    refine ⟨rfl, ?_, hfr, hB, rfl⟩
    rw [← vS_frame (hfr 3 (by omega)) (hfr k (by omega)) (hfr (k + 1) (by omega)) (hfr (k + 2) (by omega)) (hfr (k + 3) (by omega))]
    refine vRow_of (fun j hj => ?_) (fun j hj => ?_) (fun j hj => ?_) ?_ ?_ ?_
    · rw [hfr (k + 1) (by omega), aU_nj (by omega), aU_nj (by omega), aU_nj (by omega), aCp_out (by omega), aCp_out (by omega), aCp_in (by omega), show 0 + (j - 0) = j by omega]
    · rw [hfr (k + 2) (by omega), aU_nj (by omega), aU_nj (by omega), aU_nj (by omega), aCp_out (by omega), aCp_in (by omega), show 0 + (j - 4) = j - 4 by omega, aCp_ne (by omega)]
    · rw [hfr (k + 3) (by omega), aU_nj (by omega), aU_nj (by omega), aU_nj (by omega), aCp_in (by omega), show 0 + (j - 8) = j - 8 by omega, aCp_ne (by omega), aCp_ne (by omega)]
    · rw [hfr k (by omega), aU_nj (by omega), aU_nj (by omega), aU_eq]
    · rw [hfr k (by omega), aU_nj (by omega), aU_eq]
    · rw [hfr k (by omega), aU_eq]
  · exact absurd c8 (by omega)

set_option maxHeartbeats 4000000 in
set_option maxRecDepth 100000 in
theorem c_load {G : aG} {Z : aZ} {Y : aY} {k : Nat} {r : Nat} (hr0 : aSh r = (1, 0, [16])) (hr1 : 19 < r ∧ r < 80) (hR : okS (vP Z) (vRow Z r)) (hk : aSky k) (hB : aB Z) : aSV G yX8_load cX8_load 2 none 1 64 [.ref (G.1 k), .ref (G.1 r)] Z Y (aSp Z Y k (vRow Z r)) := by
  refine aS.of (own := RX8) (by decide +kernel) rfl 0 (Nat.le_of_ble_eq_true rfl) (fun X hX hE => ?_)
  show AW X G 0 [some (.ref (G.1 k)), some (.ref (G.1 r))] [] Z Y
  obtain ⟨hk0, hk1, hk2, hk3, hkb, hka⟩ := aSky_sh hk
  have hB0 := hB
  refine a_aload_n hX rfl rfl dX8_load_0 (pc' := 1) rfl ?_
  refine a_ifnull hX dX8_load_1 (pc' := 4) rfl ?_
  refine a_aload_n hX rfl rfl dX8_load_4 (pc' := 5) rfl ?_
  refine a_alen hX (v := 16) hr0 (by omega) rfl dX8_load_5 (pc' := 6) rfl ?_
  refine a_bipush hX rfl dX8_load_6 (pc' := 8) rfl ?_
  refine a_icmp_ge hX (by omega) (by omega) dX8_load_8 (pc' := 11) rfl (tgt := 12) (by decide) (fun c8 => ?_) (fun c8 => ?_)
  · refine a_aload_n hX rfl rfl dX8_load_12 (pc' := 13) rfl ?_
    refine a_iconst hX dX8_load_13 (pc' := 14) rfl ?_
    refine a_aload_n hX rfl rfl dX8_load_14 (pc' := 15) rfl ?_
    refine a_getfR hX (r := (k + 1)) fl_X8_15 hk0 (by omega) rfl dX8_load_15 (pc' := 18) rfl ?_
    refine a_iconst hX dX8_load_18 (pc' := 19) rfl ?_
    refine a_iconst hX dX8_load_19 (pc' := 20) rfl ?_
    refine a_copyB hX cs_X8_43 hr0 (by omega) hk1 (by omega) hB (by omega) (by decide) (by decide) rfl dX8_load_20 (pc' := 23) rfl (fun hB => ?_)
    refine a_aload_n hX rfl rfl dX8_load_23 (pc' := 24) rfl ?_
    refine a_iconst hX dX8_load_24 (pc' := 25) rfl ?_
    refine a_aload_n hX rfl rfl dX8_load_25 (pc' := 26) rfl ?_
    refine a_getfR hX (r := (k + 2)) fl_X8_19 hk0 (by omega) rfl dX8_load_26 (pc' := 29) rfl ?_
    refine a_iconst hX dX8_load_29 (pc' := 30) rfl ?_
    refine a_iconst hX dX8_load_30 (pc' := 31) rfl ?_
    refine a_copyB hX cs_X8_43 hr0 (by omega) hk2 (by omega) hB (by omega) (by decide) (by decide) rfl dX8_load_31 (pc' := 34) rfl (fun hB => ?_)
    refine a_aload_n hX rfl rfl dX8_load_34 (pc' := 35) rfl ?_
    refine a_bipush hX rfl dX8_load_35 (pc' := 37) rfl ?_
    refine a_aload_n hX rfl rfl dX8_load_37 (pc' := 38) rfl ?_
    refine a_getfR hX (r := (k + 3)) fl_X8_22 hk0 (by omega) rfl dX8_load_38 (pc' := 41) rfl ?_
    refine a_iconst hX dX8_load_41 (pc' := 42) rfl ?_
    refine a_iconst hX dX8_load_42 (pc' := 43) rfl ?_
    refine a_copyB hX cs_X8_43 hr0 (by omega) hk3 (by omega) hB (by omega) (by decide) (by decide) rfl dX8_load_43 (pc' := 46) rfl (fun hB => ?_)
    refine a_aload_n hX rfl rfl dX8_load_46 (pc' := 47) rfl ?_
    refine a_aload_n hX rfl rfl dX8_load_47 (pc' := 48) rfl ?_
    refine a_bipush hX rfl dX8_load_48 (pc' := 50) rfl ?_
    refine a_iald hX hr0 (by omega) (by decide) (by omega) hB dX8_load_50 (pc' := 51) rfl (fun hb => ?_)
    simp only [aCp_ne (show r ≠ k + 1 by omega), aCp_ne (show r ≠ k + 2 by omega), aCp_ne (show r ≠ k + 3 by omega)]
    refine a_putfIB hX fl_X8_25 nf_7_4 (ji := 4) rfl hk0 (by omega) rfl hB (by have := hB0 r 13; omega) dX8_load_51 (pc' := 54) rfl (fun hB => ?_)
    refine a_aload_n hX rfl rfl dX8_load_54 (pc' := 55) rfl ?_
    refine a_aload_n hX rfl rfl dX8_load_55 (pc' := 56) rfl ?_
    refine a_bipush hX rfl dX8_load_56 (pc' := 58) rfl ?_
    refine a_iald hX hr0 (by omega) (by decide) (by omega) hB dX8_load_58 (pc' := 59) rfl (fun hb => ?_)
    simp only [aU_ne (show r ≠ k by omega), aCp_ne (show r ≠ k + 1 by omega), aCp_ne (show r ≠ k + 2 by omega), aCp_ne (show r ≠ k + 3 by omega)]
    refine a_putfIB hX fl_X8_29 nf_7_5 (ji := 5) rfl hk0 (by omega) rfl hB (by have := hB0 r 14; omega) dX8_load_59 (pc' := 62) rfl (fun hB => ?_)
    refine a_aload_n hX rfl rfl dX8_load_62 (pc' := 63) rfl ?_
    refine a_aload_n hX rfl rfl dX8_load_63 (pc' := 64) rfl ?_
    refine a_bipush hX rfl dX8_load_64 (pc' := 66) rfl ?_
    refine a_iald hX hr0 (by omega) (by decide) (by omega) hB dX8_load_66 (pc' := 67) rfl (fun hb => ?_)
    simp only [aU_ne (show r ≠ k by omega), aCp_ne (show r ≠ k + 1 by omega), aCp_ne (show r ≠ k + 2 by omega), aCp_ne (show r ≠ k + 3 by omega)]
    refine a_putfIB hX fl_X8_32 nf_7_6 (ji := 6) rfl hk0 (by omega) rfl hB (by have := hB0 r 15; omega) dX8_load_67 (pc' := 70) rfl (fun hB => ?_)
    refine a_vret hX dX8_load_70 (hE _ _ _ ?_)
    have ho : aOff Z (aU (aU (aU (aCp (aCp (aCp Z r (k + 1) 0 0 4) r (k + 2) 4 0 4) r (k + 3) 8 0 5) k 4 (Z r 13)) k 5 (Z r 14)) k 6 (Z r 15)) k := by
      refine ((aOff.u ?_ (by omega)).u (by omega)).u (by omega)
      intro a ha
      rw [aCp_row (by omega), aCp_row (by omega), aCp_row (by omega)]
    refine ⟨rfl, ?_, hR, ho, hB, rfl⟩
    rw [← vRow_eq (r := r) (ho 3 (by omega)) (ho r (by omega))]
    refine (vRow_of (fun j hj => ?_) (fun j hj => ?_) (fun j hj => ?_) ?_ ?_ ?_).symm
    · rw [ho r (by omega), aU_ne (by omega), aU_ne (by omega), aU_ne (by omega), aCp_ne (by omega), aCp_ne (by omega), aCp_in (by omega), show 0 + (j - 0) = j by omega]
    · rw [ho r (by omega), aU_ne (by omega), aU_ne (by omega), aU_ne (by omega), aCp_ne (by omega), aCp_in (by omega), show 4 + (j - 4 - 0) = j by omega, aCp_ne (by omega)]
    · rw [ho r (by omega), aU_ne (by omega), aU_ne (by omega), aU_ne (by omega), aCp_in (by omega), show 8 + (j - 8 - 0) = j by omega, aCp_ne (by omega), aCp_ne (by omega)]
    · rw [ho r (by omega), aU_nj (by omega), aU_nj (by omega), aU_eq]
    · rw [ho r (by omega), aU_nj (by omega), aU_eq]
    · rw [ho r (by omega), aU_eq]
  · exact absurd c8 (by omega)

set_option maxHeartbeats 4000000 in
set_option maxRecDepth 100000 in
theorem c_begin {G : aG} {Z : aZ} {Y : aY} {k : Nat}  (hk : aSky k) (hB : aB Z) : aSV G yX8_begin cX8_begin 2 none 0 0 [.ref (G.1 k)] Z Y (fun Z' Y' => vS Z' k = sBegin Z ∧ aOff Z Z' k ∧ aB Z' ∧ Y' = Y) := by
  refine aS.of (own := RX8) (by decide +kernel) rfl 1 (Nat.le_of_ble_eq_true rfl) (fun X hX hE => ?_)
  show AW X G 0 [some (.ref (G.1 k)), none] [] Z Y
  obtain ⟨hk0, hk1, hk2, hk3, hkb, hka⟩ := aSky_sh hk
  have hB0 := hB
  refine a_iconst hX dX8_begin_0 (pc' := 1) rfl ?_
  refine a_istore1 hX rfl (by decide) rfl dX8_begin_1 (pc' := 2) rfl ?_
  have L2 : ∀ (n : Nat) (i : Int) (Z1 : aZ), (0 ≤ i ∧ i ≤ 4) → aB Z1 → aOff Z Z1 k → (∀ b : Int, Z1 (k + 1) b = if 0 ≤ b ∧ b < i then Z 5 b else Z (k + 1) b) → (∀ b : Int, Z1 (k + 2) b = if 0 ≤ b ∧ b < i then Z 6 b else Z (k + 2) b) → Z1 (k + 3) = Z (k + 3) → (4 - i).toNat < n → AW X G 2 [some (.ref (G.1 k)), some (.int (aI i))] [] Z1 Y := by
    intro n
    induction n with
    | zero =>
      intro i Z1 hi hB ho hy hf hg hn
      omega
    | succ n ih =>
      intro i Z1 hi hB ho hy hf hg hn
      refine a_iload_n hX rfl rfl dX8_begin_2 (pc' := 3) rfl ?_
      refine a_iconst hX dX8_begin_3 (pc' := 4) rfl ?_
      refine a_icmp_ge hX (by omega) (by omega) dX8_begin_4 (pc' := 7) rfl (tgt := 43) (by decide) (fun c4 => ?_) (fun c4 => ?_)
      · refine a_iconst hX dX8_begin_43 (pc' := 44) rfl ?_
        refine a_istore1 hX rfl (by decide) rfl dX8_begin_44 (pc' := 45) rfl ?_
        have L45 : ∀ (m : Nat) (i : Int) (Z2 : aZ), (0 ≤ i ∧ i ≤ 5) → aB Z2 → aOff Z Z2 k → Z2 (k + 1) = Z1 (k + 1) → Z2 (k + 2) = Z1 (k + 2) → (∀ b : Int, Z2 (k + 3) b = if 0 ≤ b ∧ b < i then 0 else Z (k + 3) b) → (5 - i).toNat < m → AW X G 45 [some (.ref (G.1 k)), some (.int (aI i))] [] Z2 Y := by
          intro m
          induction m with
          | zero =>
            intro i2 Z2 hi2 hB ho2 hy2 hf2 hg2 hm
            omega
          | succ m ih2 =>
            intro i2 Z2 hi2 hB ho2 hy2 hf2 hg2 hm
            refine a_iload_n hX rfl rfl dX8_begin_45 (pc' := 46) rfl ?_
            refine a_iconst hX dX8_begin_46 (pc' := 47) rfl ?_
            refine a_icmp_ge hX (by omega) (by omega) dX8_begin_47 (pc' := 50) rfl (tgt := 63) (by decide) (fun c47 => ?_) (fun c47 => ?_)
            · refine a_aload_n hX rfl rfl dX8_begin_63 (pc' := 64) rfl ?_
              refine a_iconst hX dX8_begin_64 (pc' := 65) rfl ?_
              refine a_putfIB hX fl_X8_25 nf_7_4 (ji := 4) rfl hk0 (by omega) rfl hB (by omega) dX8_begin_65 (pc' := 68) rfl (fun hB => ?_)
              refine a_aload_n hX rfl rfl dX8_begin_68 (pc' := 69) rfl ?_
              refine a_iconst hX dX8_begin_69 (pc' := 70) rfl ?_
              refine a_putfIB hX fl_X8_29 nf_7_5 (ji := 5) rfl hk0 (by omega) rfl hB (by omega) dX8_begin_70 (pc' := 73) rfl (fun hB => ?_)
              refine a_aload_n hX rfl rfl dX8_begin_73 (pc' := 74) rfl ?_
              refine a_iconst hX dX8_begin_74 (pc' := 75) rfl ?_
              refine a_putfIB hX fl_X8_32 nf_7_6 (ji := 6) rfl hk0 (by omega) rfl hB (by omega) dX8_begin_75 (pc' := 78) rfl (fun hB => ?_)
              refine a_vret hX dX8_begin_78 (hE _ _ _ ?_)
              have ho3 := ((ho2.u (a := k) (j := 4) (v := 0) (by omega)).u (a := k) (j := 5) (v := 0) (by omega)).u (a := k) (j := 6) (v := 0) (by omega)
              refine ⟨rfl, ?_, ho3, hB, rfl⟩
              funext j
              unfold vS sBegin
              rw [ho3 3 (by omega), aU_row (show k + 1 ≠ k by omega), aU_row (show k + 1 ≠ k by omega), aU_row (show k + 1 ≠ k by omega), aU_row (show k + 2 ≠ k by omega), aU_row (show k + 2 ≠ k by omega), aU_row (show k + 2 ≠ k by omega), aU_row (show k + 3 ≠ k by omega), aU_row (show k + 3 ≠ k by omega), aU_row (show k + 3 ≠ k by omega), hy2, hf2, hy j, hf (j - 4), hg2 (j - 8)]
              by_cases a0 : j < 0
              · rw [if_pos a0, if_neg (by omega), if_neg (by omega)]
              rw [if_neg a0]
              by_cases a1 : j < 4
              · rw [if_pos a1]
                by_cases b1 : j < Z 3 9
                · rw [if_pos b1, if_pos (by omega), if_pos (by omega)]
                · rw [if_neg b1, if_neg (by omega), if_neg (by omega)]
              rw [if_neg a1]
              by_cases a2 : j < 8
              · rw [if_pos a2]
                by_cases b1 : j - 4 < Z 3 9
                · rw [if_pos b1, if_pos (by omega), if_neg (by omega), if_pos (by omega)]
                · rw [if_neg b1, if_neg (by omega), if_neg (by omega)]
              rw [if_neg a2, if_neg (show ¬ (0 ≤ j ∧ j < 4 ∧ j < Z 3 9) by omega), if_neg (show ¬ (4 ≤ j ∧ j < 8 ∧ j - 4 < Z 3 9) by omega)]
              by_cases a3 : j < 13
              · rw [if_pos a3, if_pos (by omega)]
              rw [if_neg a3]
              simp only [aU_at, if_pos, if_neg (show ¬ (4 : Int) = 6 by decide), if_neg (show ¬ (4 : Int) = 5 by decide), if_neg (show ¬ (5 : Int) = 6 by decide)]
              repeat' split
              all_goals rfl
            · refine a_aload_n hX rfl rfl dX8_begin_50 (pc' := 51) rfl ?_
              refine a_getfR hX (r := (k + 3)) fl_X8_22 hk0 (by omega) rfl dX8_begin_51 (pc' := 54) rfl ?_
              refine a_iload_n hX rfl rfl dX8_begin_54 (pc' := 55) rfl ?_
              refine a_iconst hX dX8_begin_55 (pc' := 56) rfl ?_
              refine a_iastB hX hk3 (by omega) (by decide) (by omega) hB (by omega) dX8_begin_56 (pc' := 57) rfl (fun hB => ?_)
              refine a_iinc1 hX (by decide) rfl dX8_begin_57 (pc' := 60) rfl ?_
              refine a_goto hX dX8_begin_60 (tgt := 45) (by decide) ?_
              refine ih2 (i2 + 1) _ (by omega) hB (ho2.u (by omega)) (by rw [aU_row (by omega)]; exact hy2) (by rw [aU_row (by omega)]; exact hf2) (fun b => ?_) (by omega)
              rw [aU_at]
              by_cases hbi : b = i2
              · subst hbi; rw [if_pos rfl, if_pos (by omega)]
              · rw [if_neg hbi, hg2 b]
                by_cases hbl : 0 ≤ b ∧ b < i2
                · rw [if_pos hbl, if_pos (by omega)]
                · rw [if_neg hbl, if_neg (by omega)]
        exact L45 6 0 Z1 (by omega) hB ho rfl rfl (fun b => by rw [if_neg (by omega), hg]) (by omega)
      · refine a_aload_n hX rfl rfl dX8_begin_7 (pc' := 8) rfl ?_
        refine a_getfR hX (r := (k + 1)) fl_X8_15 hk0 (by omega) rfl dX8_begin_8 (pc' := 11) rfl ?_
        refine a_iload_n hX rfl rfl dX8_begin_11 (pc' := 12) rfl ?_
        refine a_aload_n hX rfl rfl dX8_begin_12 (pc' := 13) rfl ?_
        refine a_getfR hX (r := 3) fl_X8_9 hk0 (by omega) rfl dX8_begin_13 (pc' := 16) rfl ?_
        refine a_getfR hX (r := 5) fl_X8_35 rfl (by decide) rfl dX8_begin_16 (pc' := 19) rfl ?_
        refine a_iload_n hX rfl rfl dX8_begin_19 (pc' := 20) rfl ?_
        refine a_iald hX rfl (by decide) (by decide) (by omega) hB dX8_begin_20 (pc' := 21) rfl (fun hb => ?_)
        refine a_iastB hX hk1 (by omega) (by decide) (by omega) hB (by omega) dX8_begin_21 (pc' := 22) rfl (fun hB => ?_)
        refine a_aload_n hX rfl rfl dX8_begin_22 (pc' := 23) rfl ?_
        refine a_getfR hX (r := (k + 2)) fl_X8_19 hk0 (by omega) rfl dX8_begin_23 (pc' := 26) rfl ?_
        refine a_iload_n hX rfl rfl dX8_begin_26 (pc' := 27) rfl ?_
        refine a_aload_n hX rfl rfl dX8_begin_27 (pc' := 28) rfl ?_
        refine a_getfR hX (r := 3) fl_X8_9 hk0 (by omega) rfl dX8_begin_28 (pc' := 31) rfl ?_
        refine a_getfR hX (r := 6) fl_X8_40 rfl (by decide) rfl dX8_begin_31 (pc' := 34) rfl ?_
        refine a_iload_n hX rfl rfl dX8_begin_34 (pc' := 35) rfl ?_
        refine a_iald hX rfl (by decide) (by decide) (by omega) hB dX8_begin_35 (pc' := 36) rfl (fun hb => ?_)
        refine a_iastB hX hk2 (by omega) (by decide) (by omega) hB (by omega) dX8_begin_36 (pc' := 37) rfl (fun hB => ?_)
        refine a_iinc1 hX (by decide) rfl dX8_begin_37 (pc' := 40) rfl ?_
        refine a_goto hX dX8_begin_40 (tgt := 2) (by decide) ?_
        refine ih (i + 1) _ (by omega) hB ((ho.u (by omega)).u (by omega)) (fun b => ?_) (fun b => ?_) (by rw [aU_row (by omega), aU_row (by omega)]; exact hg) (by omega)
        · rw [aU_ne (by omega), aU_at]
          by_cases hbi : b = i
          · subst hbi; rw [if_pos rfl, if_pos (by omega), ho 5 (by omega)]
          · rw [if_neg hbi, hy b]
            by_cases hbl : 0 ≤ b ∧ b < i
            · rw [if_pos hbl, if_pos (by omega)]
            · rw [if_neg hbl, if_neg (by omega)]
        · rw [aU_at]
          by_cases hbi : b = i
          · subst hbi; rw [if_pos rfl, if_pos (by omega), aU_ne (by omega), ho 6 (by omega)]
          · rw [if_neg hbi, aU_ne (by omega), hf b]
            by_cases hbl : 0 ≤ b ∧ b < i
            · rw [if_pos hbl, if_pos (by omega)]
            · rw [if_neg hbl, if_neg (by omega)]
  exact L2 5 0 Z (by omega) hB aOff.rf (fun b => (if_neg (by omega)).symm) (fun b => (if_neg (by omega)).symm) rfl (by omega)

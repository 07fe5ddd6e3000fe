set_option maxHeartbeats 4000000 in
set_option maxRecDepth 100000 in
theorem q_day {G : aG} {Z : aZ} {Y : aY} (hN : okN Z) (hB : aB Z) (hP : okP (vQ Z)) (hS : okS (vQ Z) (vR Z 0)) (hd : Z 69 15 ≤ 5000) : aSI G yX10_day cX10_day 1 (some .int) 3 73 [.ref (G.1 62)] Z Y (fun x Z' Y' => x = sMore (vQ Z) (vR Z 0) ∧ qDid Z (dDay (vQ Z) (vR Z 0)) Z' ∧ aB Z' ∧ Y' = Y) := by
  refine aS.of (own := RX10) (by decide +kernel) rfl 0 (Nat.le_of_ble_eq_true rfl) (fun X hX hE => ?_)
  show AW X G 0 [some (.ref (G.1 62))] [] Z Y
  have hfQ := fQ hP
  have hfR := fR hS
  have hfR1 : 0 ≤ Z 69 15 := hfR.2.2
  have hfR2 : 0 ≤ Z 69 13 ∧ Z 69 13 < 32 := hfR.1
  refine a_aload_n hX rfl rfl dX10_day_0 (pc' := 1) rfl ?_
  refine a_cV0V hX cv_X10_170 (q_keepAct hB hN) rfl (by decide) ⟨by decide, by decide⟩ (Nat.le_of_ble_eq_true rfl) dX10_day_1 (pc' := 4) rfl (fun Z1 Y1 h1 => ?_)
  obtain ⟨hR, hB, rfl⟩ := h1
  have eP : vQ Z1 = vQ Z := hR.P
  have eS : vR Z1 0 = vR Z 0 := hR.R 0
  have hP1 : okP (vQ Z1) := by rw [eP]; exact hP
  have hS1 : okS (vQ Z1) (vR Z1 0) := by rw [eP, eS]; exact hS
  have e69 : Z1 69 = Z 69 := hR.2 69 (by decide) (by decide)
  have hd1 : Z1 69 15 ≤ 5000 := by rw [e69]; exact hd
  have f1 : Z1 62 1 = Z 62 1 := hR.1.2.2.1 1 (by decide) (by decide)
  have f2 : Z1 62 2 = Z 62 2 := hR.1.2.2.1 2 (by decide) (by decide)
  refine a_aload_n hX rfl rfl dX10_day_4 (pc' := 5) rfl ?_
  refine a_iconst hX dX10_day_5 (pc' := 6) rfl ?_
  refine a_iconst hX dX10_day_6 (pc' := 7) rfl ?_
  refine a_cV2I hX cv_X10_173 (q_passOn (b := true) (by omega) hB hP1 hS1 hd1) rfl (by decide) ⟨by decide, by decide⟩ (Nat.le_of_ble_eq_true rfl) dX10_day_7 (pc' := 10) rfl (fun x7 Z7 Y7 h7 => ?_)
  obtain ⟨e7, g7⟩ := h7
  rw [eP, eS] at e7 g7
  have hB := g7.2.2.2.2.1
  have D7 : qDid Z (dDay (vQ Z) (vR Z 0)) Z7 := hR.did g7
  have eY := g7.2.2.2.2.2
  subst eY
  refine a_iret hX dX10_day_10 (hE _ _ _ ?_)
  exact ⟨_, rfl, e7, D7, hB, rfl⟩

set_option maxHeartbeats 4000000 in
set_option maxRecDepth 100000 in
theorem q_fall {G : aG} {Z : aZ} {Y : aY} {c p : Int} (hc : -2147483648 ≤ c ∧ c < 2147483648) (hp : -2147483648 ≤ p ∧ p < 2147483648) (hN : okN Z) (hB : aB Z) (hP : okP (vQ Z)) (hS : okS (vQ Z) (vR Z 0)) (hd : Z 69 15 ≤ 5000) : aSI G yX10_fall cX10_fall 3 (some .int) 3 70 [.ref (G.1 62), .int (aI c), .int (aI p)] Z Y (fun x Z' Y' => x = (if (pHasC (vQ Z) c && pHasP (vQ Z) p) = true then (if sCan (vQ Z) (vR Z 0) c p = true then sOwed (vQ Z) (dDrop (vQ Z) (vR Z 0) c p) p else -3) else -1) ∧ (if ((pHasC (vQ Z) c && pHasP (vQ Z) p) && sCan (vQ Z) (vR Z 0) c p) = true then qDid Z (dDrop (vQ Z) (vR Z 0) c p) Z' else Z' = Z) ∧ aB Z' ∧ Y' = Y) := by
  refine aS.of (own := RX10) (by decide +kernel) rfl 0 (Nat.le_of_ble_eq_true rfl) (fun X hX hE => ?_)
  show AW X G 0 [some (.ref (G.1 62)), some (.int (aI c)), some (.int (aI p))] [] Z Y
  have hfQ := fQ hP
  have hfR := fR hS
  have hfR1 : 0 ≤ Z 69 15 := hfR.2.2
  have hfR2 : 0 ≤ Z 69 13 ∧ Z 69 13 < 32 := hfR.1
  refine a_aload_n hX rfl rfl dX10_fall_0 (pc' := 1) rfl ?_
  refine a_iload_n hX rfl rfl dX10_fall_1 (pc' := 2) rfl ?_
  refine a_cV1i hX cv_X10_118 (q_isCloud (by omega) hB hP) rfl (by decide) ⟨by decide, by decide⟩ (Nat.le_of_ble_eq_true rfl) dX10_fall_2 (pc' := 5) rfl ?_
  refine a_ifb_eq hX dX10_fall_5 (pc' := 8) rfl (tgt := 16) (by decide) (fun c5 => ?_) (fun c5 => ?_)
  · refine a_iconst hX dX10_fall_16 (pc' := 17) rfl ?_
    refine a_iret hX dX10_fall_17 (hE _ _ _ ?_)
    first
      | exact ⟨_, rfl, by rw [c5]; rfl, by rw [c5]; exact rfl, hB, rfl⟩
      | exact ⟨_, rfl, by rw [c5, c13]; rfl, by rw [c5, c13]; exact rfl, hB, rfl⟩
  · have hc1 := qHasC_no c5
    refine a_aload_n hX rfl rfl dX10_fall_8 (pc' := 9) rfl ?_
    refine a_iload_n hX rfl rfl dX10_fall_9 (pc' := 10) rfl ?_
    refine a_cV1i hX cv_X10_122 (q_isPaper (by omega) hB hP) rfl (by decide) ⟨by decide, by decide⟩ (Nat.le_of_ble_eq_true rfl) dX10_fall_10 (pc' := 13) rfl ?_
    refine a_ifb_ne hX dX10_fall_13 (pc' := 16) rfl (tgt := 18) (by decide) (fun c13 => ?_) (fun c13 => ?_)
    · have hp1 := qHasP_no c13
      refine a_aload_n hX rfl rfl dX10_fall_18 (pc' := 19) rfl ?_
      refine a_iconst hX dX10_fall_19 (pc' := 20) rfl ?_
      refine a_iload_n hX rfl rfl dX10_fall_20 (pc' := 21) rfl ?_
      refine a_iload_n hX rfl rfl dX10_fall_21 (pc' := 22) rfl ?_
      refine a_cV3i hX cv_X10_149 (q_canFall (by omega) (by omega) (by omega) hB hP hS hd) rfl (by decide) ⟨by decide, by decide⟩ (Nat.le_of_ble_eq_true rfl) dX10_fall_22 (pc' := 25) rfl ?_
      refine a_ifb_ne hX dX10_fall_25 (pc' := 28) rfl (tgt := 31) (by decide) (fun c25 => ?_) (fun c25 => ?_)
      · simp only [c5, c13, Bool.true_and] at c25
        refine a_aload_n hX rfl rfl dX10_fall_31 (pc' := 32) rfl ?_
        refine a_cV0V hX cv_X10_170 (q_keepAct hB hN) rfl (by decide) ⟨by decide, by decide⟩ (Nat.le_of_ble_eq_true rfl) dX10_fall_32 (pc' := 35) rfl (fun Z32 Y32 h32 => ?_)
        obtain ⟨hR, hB, rfl⟩ := h32
        have eP : vQ Z32 = vQ Z := hR.P
        have eS : vR Z32 0 = vR Z 0 := hR.R 0
        have hP1 : okP (vQ Z32) := by rw [eP]; exact hP
        have hS1 : okS (vQ Z32) (vR Z32 0) := by rw [eP, eS]; exact hS
        have e69 : Z32 69 = Z 69 := hR.2 69 (by decide) (by decide)
        have hd1 : Z32 69 15 ≤ 5000 := by rw [e69]; exact hd
        have f1 : Z32 62 1 = Z 62 1 := hR.1.2.2.1 1 (by decide) (by decide)
        have f2 : Z32 62 2 = Z 62 2 := hR.1.2.2.1 2 (by decide) (by decide)
        refine a_aload_n hX rfl rfl dX10_fall_35 (pc' := 36) rfl ?_
        refine a_iconst hX dX10_fall_36 (pc' := 37) rfl ?_
        refine a_iload_n hX rfl rfl dX10_fall_37 (pc' := 38) rfl ?_
        refine a_iload_n hX rfl rfl dX10_fall_38 (pc' := 39) rfl ?_
        refine a_cV3V hX cv_X10_177 (q_fallOn (by rw [f1]; exact hc1) (by rw [f2]; exact hp1) (by rw [eP, eS]; exact (sCan_takes c25).1) (by rw [eP, eS]; exact (sCan_takes c25).2) (by omega) hB hP1 hS1 hd1) rfl (by decide) ⟨by decide, by decide⟩ (Nat.le_of_ble_eq_true rfl) dX10_fall_39 (pc' := 42) rfl (fun Z39 Y39 h39 => ?_)
        rw [eP, eS] at h39
        have D39 := hR.did h39
        have eP9 : vQ Z39 = vQ Z := by rw [rSp_P h39, eP]
        have hP9 : okP (vQ Z39) := by rw [eP9]; exact hP
        have hS9 : okS (vQ Z39) (vR Z39 0) := by rw [eP9, h39.1]; exact D39.2.1
        have hd9 : Z39 69 15 ≤ 5000 := by
          have e : vR Z39 0 15 = vR Z 0 15 := by rw [h39.1]; unfold dDrop; rw [if_neg (by omega), if_neg (by omega)]
          rw [vR_hi (by omega), vR_hi (by omega)] at e
          have e1 : Z39 69 15 = Z 69 15 := e
          omega
        obtain ⟨e39, -, -, -, hB, rfl⟩ := h39
        refine a_aload_n hX rfl rfl dX10_fall_42 (pc' := 43) rfl ?_
        refine a_iconst hX dX10_fall_43 (pc' := 44) rfl ?_
        refine a_iload_n hX rfl rfl dX10_fall_44 (pc' := 45) rfl ?_
        refine a_cV2i hX cv_X10_125 (q_owed (by omega) (by omega) hB hP9 hS9 hd9) rfl (by decide) ⟨by decide, by decide⟩ (Nat.le_of_ble_eq_true rfl) dX10_fall_45 (pc' := 48) rfl ?_
        refine a_iret hX dX10_fall_48 (hE _ _ _ ?_)
        exact ⟨_, rfl, by rw [c5, c13, c25, eP9, e39]; rfl, by rw [c5, c13, c25]; exact D39, hB, rfl⟩
      · simp only [c5, c13, Bool.true_and] at c25
        refine a_bipush hX rfl dX10_fall_28 (pc' := 30) rfl ?_
        refine a_iret hX dX10_fall_30 (hE _ _ _ ?_)
        exact ⟨_, rfl, by rw [c5, c13, c25]; rfl, by rw [c5, c13, c25]; exact rfl, hB, rfl⟩
    · refine a_iconst hX dX10_fall_16 (pc' := 17) rfl ?_
      refine a_iret hX dX10_fall_17 (hE _ _ _ ?_)
      first
        | exact ⟨_, rfl, by rw [c5]; rfl, by rw [c5]; exact rfl, hB, rfl⟩
        | exact ⟨_, rfl, by rw [c5, c13]; rfl, by rw [c5, c13]; exact rfl, hB, rfl⟩

set_option maxHeartbeats 4000000 in
set_option maxRecDepth 100000 in
theorem q_puff {G : aG} {Z : aZ} {Y : aY} {c : Int} {on : Bool} (hc : -2147483648 ≤ c ∧ c < 2147483648) (hN : okN Z) (hB : aB Z) (hP : okP (vQ Z)) (hS : okS (vQ Z) (vR Z 0)) (hd : Z 69 15 ≤ 5000) : aSI G yX10_puff cX10_puff 3 (some .int) 2 46 [.ref (G.1 62), .int (aI c), .int (aI (aTr on))] Z Y (fun x Z' Y' => x = (if pHasC (vQ Z) c = true then dPush (vR Z 0) c on c else -1) ∧ (if pHasC (vQ Z) c = true then qDid Z (dPush (vR Z 0) c on) Z' else Z' = Z) ∧ aB Z' ∧ Y' = Y) := by
  refine aS.of (own := RX10) (by decide +kernel) rfl 0 (Nat.le_of_ble_eq_true rfl) (fun X hX hE => ?_)
  show AW X G 0 [some (.ref (G.1 62)), some (.int (aI c)), some (.int (aI (aTr on)))] [] Z Y
  have hfQ := fQ hP
  have hfR := fR hS
  have hfR1 : 0 ≤ Z 69 15 := hfR.2.2
  have hfR2 : 0 ≤ Z 69 13 ∧ Z 69 13 < 32 := hfR.1
  refine a_aload_n hX rfl rfl dX10_puff_0 (pc' := 1) rfl ?_
  refine a_iload_n hX rfl rfl dX10_puff_1 (pc' := 2) rfl ?_
  refine a_cV1i hX cv_X10_118 (q_isCloud (by omega) hB hP) rfl (by decide) ⟨by decide, by decide⟩ (Nat.le_of_ble_eq_true rfl) dX10_puff_2 (pc' := 5) rfl ?_
  refine a_ifb_ne hX dX10_puff_5 (pc' := 8) rfl (tgt := 10) (by decide) (fun c5 => ?_) (fun c5 => ?_)
  · have hc1 := qHasC_no c5
    refine a_aload_n hX rfl rfl dX10_puff_10 (pc' := 11) rfl ?_
    refine a_cV0V hX cv_X10_170 (q_keepAct hB hN) rfl (by decide) ⟨by decide, by decide⟩ (Nat.le_of_ble_eq_true rfl) dX10_puff_11 (pc' := 14) rfl (fun Z11 Y11 h11 => ?_)
    obtain ⟨hR, hB, rfl⟩ := h11
    have eP : vQ Z11 = vQ Z := hR.P
    have eS : vR Z11 0 = vR Z 0 := hR.R 0
    have hP1 : okP (vQ Z11) := by rw [eP]; exact hP
    have hS1 : okS (vQ Z11) (vR Z11 0) := by rw [eP, eS]; exact hS
    have e69 : Z11 69 = Z 69 := hR.2 69 (by decide) (by decide)
    have hd1 : Z11 69 15 ≤ 5000 := by rw [e69]; exact hd
    have f1 : Z11 62 1 = Z 62 1 := hR.1.2.2.1 1 (by decide) (by decide)
    have f2 : Z11 62 2 = Z 62 2 := hR.1.2.2.1 2 (by decide) (by decide)
    refine a_aload_n hX rfl rfl dX10_puff_14 (pc' := 15) rfl ?_
    refine a_iconst hX dX10_puff_15 (pc' := 16) rfl ?_
    refine a_iload_n hX rfl rfl dX10_puff_16 (pc' := 17) rfl ?_
    refine a_iload_n hX rfl rfl dX10_puff_17 (pc' := 18) rfl ?_
    refine a_cV3V hX cv_X10_181 (q_puffOn (by rw [f1]; exact hc1) (by omega) hB hP1 hS1 hd1) rfl (by decide) ⟨by decide, by decide⟩ (Nat.le_of_ble_eq_true rfl) dX10_puff_18 (pc' := 21) rfl (fun Z18 Y18 h18 => ?_)
    rw [eS] at h18
    have D18 := hR.did h18
    have f18 : Z18 62 1 = Z 62 1 := by rw [h18.2.2.1 62 (by decide), f1]
    obtain ⟨e18, -, -, -, hB, rfl⟩ := h18
    refine a_aload_n hX rfl rfl dX10_puff_21 (pc' := 22) rfl ?_
    refine a_getfR hX (r := 69) fl_X10_28 rfl (by decide) rfl dX10_puff_22 (pc' := 25) rfl ?_
    refine a_iload_n hX rfl rfl dX10_puff_25 (pc' := 26) rfl ?_
    refine a_iald hX rfl (by decide) (by decide) (by omega) hB dX10_puff_26 (pc' := 27) rfl (fun hb => ?_)
    refine a_iret hX dX10_puff_27 (hE _ _ _ ?_)
    refine ⟨_, rfl, ?_, by rw [c5]; exact D18, hB, rfl⟩
    rw [c5, if_pos rfl, ← e18, vR_yd (l := 0) (c := c) (by rw [f18]; omega), show 16 * 0 + c = c by omega]
  · refine a_iconst hX dX10_puff_8 (pc' := 9) rfl ?_
    refine a_iret hX dX10_puff_9 (hE _ _ _ ?_)
    exact ⟨_, rfl, by rw [c5]; rfl, by rw [c5]; exact rfl, hB, rfl⟩

set_option maxHeartbeats 4000000 in
set_option maxRecDepth 100000 in
theorem q_tear {G : aG} {Z : aZ} {Y : aY} {p : Int} (hp : -2147483648 ≤ p ∧ p < 2147483648) (hN : okN Z) (hB : aB Z) (hP : okP (vQ Z)) (hS : okS (vQ Z) (vR Z 0)) (hd : Z 69 15 ≤ 5000) : aSI G yX10_tear cX10_tear 3 (some .int) 2 46 [.ref (G.1 62), .int (aI p)] Z Y (fun x Z' Y' => x = (if pHasP (vQ Z) p = true then (if sTorn (vR Z 0) p = true then -3 else sOwed (vQ Z) (vR Z 0) p) else -1) ∧ (if pHasP (vQ Z) p = true ∧ sTorn (vR Z 0) p = false then qDid Z (dRip (vR Z 0) p) Z' else Z' = Z) ∧ aB Z' ∧ Y' = Y) := by
  refine aS.of (own := RX10) (by decide +kernel) rfl 1 (Nat.le_of_ble_eq_true rfl) (fun X hX hE => ?_)
  show AW X G 0 [some (.ref (G.1 62)), some (.int (aI p)), none] [] Z Y
  have hfQ := fQ hP
  have hfR := fR hS
  have hfR1 : 0 ≤ Z 69 15 := hfR.2.2
  have hfR2 : 0 ≤ Z 69 13 ∧ Z 69 13 < 32 := hfR.1
  refine a_aload_n hX rfl rfl dX10_tear_0 (pc' := 1) rfl ?_
  refine a_iload_n hX rfl rfl dX10_tear_1 (pc' := 2) rfl ?_
  refine a_cV1i hX cv_X10_122 (q_isPaper (by omega) hB hP) rfl (by decide) ⟨by decide, by decide⟩ (Nat.le_of_ble_eq_true rfl) dX10_tear_2 (pc' := 5) rfl ?_
  refine a_ifb_ne hX dX10_tear_5 (pc' := 8) rfl (tgt := 10) (by decide) (fun c5 => ?_) (fun c5 => ?_)
  · have hp1 := qHasP_no c5
    refine a_aload_n hX rfl rfl dX10_tear_10 (pc' := 11) rfl ?_
    refine a_getfR hX (r := 69) fl_X10_28 rfl (by decide) rfl dX10_tear_11 (pc' := 14) rfl ?_
    refine a_bipush hX rfl dX10_tear_14 (pc' := 16) rfl ?_
    refine a_iald hX rfl (by decide) (by decide) (by omega) hB dX10_tear_16 (pc' := 17) rfl (fun hb => ?_)
    refine a_iload_n hX rfl rfl dX10_tear_17 (pc' := 18) rfl ?_
    refine a_cS2i hX cs_X10_114 (q_has (by omega) (by omega)) ⟨by decide, by decide⟩ (Nat.le_of_ble_eq_true rfl) dX10_tear_18 (pc' := 21) rfl ?_
    refine a_ifb_eq hX dX10_tear_21 (pc' := 24) rfl (tgt := 27) (by decide) (fun c21 => ?_) (fun c21 => ?_)
    · have t21 : sTorn (vR Z 0) p = false := by unfold sTorn; rw [vR_hi (by omega)]; exact c21
      refine a_aload_n hX rfl rfl dX10_tear_27 (pc' := 28) rfl ?_
      refine a_cV0V hX cv_X10_170 (q_keepAct hB hN) rfl (by decide) ⟨by decide, by decide⟩ (Nat.le_of_ble_eq_true rfl) dX10_tear_28 (pc' := 31) rfl (fun Z28 Y28 h28 => ?_)
      obtain ⟨hR, hB, rfl⟩ := h28
      have eP : vQ Z28 = vQ Z := hR.P
      have eS : vR Z28 0 = vR Z 0 := hR.R 0
      have hP1 : okP (vQ Z28) := by rw [eP]; exact hP
      have hS1 : okS (vQ Z28) (vR Z28 0) := by rw [eP, eS]; exact hS
      have e69 : Z28 69 = Z 69 := hR.2 69 (by decide) (by decide)
      have hd1 : Z28 69 15 ≤ 5000 := by rw [e69]; exact hd
      have f1 : Z28 62 1 = Z 62 1 := hR.1.2.2.1 1 (by decide) (by decide)
      have f2 : Z28 62 2 = Z 62 2 := hR.1.2.2.1 2 (by decide) (by decide)
      refine a_aload_n hX rfl rfl dX10_tear_31 (pc' := 32) rfl ?_
      refine a_iconst hX dX10_tear_32 (pc' := 33) rfl ?_
      refine a_iload_n hX rfl rfl dX10_tear_33 (pc' := 34) rfl ?_
      refine a_cV2i hX cv_X10_125 (q_owed (by omega) (by omega) hB hP1 hS1 hd1) rfl (by decide) ⟨by decide, by decide⟩ (Nat.le_of_ble_eq_true rfl) dX10_tear_34 (pc' := 37) rfl ?_
      rw [eP, eS]
      refine a_istore2 hX rfl (by decide) rfl dX10_tear_37 (pc' := 38) rfl ?_
      refine a_aload_n hX rfl rfl dX10_tear_38 (pc' := 39) rfl ?_
      refine a_iconst hX dX10_tear_39 (pc' := 40) rfl ?_
      refine a_iload_n hX rfl rfl dX10_tear_40 (pc' := 41) rfl ?_
      refine a_cV2V hX cv_X10_185 (q_tearOn (by rw [f2]; exact hp1) (by omega) hB hP1 hS1 hd1) rfl (by decide) ⟨by decide, by decide⟩ (Nat.le_of_ble_eq_true rfl) dX10_tear_41 (pc' := 44) rfl (fun Z41 Y41 h41 => ?_)
      rw [eS] at h41
      have D41 := hR.did h41
      obtain ⟨-, -, -, -, hB, rfl⟩ := h41
      refine a_iload_n hX rfl rfl dX10_tear_44 (pc' := 45) rfl ?_
      refine a_iret hX dX10_tear_45 (hE _ _ _ ?_)
      exact ⟨_, rfl, by rw [c5, t21]; rfl, by rw [c5, t21]; exact D41, hB, rfl⟩
    · have t21 : sTorn (vR Z 0) p = true := by unfold sTorn; rw [vR_hi (by omega)]; exact c21
      refine a_bipush hX rfl dX10_tear_24 (pc' := 26) rfl ?_
      refine a_iret hX dX10_tear_26 (hE _ _ _ ?_)
      exact ⟨_, rfl, by rw [c5, t21]; rfl, by rw [c5, t21]; exact rfl, hB, rfl⟩
  · refine a_iconst hX dX10_tear_8 (pc' := 9) rfl ?_
    refine a_iret hX dX10_tear_9 (hE _ _ _ ?_)
    exact ⟨_, rfl, by rw [c5]; rfl, by rw [c5]; exact rfl, hB, rfl⟩

set_option maxHeartbeats 4000000 in
set_option maxRecDepth 100000 in
theorem q_undo {G : aG} {Z : aZ} {Y : aY} (hB : aB Z) (hN : okN Z) : aSI G yX10_undo cX10_undo 2 (some .int) 0 0 [.ref (G.1 62)] Z Y (fun x Z' Y' => x = (if 0 < Z 62 22 then Z 62 22 - 1 else -3) ∧ (if 0 < Z 62 22 then Z' 62 22 = Z 62 22 - 1 ∧ Z' 62 23 = ((Z 62 23 + 13) % 14) ∧ (∀ j : Int, j ≠ 22 → j ≠ 23 → Z' 62 j = Z 62 j) ∧ (∀ j : Int, Z' 69 j = if 0 ≤ j ∧ j < 16 then Z 75 (16 * ((Z 62 23 + 13) % 14) + j) else Z 69 j) ∧ (∀ a : Nat, a ≠ 62 → a ≠ 69 → Z' a = Z a) else Z' = Z) ∧ aB Z' ∧ Y' = Y) := by
  refine aS.of (own := RX10) (by decide +kernel) rfl 1 (Nat.le_of_ble_eq_true rfl) (fun X hX hE => ?_)
  show AW X G 0 [some (.ref (G.1 62)), none] [] Z Y
  have hN1 := hN.1
  have hN2 := hN.2
  have hx1 : 0 ≤ (Z 62 23 + 13) % 14 ∧ (Z 62 23 + 13) % 14 < 14 := by omega
  refine a_aload_n hX rfl rfl dX10_undo_0 (pc' := 1) rfl ?_
  refine a_getfI hX (ji := 22) rfl hB fl_X10_111 rfl (by decide) rfl dX10_undo_1 (pc' := 4) rfl (fun hb => ?_)
  refine a_if_ne hX (by omega) dX10_undo_4 (pc' := 7) rfl (tgt := 10) (by decide) (fun c4 => ?_) (fun c4 => ?_)
  · refine a_aload_n hX rfl rfl dX10_undo_10 (pc' := 11) rfl ?_
    refine a_dup hX rfl dX10_undo_11 (pc' := 12) rfl ?_
    refine a_getfI hX (ji := 22) rfl hB fl_X10_111 rfl (by decide) rfl dX10_undo_12 (pc' := 15) rfl (fun hb => ?_)
    refine a_iconst hX dX10_undo_15 (pc' := 16) rfl ?_
    refine a_isub hX dX10_undo_16 (pc' := 17) rfl ?_
    refine a_putfIB hX fl_X10_111 nf_9_22 (ji := 22) rfl rfl (by decide) rfl hB (by omega) dX10_undo_17 (pc' := 20) rfl (fun hB => ?_)
    refine a_aload_n hX rfl rfl dX10_undo_20 (pc' := 21) rfl ?_
    refine a_aload_n hX rfl rfl dX10_undo_21 (pc' := 22) rfl ?_
    refine a_getfI hX (ji := 23) rfl hB fl_X10_167 rfl (by decide) rfl dX10_undo_22 (pc' := 25) rfl (fun hb => ?_)
    rw [aU_nj (show (23 : Int) ≠ 22 by decide)]
    refine a_bipush hX rfl dX10_undo_25 (pc' := 27) rfl ?_
    refine a_iadd hX dX10_undo_27 (pc' := 28) rfl ?_
    refine a_bipush hX rfl dX10_undo_28 (pc' := 30) rfl ?_
    refine a_irem hX (by omega) (by omega) dX10_undo_30 (pc' := 31) rfl ?_
    refine a_putfIB hX fl_X10_167 nf_9_23 (ji := 23) rfl rfl (by decide) rfl hB (by omega) dX10_undo_31 (pc' := 34) rfl (fun hB => ?_)
    refine a_iconst hX dX10_undo_34 (pc' := 35) rfl ?_
    refine a_istore1 hX rfl (by decide) rfl dX10_undo_35 (pc' := 36) rfl ?_
    have L36 : ∀ (n : Nat) (i : Int) (Z1 : aZ), (0 ≤ i ∧ i ≤ 16) → aB Z1 → (∀ j : Int, Z1 69 j = if 0 ≤ j ∧ j < i then Z 75 (16 * ((Z 62 23 + 13) % 14) + j) else Z 69 j) → (∀ a : Nat, a ≠ 69 → Z1 a = (aU (aU Z 62 22 (Z 62 22 - 1)) 62 23 ((Z 62 23 + 13) % 14)) a) → (16 - i).toNat < n → AW X G 36 [some (.ref (G.1 62)), some (.int (aI i))] [] Z1 Y := by
      intro n
      induction n with
      | zero =>
        intro i Z1 hi hB hj hz hn
        omega
      | succ n ih =>
        intro i Z1 hi hB hj hz hn
        have f23 : Z1 62 23 = ((Z 62 23 + 13) % 14) := by rw [hz 62 (by decide), aU_eq]
        have f22 : Z1 62 22 = Z 62 22 - 1 := by rw [hz 62 (by decide), aU_nj (by decide), aU_eq]
        have f75 : Z1 75 = Z 75 := by rw [hz 75 (by decide), aU_row (by decide), aU_row (by decide)]
        refine a_iload_n hX rfl rfl dX10_undo_36 (pc' := 37) rfl ?_
        refine a_bipush hX rfl dX10_undo_37 (pc' := 39) rfl ?_
        refine a_icmp_ge hX (by omega) (by omega) dX10_undo_39 (pc' := 42) rfl (tgt := 68) (by decide) (fun c39 => ?_) (fun c39 => ?_)
        · refine a_aload_n hX rfl rfl dX10_undo_68 (pc' := 69) rfl ?_
          refine a_getfI hX (ji := 22) rfl hB fl_X10_111 rfl (by decide) rfl dX10_undo_69 (pc' := 72) rfl (fun hb => ?_)
          refine a_iret hX dX10_undo_72 (hE _ _ _ ?_)
          obtain rfl : i = 16 := by omega
          refine ⟨_, rfl, by rw [if_pos (by omega), f22], ?_, hB, rfl⟩
          rw [if_pos (by omega)]
          refine ⟨f22, f23, fun j h1 h2 => by rw [hz 62 (by decide), aU_nj h2, aU_nj h1], hj, fun a h1 h2 => by rw [hz a h2, aU_row h1, aU_row h1]⟩
        · refine a_aload_n hX rfl rfl dX10_undo_42 (pc' := 43) rfl ?_
          refine a_getfR hX (r := 69) fl_X10_28 rfl (by decide) rfl dX10_undo_43 (pc' := 46) rfl ?_
          refine a_iload_n hX rfl rfl dX10_undo_46 (pc' := 47) rfl ?_
          refine a_aload_n hX rfl rfl dX10_undo_47 (pc' := 48) rfl ?_
          refine a_getfR hX (r := 75) fl_X10_50 rfl (by decide) rfl dX10_undo_48 (pc' := 51) rfl ?_
          refine a_bipush hX rfl dX10_undo_51 (pc' := 53) rfl ?_
          refine a_aload_n hX rfl rfl dX10_undo_53 (pc' := 54) rfl ?_
          refine a_getfI hX (ji := 23) rfl hB fl_X10_167 rfl (by decide) rfl dX10_undo_54 (pc' := 57) rfl (fun hb => ?_)
          refine a_imul hX dX10_undo_57 (pc' := 58) rfl ?_
          refine a_iload_n hX rfl rfl dX10_undo_58 (pc' := 59) rfl ?_
          refine a_iadd hX dX10_undo_59 (pc' := 60) rfl ?_
          refine a_iald hX rfl (by decide) (by decide) (by omega) hB dX10_undo_60 (pc' := 61) rfl (fun hb => ?_)
          refine a_iastB hX rfl (by decide) (by decide) (by omega) hB (by omega) dX10_undo_61 (pc' := 62) rfl (fun hB => ?_)
          refine a_iinc1 hX (by decide) rfl dX10_undo_62 (pc' := 65) rfl ?_
          refine a_goto hX dX10_undo_65 (tgt := 36) (by decide) ?_
          refine ih (i + 1) _ (by omega) hB (fun j => ?_) (fun a ha => by rw [aU_row ha]; exact hz a ha) (by omega)
          rw [aU_at]
          by_cases e : j = i
          · rw [if_pos e, if_pos (by omega), e, f75, f23]
          · rw [if_neg e, hj]
            by_cases e2 : 0 ≤ j ∧ j < i
            · rw [if_pos e2, if_pos (by omega)]
            · rw [if_neg e2, if_neg (by omega)]
    exact L36 17 0 _ (by omega) hB (fun j => by rw [if_neg (by omega), aU_row (by decide), aU_row (by decide)]) (fun _ _ => rfl) (by omega)
  · refine a_bipush hX rfl dX10_undo_7 (pc' := 9) rfl ?_
    refine a_iret hX dX10_undo_9 (hE _ _ _ ?_)
    exact ⟨_, rfl, (if_neg (by omega)).symm, by rw [if_neg (by omega)], hB, rfl⟩

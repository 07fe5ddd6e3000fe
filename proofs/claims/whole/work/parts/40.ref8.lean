set_option maxHeartbeats 4000000 in
set_option maxRecDepth 100000 in
theorem q_cloud {G : aG} {Z : aZ} {Y : aY} {c what : Int} (hc : -2147483648 ≤ c ∧ c < 2147483648) (hwhat : -2147483648 ≤ what ∧ what < 2147483648) (hB : aB Z) (hP : okP (vQ Z)) (hS : okS (vQ Z) (vR Z 0)) (hd : Z 69 15 ≤ 5000) : aSi G yX10_cloud cX10_cloud 3 (some .int) 4 95 [.ref (G.1 62), .int (aI c), .int (aI what)] Z Y (if pHasC (vQ Z) c = true then (if what = 0 then (vR Z 0) c else if what = 1 then (vR Z 0) (4 + c) else if what = 2 then (vQ Z) 4 c else if what = 3 then sHas (vQ Z) (vR Z 0) c else if what = 4 then aBits (sCan (vQ Z) (vR Z 0) c) ((vQ Z) 0 2).toNat else if what = 5 then sServs (vQ Z) (vR Z 0) c ((vR Z 0) c) else -2) else -1) := by
  refine aS.of (own := RX10) (by decide +kernel) rfl 0 (Nat.le_of_ble_eq_true rfl) (fun X hX hE => ?_)
  show AW X G 0 [some (.ref (G.1 62)), some (.int (aI c)), some (.int (aI what))] [] Z Y
  have hfQ := fQ hP
  have hfR := fR hS
  have hfR1 : 0 ≤ Z 69 15 := hfR.2.2
  have hfR2 : 0 ≤ Z 69 13 ∧ Z 69 13 < 32 := hfR.1
  refine a_aload_n hX rfl rfl dX10_cloud_0 (pc' := 1) rfl ?_
  refine a_iload_n hX rfl rfl dX10_cloud_1 (pc' := 2) rfl ?_
  refine a_cV1i hX cv_X10_118 (q_isCloud (by omega) hB hP) rfl (by decide) ⟨by decide, by decide⟩ (Nat.le_of_ble_eq_true rfl) dX10_cloud_2 (pc' := 5) rfl ?_
  refine a_ifb_ne hX dX10_cloud_5 (pc' := 8) rfl (tgt := 10) (by decide) (fun c5 => ?_) (fun c5 => ?_)
  · have hc1 := qHasC_no c5
    refine a_iload_n hX rfl rfl dX10_cloud_10 (pc' := 11) rfl ?_
    have hsw : what = 0 ∨ what = 1 ∨ what = 2 ∨ what = 3 ∨ what = 4 ∨ what = 5 ∨ (what < 0 ∨ 5 < what) := by omega
    rcases hsw with e11 | e11 | e11 | e11 | e11 | e11 | e11
    · refine a_tsIn hX dX10_cloud_11 (by omega) (by omega) (by omega) (off := 37) (by rw [e11]; rfl) (tgt := 48) (by decide) ?_
      refine a_aload_n hX rfl rfl dX10_cloud_48 (pc' := 49) rfl ?_
      refine a_getfR hX (r := 69) fl_X10_28 rfl (by decide) rfl dX10_cloud_49 (pc' := 52) rfl ?_
      refine a_iload_n hX rfl rfl dX10_cloud_52 (pc' := 53) rfl ?_
      refine a_iald hX rfl (by decide) (by decide) (by omega) hB dX10_cloud_53 (pc' := 54) rfl (fun hb => ?_)
      refine a_iret hX dX10_cloud_54 (hE _ _ _ ?_)
      refine ⟨aLf ?_, rfl, rfl⟩
      rw [if_pos c5, if_pos (show what = 0 by omega), vR_yd (l := 0) (c := c) (by omega), show 16 * 0 + c = c by omega]
    · refine a_tsIn hX dX10_cloud_11 (by omega) (by omega) (by omega) (off := 44) (by rw [e11]; rfl) (tgt := 55) (by decide) ?_
      refine a_aload_n hX rfl rfl dX10_cloud_55 (pc' := 56) rfl ?_
      refine a_getfR hX (r := 69) fl_X10_28 rfl (by decide) rfl dX10_cloud_56 (pc' := 59) rfl ?_
      refine a_iconst hX dX10_cloud_59 (pc' := 60) rfl ?_
      refine a_iload_n hX rfl rfl dX10_cloud_60 (pc' := 61) rfl ?_
      refine a_iadd hX dX10_cloud_61 (pc' := 62) rfl ?_
      refine a_iald hX rfl (by decide) (by decide) (by omega) hB dX10_cloud_62 (pc' := 63) rfl (fun hb => ?_)
      refine a_iret hX dX10_cloud_63 (hE _ _ _ ?_)
      refine ⟨aLf ?_, rfl, rfl⟩
      rw [if_pos c5, if_neg (show ¬ what = 0 by omega), if_pos (show what = 1 by omega), vR_fl' (l := 0) (c := c) (by omega), show 16 * 0 + 4 + c = 4 + c by omega]
    · refine a_tsIn hX dX10_cloud_11 (by omega) (by omega) (by omega) (off := 53) (by rw [e11]; rfl) (tgt := 64) (by decide) ?_
      refine a_aload_n hX rfl rfl dX10_cloud_64 (pc' := 65) rfl ?_
      refine a_getfR hX (r := 64) fl_X10_13 rfl (by decide) rfl dX10_cloud_65 (pc' := 68) rfl ?_
      refine a_iload_n hX rfl rfl dX10_cloud_68 (pc' := 69) rfl ?_
      refine a_iald hX rfl (by decide) (by decide) (by omega) hB dX10_cloud_69 (pc' := 70) rfl (fun hb => ?_)
      refine a_iret hX dX10_cloud_70 (hE _ _ _ ?_)
      refine ⟨aLf ?_, rfl, rfl⟩
      rw [if_pos c5, if_neg (show ¬ what = 0 by omega), if_neg (show ¬ what = 1 by omega), if_pos (show what = 2 by omega)]
      rfl
    · refine a_tsIn hX dX10_cloud_11 (by omega) (by omega) (by omega) (off := 60) (by rw [e11]; rfl) (tgt := 71) (by decide) ?_
      refine a_aload_n hX rfl rfl dX10_cloud_71 (pc' := 72) rfl ?_
      refine a_iconst hX dX10_cloud_72 (pc' := 73) rfl ?_
      refine a_iload_n hX rfl rfl dX10_cloud_73 (pc' := 74) rfl ?_
      refine a_cV2i hX cv_X10_128 (q_holds (by omega) (by omega) hB hP hS hd) rfl (by decide) ⟨by decide, by decide⟩ (Nat.le_of_ble_eq_true rfl) dX10_cloud_74 (pc' := 77) rfl ?_
      refine a_iret hX dX10_cloud_77 (hE _ _ _ ?_)
      refine ⟨aLf ?_, rfl, rfl⟩
      rw [if_pos c5, if_neg (show ¬ what = 0 by omega), if_neg (show ¬ what = 1 by omega), if_neg (show ¬ what = 2 by omega), if_pos (show what = 3 by omega)]
    · refine a_tsIn hX dX10_cloud_11 (by omega) (by omega) (by omega) (off := 67) (by rw [e11]; rfl) (tgt := 78) (by decide) ?_
      refine a_aload_n hX rfl rfl dX10_cloud_78 (pc' := 79) rfl ?_
      refine a_iload_n hX rfl rfl dX10_cloud_79 (pc' := 80) rfl ?_
      refine a_cV1i hX cv_X10_164 (q_fallsOn (by omega) hB hP hS hd) rfl (by decide) ⟨by decide, by decide⟩ (Nat.le_of_ble_eq_true rfl) dX10_cloud_80 (pc' := 83) rfl ?_
      refine a_iret hX dX10_cloud_83 (hE _ _ _ ?_)
      refine ⟨aLf ?_, rfl, rfl⟩
      rw [if_pos c5, if_neg (show ¬ what = 0 by omega), if_neg (show ¬ what = 1 by omega), if_neg (show ¬ what = 2 by omega), if_neg (show ¬ what = 3 by omega), if_pos (show what = 4 by omega)]
    · refine a_tsIn hX dX10_cloud_11 (by omega) (by omega) (by omega) (off := 73) (by rw [e11]; rfl) (tgt := 84) (by decide) ?_
      refine a_aload_n hX rfl rfl dX10_cloud_84 (pc' := 85) rfl ?_
      refine a_iconst hX dX10_cloud_85 (pc' := 86) rfl ?_
      refine a_iload_n hX rfl rfl dX10_cloud_86 (pc' := 87) rfl ?_
      refine a_cV2i hX cv_X10_152 (q_serves (by omega) (by omega) hB hP hS hd) rfl (by decide) ⟨by decide, by decide⟩ (Nat.le_of_ble_eq_true rfl) dX10_cloud_87 (pc' := 90) rfl ?_
      refine a_iret hX dX10_cloud_90 (hE _ _ _ ?_)
      refine ⟨aLf ?_, rfl, rfl⟩
      rw [if_pos c5, if_neg (show ¬ what = 0 by omega), if_neg (show ¬ what = 1 by omega), if_neg (show ¬ what = 2 by omega), if_neg (show ¬ what = 3 by omega), if_neg (show ¬ what = 4 by omega), if_pos (show what = 5 by omega)]
    · refine a_tsOut hX dX10_cloud_11 (by omega) e11 (tgt := 91) (by decide) ?_
      refine a_bipush hX rfl dX10_cloud_91 (pc' := 93) rfl ?_
      refine a_iret hX dX10_cloud_93 (hE _ _ _ ?_)
      refine ⟨aLf ?_, rfl, rfl⟩
      rw [if_pos c5, if_neg (show ¬ what = 0 by omega), if_neg (show ¬ what = 1 by omega), if_neg (show ¬ what = 2 by omega), if_neg (show ¬ what = 3 by omega), if_neg (show ¬ what = 4 by omega), if_neg (show ¬ what = 5 by omega)]
  · refine a_iconst hX dX10_cloud_8 (pc' := 9) rfl ?_
    refine a_iret hX dX10_cloud_9 (hE _ _ _ ?_)
    refine ⟨aLf ?_, rfl, rfl⟩
    rw [if_neg (by rw [c5]; decide)]

set_option maxHeartbeats 4000000 in
set_option maxRecDepth 100000 in
theorem q_paper {G : aG} {Z : aZ} {Y : aY} {p what : Int} (hp : -2147483648 ≤ p ∧ p < 2147483648) (hwhat : -2147483648 ≤ what ∧ what < 2147483648) (hB : aB Z) (hP : okP (vQ Z)) (hS : okS (vQ Z) (vR Z 0)) (hd : Z 69 15 ≤ 5000) : aSi G yX10_paper cX10_paper 3 (some .int) 2 46 [.ref (G.1 62), .int (aI p), .int (aI what)] Z Y (if pHasP (vQ Z) p = true then (if what = 0 then (vQ Z) 5 p else if what = 1 then (vQ Z) 6 p else if what = 2 then (vQ Z) 7 p else if what = 3 then (vR Z 0) (8 + p) else if what = 4 then sOwed (vQ Z) (vR Z 0) p else if what = 5 then aTr (sTorn (vR Z 0) p) else -2) else -1) := by
  refine aS.of (own := RX10) (by decide +kernel) rfl 0 (Nat.le_of_ble_eq_true rfl) (fun X hX hE => ?_)
  show AW X G 0 [some (.ref (G.1 62)), some (.int (aI p)), some (.int (aI what))] [] Z Y
  have hfQ := fQ hP
  have hfR := fR hS
  have hfR1 : 0 ≤ Z 69 15 := hfR.2.2
  have hfR2 : 0 ≤ Z 69 13 ∧ Z 69 13 < 32 := hfR.1
  refine a_aload_n hX rfl rfl dX10_paper_0 (pc' := 1) rfl ?_
  refine a_iload_n hX rfl rfl dX10_paper_1 (pc' := 2) rfl ?_
  refine a_cV1i hX cv_X10_122 (q_isPaper (by omega) hB hP) rfl (by decide) ⟨by decide, by decide⟩ (Nat.le_of_ble_eq_true rfl) dX10_paper_2 (pc' := 5) rfl ?_
  refine a_ifb_ne hX dX10_paper_5 (pc' := 8) rfl (tgt := 10) (by decide) (fun c5 => ?_) (fun c5 => ?_)
  · have hp1 := qHasP_no c5
    refine a_iload_n hX rfl rfl dX10_paper_10 (pc' := 11) rfl ?_
    have hsw : what = 0 ∨ what = 1 ∨ what = 2 ∨ what = 3 ∨ what = 4 ∨ what = 5 ∨ (what < 0 ∨ 5 < what) := by omega
    rcases hsw with e11 | e11 | e11 | e11 | e11 | e11 | e11
    · refine a_tsIn hX dX10_paper_11 (by omega) (by omega) (by omega) (off := 37) (by rw [e11]; rfl) (tgt := 48) (by decide) ?_
      refine a_aload_n hX rfl rfl dX10_paper_48 (pc' := 49) rfl ?_
      refine a_getfR hX (r := 65) fl_X10_16 rfl (by decide) rfl dX10_paper_49 (pc' := 52) rfl ?_
      refine a_iload_n hX rfl rfl dX10_paper_52 (pc' := 53) rfl ?_
      refine a_iald hX rfl (by decide) (by decide) (by omega) hB dX10_paper_53 (pc' := 54) rfl (fun hb => ?_)
      refine a_iret hX dX10_paper_54 (hE _ _ _ ?_)
      refine ⟨aLf ?_, rfl, rfl⟩
      rw [if_pos c5, if_pos (show what = 0 by omega)]
      rfl
    · refine a_tsIn hX dX10_paper_11 (by omega) (by omega) (by omega) (off := 44) (by rw [e11]; rfl) (tgt := 55) (by decide) ?_
      refine a_aload_n hX rfl rfl dX10_paper_55 (pc' := 56) rfl ?_
      refine a_getfR hX (r := 66) fl_X10_19 rfl (by decide) rfl dX10_paper_56 (pc' := 59) rfl ?_
      refine a_iload_n hX rfl rfl dX10_paper_59 (pc' := 60) rfl ?_
      refine a_iald hX rfl (by decide) (by decide) (by omega) hB dX10_paper_60 (pc' := 61) rfl (fun hb => ?_)
      refine a_iret hX dX10_paper_61 (hE _ _ _ ?_)
      refine ⟨aLf ?_, rfl, rfl⟩
      rw [if_pos c5, if_neg (show ¬ what = 0 by omega), if_pos (show what = 1 by omega)]
      rfl
    · refine a_tsIn hX dX10_paper_11 (by omega) (by omega) (by omega) (off := 51) (by rw [e11]; rfl) (tgt := 62) (by decide) ?_
      refine a_aload_n hX rfl rfl dX10_paper_62 (pc' := 63) rfl ?_
      refine a_getfR hX (r := 68) fl_X10_25 rfl (by decide) rfl dX10_paper_63 (pc' := 66) rfl ?_
      refine a_iload_n hX rfl rfl dX10_paper_66 (pc' := 67) rfl ?_
      refine a_iald hX rfl (by decide) (by decide) (by omega) hB dX10_paper_67 (pc' := 68) rfl (fun hb => ?_)
      refine a_iret hX dX10_paper_68 (hE _ _ _ ?_)
      refine ⟨aLf ?_, rfl, rfl⟩
      rw [if_pos c5, if_neg (show ¬ what = 0 by omega), if_neg (show ¬ what = 1 by omega), if_pos (show what = 2 by omega)]
      rfl
    · refine a_tsIn hX dX10_paper_11 (by omega) (by omega) (by omega) (off := 58) (by rw [e11]; rfl) (tgt := 69) (by decide) ?_
      refine a_aload_n hX rfl rfl dX10_paper_69 (pc' := 70) rfl ?_
      refine a_getfR hX (r := 69) fl_X10_28 rfl (by decide) rfl dX10_paper_70 (pc' := 73) rfl ?_
      refine a_bipush hX rfl dX10_paper_73 (pc' := 75) rfl ?_
      refine a_iload_n hX rfl rfl dX10_paper_75 (pc' := 76) rfl ?_
      refine a_iadd hX dX10_paper_76 (pc' := 77) rfl ?_
      refine a_iald hX rfl (by decide) (by decide) (by omega) hB dX10_paper_77 (pc' := 78) rfl (fun hb => ?_)
      refine a_iret hX dX10_paper_78 (hE _ _ _ ?_)
      refine ⟨aLf ?_, rfl, rfl⟩
      rw [if_pos c5, if_neg (show ¬ what = 0 by omega), if_neg (show ¬ what = 1 by omega), if_neg (show ¬ what = 2 by omega), if_pos (show what = 3 by omega), vR_fi' (l := 0) (p := p) (by omega), show 16 * 0 + 8 + p = 8 + p by omega]
    · refine a_tsIn hX dX10_paper_11 (by omega) (by omega) (by omega) (off := 68) (by rw [e11]; rfl) (tgt := 79) (by decide) ?_
      refine a_aload_n hX rfl rfl dX10_paper_79 (pc' := 80) rfl ?_
      refine a_iconst hX dX10_paper_80 (pc' := 81) rfl ?_
      refine a_iload_n hX rfl rfl dX10_paper_81 (pc' := 82) rfl ?_
      refine a_cV2i hX cv_X10_125 (q_owed (by omega) (by omega) hB hP hS hd) rfl (by decide) ⟨by decide, by decide⟩ (Nat.le_of_ble_eq_true rfl) dX10_paper_82 (pc' := 85) rfl ?_
      refine a_iret hX dX10_paper_85 (hE _ _ _ ?_)
      refine ⟨aLf ?_, rfl, rfl⟩
      rw [if_pos c5, if_neg (show ¬ what = 0 by omega), if_neg (show ¬ what = 1 by omega), if_neg (show ¬ what = 2 by omega), if_neg (show ¬ what = 3 by omega), if_pos (show what = 4 by omega)]
    · refine a_tsIn hX dX10_paper_11 (by omega) (by omega) (by omega) (off := 75) (by rw [e11]; rfl) (tgt := 86) (by decide) ?_
      refine a_aload_n hX rfl rfl dX10_paper_86 (pc' := 87) rfl ?_
      refine a_getfR hX (r := 69) fl_X10_28 rfl (by decide) rfl dX10_paper_87 (pc' := 90) rfl ?_
      refine a_bipush hX rfl dX10_paper_90 (pc' := 92) rfl ?_
      refine a_iald hX rfl (by decide) (by decide) (by omega) hB dX10_paper_92 (pc' := 93) rfl (fun hb => ?_)
      refine a_iload_n hX rfl rfl dX10_paper_93 (pc' := 94) rfl ?_
      refine a_ishr hX (by omega) (by omega) dX10_paper_94 (pc' := 95) rfl ?_
      have hq := Int.ediv_nonneg (a := Z 69 13) (b := 2 ^ p.toNat) (by omega) (Int.le_of_lt (aPow_pos _))
      refine a_iconst hX dX10_paper_95 (pc' := 96) rfl ?_
      refine a_iand hX (by omega) (by omega) dX10_paper_96 (pc' := 97) rfl ?_
      rw [aAnd_1 _ hq]
      refine a_iret hX dX10_paper_97 (hE _ _ _ ?_)
      refine ⟨aLf ?_, rfl, rfl⟩
      rw [if_pos c5, if_neg (show ¬ what = 0 by omega), if_neg (show ¬ what = 1 by omega), if_neg (show ¬ what = 2 by omega), if_neg (show ¬ what = 3 by omega), if_neg (show ¬ what = 4 by omega), if_pos (show what = 5 by omega)]
      unfold sTorn aBit
      rw [vR_hi (by omega), show 16 * 0 + 13 = (13 : Int) by rfl]
      have q1 := Int.emod_nonneg (Z 69 13 / 2 ^ p.toNat) (show (2 : Int) ≠ 0 by omega)
      have q2 := Int.emod_lt_of_pos (Z 69 13 / 2 ^ p.toNat) (show (0 : Int) < 2 by omega)
      by_cases e : Z 69 13 / 2 ^ p.toNat % 2 = 1
      · rw [aTr_pos e]; exact e
      · rw [aTr_neg e]; omega
    · refine a_tsOut hX dX10_paper_11 (by omega) e11 (tgt := 98) (by decide) ?_
      refine a_bipush hX rfl dX10_paper_98 (pc' := 100) rfl ?_
      refine a_iret hX dX10_paper_100 (hE _ _ _ ?_)
      refine ⟨aLf ?_, rfl, rfl⟩
      rw [if_pos c5, if_neg (show ¬ what = 0 by omega), if_neg (show ¬ what = 1 by omega), if_neg (show ¬ what = 2 by omega), if_neg (show ¬ what = 3 by omega), if_neg (show ¬ what = 4 by omega), if_neg (show ¬ what = 5 by omega)]
  · refine a_iconst hX dX10_paper_8 (pc' := 9) rfl ?_
    refine a_iret hX dX10_paper_9 (hE _ _ _ ?_)
    refine ⟨aLf ?_, rfl, rfl⟩
    rw [if_neg (by rw [c5]; decide)]

set_option maxHeartbeats 4000000 in
set_option maxRecDepth 100000 in
theorem q_count {G : aG} {Z : aZ} {Y : aY} {what : Int} (hwhat : -2147483648 ≤ what ∧ what < 2147483648) (hB : aB Z) (hP : okP (vQ Z)) (hS : okS (vQ Z) (vR Z 0)) (hd : Z 69 15 ≤ 5000) : aSi G yX10_count cX10_count 2 (some .int) 3 67 [.ref (G.1 62), .int (aI what)] Z Y (if what = 0 then Z 62 17 else if what = 1 then Z 62 0 else if what = 2 then Z 62 1 else if what = 3 then Z 62 2 else if what = 4 then vR Z 0 15 else if what = 5 then pWind (vQ Z) (vR Z 0 15) else if what = 6 then sOwedAll (vQ Z) (vR Z 0) else if what = 7 then qFilled (vQ Z) (vR Z 0) else if what = 8 then vR Z 0 14 else if what = 9 then vR Z 0 13 else if what = 10 then Z 62 22 else if what = 11 then Z 62 25 else -2) := by
  refine aS.of (own := RX10) (by decide +kernel) rfl 0 (Nat.le_of_ble_eq_true rfl) (fun X hX hE => ?_)
  show AW X G 0 [some (.ref (G.1 62)), some (.int (aI what))] [] Z Y
  have hfQ := fQ hP
  have hfR := fR hS
  have hfR1 : 0 ≤ Z 69 15 := hfR.2.2
  have hfR2 : 0 ≤ Z 69 13 ∧ Z 69 13 < 32 := hfR.1
  refine a_iload_n hX rfl rfl dX10_count_0 (pc' := 1) rfl ?_
  have hsw : what = 0 ∨ what = 1 ∨ what = 2 ∨ what = 3 ∨ what = 4 ∨ what = 5 ∨ what = 6 ∨ what = 7 ∨ what = 8 ∨ what = 9 ∨ what = 10 ∨ what = 11 ∨ (what < 0 ∨ 11 < what) := by omega
  rcases hsw with e1 | e1 | e1 | e1 | e1 | e1 | e1 | e1 | e1 | e1 | e1 | e1 | e1
  · refine a_tsIn hX dX10_count_1 (by omega) (by omega) (by omega) (off := 63) (by rw [e1]; rfl) (tgt := 64) (by decide) ?_
    refine a_aload_n hX rfl rfl dX10_count_64 (pc' := 65) rfl ?_
    refine a_getfI hX (ji := 17) rfl hB fl_X10_72 rfl (by decide) rfl dX10_count_65 (pc' := 68) rfl (fun hb => ?_)
    refine a_iret hX dX10_count_68 (hE _ _ _ ?_)
    refine ⟨aLf ?_, rfl, rfl⟩
    rw [if_pos (show what = 0 by omega)]
  · refine a_tsIn hX dX10_count_1 (by omega) (by omega) (by omega) (off := 68) (by rw [e1]; rfl) (tgt := 69) (by decide) ?_
    refine a_aload_n hX rfl rfl dX10_count_69 (pc' := 70) rfl ?_
    refine a_getfI hX (ji := 0) rfl hB fl_X10_102 rfl (by decide) rfl dX10_count_70 (pc' := 73) rfl (fun hb => ?_)
    refine a_iret hX dX10_count_73 (hE _ _ _ ?_)
    refine ⟨aLf ?_, rfl, rfl⟩
    rw [if_neg (show ¬ what = 0 by omega), if_pos (show what = 1 by omega)]
  · refine a_tsIn hX dX10_count_1 (by omega) (by omega) (by omega) (off := 73) (by rw [e1]; rfl) (tgt := 74) (by decide) ?_
    refine a_aload_n hX rfl rfl dX10_count_74 (pc' := 75) rfl ?_
    refine a_getfI hX (ji := 1) rfl hB fl_X10_105 rfl (by decide) rfl dX10_count_75 (pc' := 78) rfl (fun hb => ?_)
    refine a_iret hX dX10_count_78 (hE _ _ _ ?_)
    refine ⟨aLf ?_, rfl, rfl⟩
    rw [if_neg (show ¬ what = 0 by omega), if_neg (show ¬ what = 1 by omega), if_pos (show what = 2 by omega)]
  · refine a_tsIn hX dX10_count_1 (by omega) (by omega) (by omega) (off := 78) (by rw [e1]; rfl) (tgt := 79) (by decide) ?_
    refine a_aload_n hX rfl rfl dX10_count_79 (pc' := 80) rfl ?_
    refine a_getfI hX (ji := 2) rfl hB fl_X10_108 rfl (by decide) rfl dX10_count_80 (pc' := 83) rfl (fun hb => ?_)
    refine a_iret hX dX10_count_83 (hE _ _ _ ?_)
    refine ⟨aLf ?_, rfl, rfl⟩
    rw [if_neg (show ¬ what = 0 by omega), if_neg (show ¬ what = 1 by omega), if_neg (show ¬ what = 2 by omega), if_pos (show what = 3 by omega)]
  · refine a_tsIn hX dX10_count_1 (by omega) (by omega) (by omega) (off := 83) (by rw [e1]; rfl) (tgt := 84) (by decide) ?_
    refine a_aload_n hX rfl rfl dX10_count_84 (pc' := 85) rfl ?_
    refine a_getfR hX (r := 69) fl_X10_28 rfl (by decide) rfl dX10_count_85 (pc' := 88) rfl ?_
    refine a_bipush hX rfl dX10_count_88 (pc' := 90) rfl ?_
    refine a_iald hX rfl (by decide) (by decide) (by omega) hB dX10_count_90 (pc' := 91) rfl (fun hb => ?_)
    refine a_iret hX dX10_count_91 (hE _ _ _ ?_)
    refine ⟨aLf ?_, rfl, rfl⟩
    rw [if_neg (show ¬ what = 0 by omega), if_neg (show ¬ what = 1 by omega), if_neg (show ¬ what = 2 by omega), if_neg (show ¬ what = 3 by omega), if_pos (show what = 4 by omega)]
    rw [vR_hi (by omega)]
    rfl
  · refine a_tsIn hX dX10_count_1 (by omega) (by omega) (by omega) (off := 91) (by rw [e1]; rfl) (tgt := 92) (by decide) ?_
    refine a_aload_n hX rfl rfl dX10_count_92 (pc' := 93) rfl ?_
    refine a_aload_n hX rfl rfl dX10_count_93 (pc' := 94) rfl ?_
    refine a_getfR hX (r := 69) fl_X10_28 rfl (by decide) rfl dX10_count_94 (pc' := 97) rfl ?_
    refine a_bipush hX rfl dX10_count_97 (pc' := 99) rfl ?_
    refine a_iald hX rfl (by decide) (by decide) (by omega) hB dX10_count_99 (pc' := 100) rfl (fun hb => ?_)
    refine a_cV1i hX cv_X10_134 (q_windOf (by omega) hB hP) rfl (by decide) ⟨by decide, by decide⟩ (Nat.le_of_ble_eq_true rfl) dX10_count_100 (pc' := 103) rfl ?_
    refine a_iret hX dX10_count_103 (hE _ _ _ ?_)
    refine ⟨aLf ?_, rfl, rfl⟩
    rw [if_neg (show ¬ what = 0 by omega), if_neg (show ¬ what = 1 by omega), if_neg (show ¬ what = 2 by omega), if_neg (show ¬ what = 3 by omega), if_neg (show ¬ what = 4 by omega), if_pos (show what = 5 by omega)]
    rw [vR_hi (by omega)]
    rfl
  · refine a_tsIn hX dX10_count_1 (by omega) (by omega) (by omega) (off := 103) (by rw [e1]; rfl) (tgt := 104) (by decide) ?_
    refine a_aload_n hX rfl rfl dX10_count_104 (pc' := 105) rfl ?_
    refine a_iconst hX dX10_count_105 (pc' := 106) rfl ?_
    refine a_cV1i hX cv_X10_155 (q_owedInAll (by omega) hB hP hS hd) rfl (by decide) ⟨by decide, by decide⟩ (Nat.le_of_ble_eq_true rfl) dX10_count_106 (pc' := 109) rfl ?_
    refine a_iret hX dX10_count_109 (hE _ _ _ ?_)
    refine ⟨aLf ?_, rfl, rfl⟩
    rw [if_neg (show ¬ what = 0 by omega), if_neg (show ¬ what = 1 by omega), if_neg (show ¬ what = 2 by omega), if_neg (show ¬ what = 3 by omega), if_neg (show ¬ what = 4 by omega), if_neg (show ¬ what = 5 by omega), if_pos (show what = 6 by omega)]
  · refine a_tsIn hX dX10_count_1 (by omega) (by omega) (by omega) (off := 109) (by rw [e1]; rfl) (tgt := 110) (by decide) ?_
    refine a_aload_n hX rfl rfl dX10_count_110 (pc' := 111) rfl ?_
    refine a_iconst hX dX10_count_111 (pc' := 112) rfl ?_
    refine a_cV1i hX cv_X10_265 (q_filledInAll (by omega) hB hP hS hd) rfl (by decide) ⟨by decide, by decide⟩ (Nat.le_of_ble_eq_true rfl) dX10_count_112 (pc' := 115) rfl ?_
    refine a_iret hX dX10_count_115 (hE _ _ _ ?_)
    refine ⟨aLf ?_, rfl, rfl⟩
    rw [if_neg (show ¬ what = 0 by omega), if_neg (show ¬ what = 1 by omega), if_neg (show ¬ what = 2 by omega), if_neg (show ¬ what = 3 by omega), if_neg (show ¬ what = 4 by omega), if_neg (show ¬ what = 5 by omega), if_neg (show ¬ what = 6 by omega), if_pos (show what = 7 by omega)]
  · refine a_tsIn hX dX10_count_1 (by omega) (by omega) (by omega) (off := 115) (by rw [e1]; rfl) (tgt := 116) (by decide) ?_
    refine a_aload_n hX rfl rfl dX10_count_116 (pc' := 117) rfl ?_
    refine a_getfR hX (r := 69) fl_X10_28 rfl (by decide) rfl dX10_count_117 (pc' := 120) rfl ?_
    refine a_bipush hX rfl dX10_count_120 (pc' := 122) rfl ?_
    refine a_iald hX rfl (by decide) (by decide) (by omega) hB dX10_count_122 (pc' := 123) rfl (fun hb => ?_)
    refine a_iret hX dX10_count_123 (hE _ _ _ ?_)
    refine ⟨aLf ?_, rfl, rfl⟩
    rw [if_neg (show ¬ what = 0 by omega), if_neg (show ¬ what = 1 by omega), if_neg (show ¬ what = 2 by omega), if_neg (show ¬ what = 3 by omega), if_neg (show ¬ what = 4 by omega), if_neg (show ¬ what = 5 by omega), if_neg (show ¬ what = 6 by omega), if_neg (show ¬ what = 7 by omega), if_pos (show what = 8 by omega)]
    rw [vR_hi (by omega)]
    rfl
  · refine a_tsIn hX dX10_count_1 (by omega) (by omega) (by omega) (off := 123) (by rw [e1]; rfl) (tgt := 124) (by decide) ?_
    refine a_aload_n hX rfl rfl dX10_count_124 (pc' := 125) rfl ?_
    refine a_getfR hX (r := 69) fl_X10_28 rfl (by decide) rfl dX10_count_125 (pc' := 128) rfl ?_
    refine a_bipush hX rfl dX10_count_128 (pc' := 130) rfl ?_
    refine a_iald hX rfl (by decide) (by decide) (by omega) hB dX10_count_130 (pc' := 131) rfl (fun hb => ?_)
    refine a_iret hX dX10_count_131 (hE _ _ _ ?_)
    refine ⟨aLf ?_, rfl, rfl⟩
    rw [if_neg (show ¬ what = 0 by omega), if_neg (show ¬ what = 1 by omega), if_neg (show ¬ what = 2 by omega), if_neg (show ¬ what = 3 by omega), if_neg (show ¬ what = 4 by omega), if_neg (show ¬ what = 5 by omega), if_neg (show ¬ what = 6 by omega), if_neg (show ¬ what = 7 by omega), if_neg (show ¬ what = 8 by omega), if_pos (show what = 9 by omega)]
    rw [vR_hi (by omega)]
    rfl
  · refine a_tsIn hX dX10_count_1 (by omega) (by omega) (by omega) (off := 131) (by rw [e1]; rfl) (tgt := 132) (by decide) ?_
    refine a_aload_n hX rfl rfl dX10_count_132 (pc' := 133) rfl ?_
    refine a_getfI hX (ji := 22) rfl hB fl_X10_111 rfl (by decide) rfl dX10_count_133 (pc' := 136) rfl (fun hb => ?_)
    refine a_iret hX dX10_count_136 (hE _ _ _ ?_)
    refine ⟨aLf ?_, rfl, rfl⟩
    rw [if_neg (show ¬ what = 0 by omega), if_neg (show ¬ what = 1 by omega), if_neg (show ¬ what = 2 by omega), if_neg (show ¬ what = 3 by omega), if_neg (show ¬ what = 4 by omega), if_neg (show ¬ what = 5 by omega), if_neg (show ¬ what = 6 by omega), if_neg (show ¬ what = 7 by omega), if_neg (show ¬ what = 8 by omega), if_neg (show ¬ what = 9 by omega), if_pos (show what = 10 by omega)]
  · refine a_tsIn hX dX10_count_1 (by omega) (by omega) (by omega) (off := 136) (by rw [e1]; rfl) (tgt := 137) (by decide) ?_
    refine a_aload_n hX rfl rfl dX10_count_137 (pc' := 138) rfl ?_
    refine a_getfI hX (ji := 25) rfl hB fl_X10_218 rfl (by decide) rfl dX10_count_138 (pc' := 141) rfl (fun hb => ?_)
    refine a_iret hX dX10_count_141 (hE _ _ _ ?_)
    refine ⟨aLf ?_, rfl, rfl⟩
    rw [if_neg (show ¬ what = 0 by omega), if_neg (show ¬ what = 1 by omega), if_neg (show ¬ what = 2 by omega), if_neg (show ¬ what = 3 by omega), if_neg (show ¬ what = 4 by omega), if_neg (show ¬ what = 5 by omega), if_neg (show ¬ what = 6 by omega), if_neg (show ¬ what = 7 by omega), if_neg (show ¬ what = 8 by omega), if_neg (show ¬ what = 9 by omega), if_neg (show ¬ what = 10 by omega), if_pos (show what = 11 by omega)]
  · refine a_tsOut hX dX10_count_1 (by omega) e1 (tgt := 142) (by decide) ?_
    refine a_bipush hX rfl dX10_count_142 (pc' := 144) rfl ?_
    refine a_iret hX dX10_count_144 (hE _ _ _ ?_)
    refine ⟨aLf ?_, rfl, rfl⟩
    rw [if_neg (show ¬ what = 0 by omega), if_neg (show ¬ what = 1 by omega), if_neg (show ¬ what = 2 by omega), if_neg (show ¬ what = 3 by omega), if_neg (show ¬ what = 4 by omega), if_neg (show ¬ what = 5 by omega), if_neg (show ¬ what = 6 by omega), if_neg (show ¬ what = 7 by omega), if_neg (show ¬ what = 8 by omega), if_neg (show ¬ what = 9 by omega), if_neg (show ¬ what = 10 by omega), if_neg (show ¬ what = 11 by omega)]

set_option maxHeartbeats 4000000 in
set_option maxRecDepth 100000 in
theorem q_see {G : aG} {Z : aZ} {Y : aY} {y n : Int} (hy : -2147483648 ≤ y ∧ y < 2147483648) (hn : -2147483648 ≤ n ∧ n < 2147483648) (hB : aB Z) (hW : 0 ≤ Z 62 25 ∧ Z 62 25 ≤ 6) : aSI G yX10_see cX10_see 3 (some .int) 1 25 [.ref (G.1 62), .int (aI y), .int (aI n)] Z Y (fun x Z' Y' => x = (if 0 ≤ y ∧ y < 6 then (if 0 ≤ n ∧ n ≤ 9 then (if Z 62 25 < 6 then Z 62 25 + 1 else -4) else -2) else -1) ∧ Z' = (if (0 ≤ y ∧ y < 6) ∧ (0 ≤ n ∧ n ≤ 9) ∧ Z 62 25 < 6 then aU (aU (aU Z 76 (Z 62 25) y) 77 (Z 62 25) n) 62 25 (Z 62 25 + 1) else Z) ∧ aB Z' ∧ Y' = Y) := by
  refine aS.of (own := RX10) (by decide +kernel) rfl 0 (Nat.le_of_ble_eq_true rfl) (fun X hX hE => ?_)
  show AW X G 0 [some (.ref (G.1 62)), some (.int (aI y)), some (.int (aI n))] [] Z Y
  refine a_iload_n hX rfl rfl dX10_see_0 (pc' := 1) rfl ?_
  refine a_i2l hX (by omega) dX10_see_1 (pc' := 2) rfl ?_
  refine a_lconst hX (v := 0) rfl dX10_see_2 (pc' := 3) rfl ?_
  refine a_ldc2J hX (z := 5) w_1094 (by decide) dX10_see_3 (pc' := 6) rfl ?_
  refine a_cS3i hX cs_X10_68 (q_in (by omega) (by omega) (by omega)) ⟨by decide, by decide⟩ (Nat.le_of_ble_eq_true rfl) dX10_see_6 (pc' := 9) rfl ?_
  refine a_ifb_ne hX dX10_see_9 (pc' := 12) rfl (tgt := 14) (by decide) (fun c9 => ?_) (fun c9 => ?_)
  · have c9 := of_decide_eq_true c9
    refine a_iload_n hX rfl rfl dX10_see_14 (pc' := 15) rfl ?_
    refine a_i2l hX (by omega) dX10_see_15 (pc' := 16) rfl ?_
    refine a_lconst hX (v := 0) rfl dX10_see_16 (pc' := 17) rfl ?_
    refine a_ldc2J hX (z := 9) w_1095 (by decide) dX10_see_17 (pc' := 20) rfl ?_
    refine a_cS3i hX cs_X10_68 (q_in (by omega) (by omega) (by omega)) ⟨by decide, by decide⟩ (Nat.le_of_ble_eq_true rfl) dX10_see_20 (pc' := 23) rfl ?_
    refine a_ifb_ne hX dX10_see_23 (pc' := 26) rfl (tgt := 29) (by decide) (fun c23 => ?_) (fun c23 => ?_)
    · have c23 := of_decide_eq_true c23
      refine a_aload_n hX rfl rfl dX10_see_29 (pc' := 30) rfl ?_
      refine a_getfI hX (ji := 25) rfl hB fl_X10_218 rfl (by decide) rfl dX10_see_30 (pc' := 33) rfl (fun hb => ?_)
      refine a_bipush hX rfl dX10_see_33 (pc' := 35) rfl ?_
      refine a_icmp_ne hX (by omega) (by omega) dX10_see_35 (pc' := 38) rfl (tgt := 41) (by decide) (fun c35 => ?_) (fun c35 => ?_)
      · refine a_aload_n hX rfl rfl dX10_see_41 (pc' := 42) rfl ?_
        refine a_getfR hX (r := 76) fl_X10_53 rfl (by decide) rfl dX10_see_42 (pc' := 45) rfl ?_
        refine a_aload_n hX rfl rfl dX10_see_45 (pc' := 46) rfl ?_
        refine a_getfI hX (ji := 25) rfl hB fl_X10_218 rfl (by decide) rfl dX10_see_46 (pc' := 49) rfl (fun hb => ?_)
        refine a_iload_n hX rfl rfl dX10_see_49 (pc' := 50) rfl ?_
        refine a_iastB hX rfl (by decide) (by decide) (by omega) hB (by omega) dX10_see_50 (pc' := 51) rfl (fun hB => ?_)
        refine a_aload_n hX rfl rfl dX10_see_51 (pc' := 52) rfl ?_
        refine a_getfR hX (r := 77) fl_X10_56 rfl (by decide) rfl dX10_see_52 (pc' := 55) rfl ?_
        refine a_aload_n hX rfl rfl dX10_see_55 (pc' := 56) rfl ?_
        refine a_getfI hX (ji := 25) rfl hB fl_X10_218 rfl (by decide) rfl dX10_see_56 (pc' := 59) rfl (fun hb => ?_)
        rw [aU_ne (show 62 ≠ 76 by decide)]
        refine a_iload_n hX rfl rfl dX10_see_59 (pc' := 60) rfl ?_
        refine a_iastB hX rfl (by decide) (by decide) (by omega) hB (by omega) dX10_see_60 (pc' := 61) rfl (fun hB => ?_)
        refine a_aload_n hX rfl rfl dX10_see_61 (pc' := 62) rfl ?_
        refine a_dup hX rfl dX10_see_62 (pc' := 63) rfl ?_
        refine a_getfI hX (ji := 25) rfl hB fl_X10_218 rfl (by decide) rfl dX10_see_63 (pc' := 66) rfl (fun hb => ?_)
        rw [aU_ne (show 62 ≠ 77 by decide), aU_ne (show 62 ≠ 76 by decide)]
        refine a_iconst hX dX10_see_66 (pc' := 67) rfl ?_
        refine a_iadd hX dX10_see_67 (pc' := 68) rfl ?_
        refine a_putfIB hX fl_X10_218 nf_9_25 (ji := 25) rfl rfl (by decide) rfl hB (by omega) dX10_see_68 (pc' := 71) rfl (fun hB => ?_)
        refine a_aload_n hX rfl rfl dX10_see_71 (pc' := 72) rfl ?_
        refine a_getfI hX (ji := 25) rfl hB fl_X10_218 rfl (by decide) rfl dX10_see_72 (pc' := 75) rfl (fun hb => ?_)
        refine a_iret hX dX10_see_75 (hE _ _ _ ?_)
        exact ⟨_, rfl, by rw [if_pos (by omega), if_pos (by omega), if_pos (by omega), aU_eq], by rw [if_pos (by omega)], hB, rfl⟩
      · refine a_bipush hX rfl dX10_see_38 (pc' := 40) rfl ?_
        refine a_iret hX dX10_see_40 (hE _ _ _ ?_)
        exact ⟨_, rfl, by rw [if_pos (by omega), if_pos (by omega), if_neg (by omega)], by rw [if_neg (by omega)], hB, rfl⟩
    · have c23 := of_decide_eq_false c23
      refine a_bipush hX rfl dX10_see_26 (pc' := 28) rfl ?_
      refine a_iret hX dX10_see_28 (hE _ _ _ ?_)
      exact ⟨_, rfl, by rw [if_pos (by omega), if_neg (by omega)], by rw [if_neg (by omega)], hB, rfl⟩
  · have c9 := of_decide_eq_false c9
    refine a_iconst hX dX10_see_12 (pc' := 13) rfl ?_
    refine a_iret hX dX10_see_13 (hE _ _ _ ?_)
    exact ⟨_, rfl, by rw [if_neg (by omega)], by rw [if_neg (by omega)], hB, rfl⟩

set_option maxHeartbeats 4000000 in
set_option maxRecDepth 100000 in
theorem q_unsee {G : aG} {Z : aZ} {Y : aY} (hB : aB Z) : aSI G yX10_unsee cX10_unsee 2 (some .int) 0 0 [.ref (G.1 62)] Z Y (fun x Z' Y' => x = Z 62 25 ∧ Z' = aU Z 62 25 0 ∧ aB Z' ∧ Y' = Y) := by
  refine aS.of (own := RX10) (by decide +kernel) rfl 1 (Nat.le_of_ble_eq_true rfl) (fun X hX hE => ?_)
  show AW X G 0 [some (.ref (G.1 62)), none] [] Z Y
  refine a_aload_n hX rfl rfl dX10_unsee_0 (pc' := 1) rfl ?_
  refine a_getfI hX (ji := 25) rfl hB fl_X10_218 rfl (by decide) rfl dX10_unsee_1 (pc' := 4) rfl (fun hb => ?_)
  refine a_istore1 hX rfl (by decide) rfl dX10_unsee_4 (pc' := 5) rfl ?_
  refine a_aload_n hX rfl rfl dX10_unsee_5 (pc' := 6) rfl ?_
  refine a_iconst hX dX10_unsee_6 (pc' := 7) rfl ?_
  refine a_putfIB hX fl_X10_218 nf_9_25 (ji := 25) rfl rfl (by decide) rfl hB (by omega) dX10_unsee_7 (pc' := 10) rfl (fun hB => ?_)
  refine a_iload_n hX rfl rfl dX10_unsee_10 (pc' := 11) rfl ?_
  refine a_iret hX dX10_unsee_11 (hE _ _ _ ?_)
  exact ⟨_, rfl, rfl, rfl, hB, rfl⟩

set_option maxHeartbeats 4000000 in
set_option maxRecDepth 100000 in
theorem q_behind {G : aG} {Z : aZ} {Y : aY} {y k n : Int} (hy : 0 ≤ y ∧ y ≤ 5) (hk : 0 ≤ k ∧ k ≤ 3) (hn : 0 ≤ n ∧ n ≤ 9) (hB : aB Z) (hP : okP (vQ Z)) : aSi G yX10_behind cX10_behind 6 (some .int) 1 24 [.ref (G.1 62), .int (aI y), .int (aI k), .int (aI n)] Z Y (pCarry (vQ Z) k y 0 n.toNat) := by
  refine aS.of (own := RX10) (by decide +kernel) rfl 2 (Nat.le_of_ble_eq_true rfl) (fun X hX hE => ?_)
  show AW X G 0 [some (.ref (G.1 62)), some (.int (aI y)), some (.int (aI k)), some (.int (aI n)), none, none] [] Z Y
  have hfQ := fQ hP
  refine a_iload_n hX rfl rfl dX10_behind_0 (pc' := 1) rfl ?_
  refine a_istore4 hX (by decide) rfl dX10_behind_1 (pc' := 3) rfl ?_
  refine a_iconst hX dX10_behind_3 (pc' := 4) rfl ?_
  refine a_istore5 hX (by decide) rfl dX10_behind_4 (pc' := 6) rfl ?_
  have L6 : ∀ (m : Nat) (i : Int), (0 ≤ i ∧ i ≤ n) → (n - i).toNat < m → AW X G 6 [some (.ref (G.1 62)), some (.int (aI y)), some (.int (aI k)), some (.int (aI n)), some (.int (aI (pCarry (vQ Z) k y 0 i.toNat))), some (.int (aI i))] [] Z Y := by
    intro m
    induction m with
    | zero =>
      intro i hi hm
      omega
    | succ m ih =>
      intro i hi hm
      have hcy := pCarry_rng (P := vQ Z) (k := k) (d := 0) hy i.toNat
      refine a_iload hX rfl dX10_behind_6 (pc' := 8) rfl ?_
      refine a_iload_n hX rfl rfl dX10_behind_8 (pc' := 9) rfl ?_
      refine a_icmp_ge hX (by omega) (by omega) dX10_behind_9 (pc' := 12) rfl (tgt := 32) (by decide) (fun c9 => ?_) (fun c9 => ?_)
      · refine a_iload hX rfl dX10_behind_32 (pc' := 34) rfl ?_
        refine a_iret hX dX10_behind_34 (hE _ _ _ ?_)
        obtain rfl : i = n := by omega
        exact ⟨rfl, rfl, rfl⟩
      · refine a_iload hX rfl dX10_behind_12 (pc' := 14) rfl ?_
        refine a_iload_n hX rfl rfl dX10_behind_14 (pc' := 15) rfl ?_
        refine a_aload_n hX rfl rfl dX10_behind_15 (pc' := 16) rfl ?_
        refine a_iload hX rfl dX10_behind_16 (pc' := 18) rfl ?_
        refine a_cV1i hX cv_X10_134 (q_windOf (by omega) hB hP) rfl (by decide) ⟨by decide, by decide⟩ (Nat.le_of_ble_eq_true rfl) dX10_behind_18 (pc' := 21) rfl ?_
        have hwr := pWind_rng hP i
        refine a_cS3i hX cs_X10_138 (q_blown (by omega) (by omega) (by omega)) ⟨by decide, by decide⟩ (Nat.le_of_ble_eq_true rfl) dX10_behind_21 (pc' := 24) rfl ?_
        refine a_istore4 hX (by decide) rfl dX10_behind_24 (pc' := 26) rfl ?_
        refine a_iinc5 hX (by decide) rfl dX10_behind_26 (pc' := 29) rfl ?_
        refine a_goto hX dX10_behind_29 (tgt := 6) (by decide) ?_
        have H := ih (i + 1) (by omega) (by omega)
        rw [show (i + 1).toNat = i.toNat + 1 by omega, pCarry_s, Int.toNat_of_nonneg hi.1, Int.zero_add] at H
        exact H
  exact L6 11 0 (by omega) (by omega)

theorem sAgN_s {P : aP} {f g : Int → Int} {k y i : Int} (h : 0 ≤ i) : sAgN P f g k y (i + 1).toNat = (sAgN P f g k y i.toNat && decide (pCarry P k y 0 (g i).toNat = f i)) := by
  rw [show (i + 1).toNat = i.toNat + 1 by omega]
  show (sAgN P f g k y i.toNat && decide (pCarry P k y 0 (g (i.toNat : Int)).toNat = f (i.toNat : Int))) = _
  rw [Int.toNat_of_nonneg h]

set_option maxHeartbeats 4000000 in
set_option maxRecDepth 100000 in
theorem q_began {G : aG} {Z : aZ} {Y : aY} {k : Int} (hk : -2147483648 ≤ k ∧ k < 2147483648) (hB : aB Z) (hP : okP (vQ Z)) (hW : (0 ≤ Z 62 25 ∧ Z 62 25 ≤ 6) ∧ (∀ j, 0 ≤ Z 76 j ∧ Z 76 j ≤ 5) ∧ ∀ j, 0 ≤ Z 77 j ∧ Z 77 j ≤ 9) : aSi G yX10_began cX10_began 6 (some .int) 2 49 [.ref (G.1 62), .int (aI k)] Z Y (if 0 ≤ k ∧ k < 4 then aBits (fun y => sAgN (vQ Z) (Z 76) (Z 77) k y (Z 62 25).toNat) 6 else -2) := by
  refine aS.of (own := RX10) (by decide +kernel) rfl 4 (Nat.le_of_ble_eq_true rfl) (fun X hX hE => ?_)
  show AW X G 0 [some (.ref (G.1 62)), some (.int (aI k)), none, none, none, none] [] Z Y
  have hfQ := fQ hP
  refine a_iload_n hX rfl rfl dX10_began_0 (pc' := 1) rfl ?_
  refine a_i2l hX (by omega) dX10_began_1 (pc' := 2) rfl ?_
  refine a_lconst hX (v := 0) rfl dX10_began_2 (pc' := 3) rfl ?_
  refine a_ldc2J hX (z := 3) w_1104 (by decide) dX10_began_3 (pc' := 6) rfl ?_
  refine a_cS3i hX cs_X10_68 (q_in (by omega) (by omega) (by omega)) ⟨by decide, by decide⟩ (Nat.le_of_ble_eq_true rfl) dX10_began_6 (pc' := 9) rfl ?_
  refine a_ifb_ne hX dX10_began_9 (pc' := 12) rfl (tgt := 15) (by decide) (fun c9 => ?_) (fun c9 => ?_)
  · have c9 := of_decide_eq_true c9
    refine a_iconst hX dX10_began_15 (pc' := 16) rfl ?_
    refine a_istore2 hX rfl (by decide) rfl dX10_began_16 (pc' := 17) rfl ?_
    refine a_iconst hX dX10_began_17 (pc' := 18) rfl ?_
    refine a_istore3 hX rfl (by decide) rfl dX10_began_18 (pc' := 19) rfl ?_
    have L19 : ∀ (n : Nat) (y : Int), (0 ≤ y ∧ y ≤ 6) → (6 - y).toNat < n → AW X G 19 [some (.ref (G.1 62)), some (.int (aI k)), some (.int (aI (aBits (fun y => sAgN (vQ Z) (Z 76) (Z 77) k y (Z 62 25).toNat) y.toNat))), some (.int (aI y)), none, none] [] Z Y := by
      intro n
      induction n with
      | zero =>
        intro y hy hn
        omega
      | succ n ih =>
        intro y hy hn
        have hz := aBits_rng (fun y => sAgN (vQ Z) (Z 76) (Z 77) k y (Z 62 25).toNat) y.toNat
        refine a_iload_n hX rfl rfl dX10_began_19 (pc' := 20) rfl ?_
        refine a_bipush hX rfl dX10_began_20 (pc' := 22) rfl ?_
        refine a_icmp_ge hX (by omega) (by omega) dX10_began_22 (pc' := 25) rfl (tgt := 102) (by decide) (fun c22 => ?_) (fun c22 => ?_)
        · refine a_iload_n hX rfl rfl dX10_began_102 (pc' := 103) rfl ?_
          refine a_iret hX dX10_began_103 (hE _ _ _ ?_)
          refine ⟨aLf ?_, rfl, rfl⟩
          rw [if_pos (by omega), show y = 6 by omega]
          rfl
        · refine a_iconst hX dX10_began_25 (pc' := 26) rfl ?_
          refine a_istore4 hX (by decide) rfl dX10_began_26 (pc' := 28) rfl ?_
          refine a_iconst hX dX10_began_28 (pc' := 29) rfl ?_
          refine a_istore5 hX (by decide) rfl dX10_began_29 (pc' := 31) rfl ?_
          have L31 : ∀ (m : Nat) (i : Int), (0 ≤ i ∧ i ≤ Z 62 25) → (Z 62 25 - i).toNat < m → AW X G 31 [some (.ref (G.1 62)), some (.int (aI k)), some (.int (aI (aBits (fun y => sAgN (vQ Z) (Z 76) (Z 77) k y (Z 62 25).toNat) y.toNat))), some (.int (aI y)), some (.int (aI (aTr (sAgN (vQ Z) (Z 76) (Z 77) k y i.toNat)))), some (.int (aI i))] [] Z Y := by
            intro m
            induction m with
            | zero =>
              intro i hi hm
              omega
            | succ m ih2 =>
              intro i hi hm
              refine a_iload hX rfl dX10_began_31 (pc' := 33) rfl ?_
              refine a_aload_n hX rfl rfl dX10_began_33 (pc' := 34) rfl ?_
              refine a_getfI hX (ji := 25) rfl hB fl_X10_218 rfl (by decide) rfl dX10_began_34 (pc' := 37) rfl (fun hb => ?_)
              refine a_icmp_ge hX (by omega) (by omega) dX10_began_37 (pc' := 40) rfl (tgt := 81) (by decide) (fun c37 => ?_) (fun c37 => ?_)
              · refine a_iload_n hX rfl rfl dX10_began_81 (pc' := 82) rfl ?_
                refine a_iload hX rfl dX10_began_82 (pc' := 84) rfl ?_
                refine a_ifb_eq hX dX10_began_84 (pc' := 87) rfl (tgt := 93) (by decide) (fun c84 => ?_) (fun c84 => ?_)
                · refine a_iconst hX dX10_began_93 (pc' := 94) rfl ?_
                  refine a_ior hX (by omega) (by omega) dX10_began_94 (pc' := 95) rfl ?_
                  refine a_istore2 hX rfl (by decide) rfl dX10_began_95 (pc' := 96) rfl ?_
                  refine a_iinc3 hX (by decide) rfl dX10_began_96 (pc' := 99) rfl ?_
                  refine a_goto hX dX10_began_99 (tgt := 19) (by decide) ?_
                  have e0 := aBits_s (f := (fun y => sAgN (vQ Z) (Z 76) (Z 77) k y (Z 62 25).toNat)) hy.1
                  try dsimp only at e0
                  obtain rfl : i = Z 62 25 := by omega
                  first | rw [if_pos c84] at e0 | rw [if_neg (by rw [c84]; decide)] at e0
                  have H := ih (y + 1) (by omega) (by omega)
                  rw [e0] at H
                  first | rw [aTwo] | rw [aOr_0 hz.1]
                  refine AW.le ?_ H
                  exact ⟨rfl, rfl, rfl, rfl, trivial⟩
                · refine a_iconst hX dX10_began_87 (pc' := 88) rfl ?_
                  have hw := aPow2 (p := y)
                  refine a_iload_n hX rfl rfl dX10_began_88 (pc' := 89) rfl ?_
                  have hw : (2 : Int) ^ y.toNat ≤ 64 := by
                    have : ∀ n : Nat, n ≤ 6 → (2 : Int) ^ n ≤ 64 := by decide
                    exact this _ (by omega)
                  have hw0 := aPow_pos y.toNat
                  refine a_ishl hX (by omega) (by omega) (by omega) dX10_began_89 (pc' := 90) rfl ?_
                  refine a_goto hX dX10_began_90 (tgt := 94) (by decide) ?_
                  refine a_ior hX (by omega) (by omega) dX10_began_94 (pc' := 95) rfl ?_
                  refine a_istore2 hX rfl (by decide) rfl dX10_began_95 (pc' := 96) rfl ?_
                  refine a_iinc3 hX (by decide) rfl dX10_began_96 (pc' := 99) rfl ?_
                  refine a_goto hX dX10_began_99 (tgt := 19) (by decide) ?_
                  have e0 := aBits_s (f := (fun y => sAgN (vQ Z) (Z 76) (Z 77) k y (Z 62 25).toNat)) hy.1
                  try dsimp only at e0
                  obtain rfl : i = Z 62 25 := by omega
                  first | rw [if_pos c84] at e0 | rw [if_neg (by rw [c84]; decide)] at e0
                  have H := ih (y + 1) (by omega) (by omega)
                  rw [e0] at H
                  first | rw [aTwo] | rw [aOr_0 hz.1]
                  refine AW.le ?_ H
                  exact ⟨rfl, rfl, rfl, rfl, trivial⟩
              · refine a_iload hX rfl dX10_began_40 (pc' := 42) rfl ?_
                refine a_ifb_eq hX dX10_began_42 (pc' := 45) rfl (tgt := 72) (by decide) (fun c42 => ?_) (fun c42 => ?_)
                · refine a_iconst hX dX10_began_72 (pc' := 73) rfl ?_
                  refine a_istore4 hX (by decide) rfl dX10_began_73 (pc' := 75) rfl ?_
                  refine a_iinc5 hX (by decide) rfl dX10_began_75 (pc' := 78) rfl ?_
                  refine a_goto hX dX10_began_78 (tgt := 31) (by decide) ?_
                  have H := ih2 (i + 1) (by omega) (by omega)
                  rw [sAgN_s hi.1] at H
                  first
                    | (rw [c42, Bool.false_and] at H; exact H)
                    | (rw [c42, Bool.true_and] at H
                       first
                         | (rw [aTr_pos c65] at H; exact H)
                         | (rw [aTr_neg c65] at H; exact H))
                · refine a_aload_n hX rfl rfl dX10_began_45 (pc' := 46) rfl ?_
                  refine a_iload_n hX rfl rfl dX10_began_46 (pc' := 47) rfl ?_
                  refine a_iload_n hX rfl rfl dX10_began_47 (pc' := 48) rfl ?_
                  refine a_aload_n hX rfl rfl dX10_began_48 (pc' := 49) rfl ?_
                  refine a_getfR hX (r := 77) fl_X10_56 rfl (by decide) rfl dX10_began_49 (pc' := 52) rfl ?_
                  refine a_iload hX rfl dX10_began_52 (pc' := 54) rfl ?_
                  refine a_iald hX rfl (by decide) (by decide) (by omega) hB dX10_began_54 (pc' := 55) rfl (fun hb => ?_)
                  have h77 := hW.2.2 i
                  have h76 := hW.2.1 i
                  refine a_cV3i hX cv_X10_223 (q_behind (by omega) (by omega) (by omega) hB hP) rfl (by decide) ⟨by decide, by decide⟩ (Nat.le_of_ble_eq_true rfl) dX10_began_55 (pc' := 58) rfl ?_
                  refine a_aload_n hX rfl rfl dX10_began_58 (pc' := 59) rfl ?_
                  refine a_getfR hX (r := 76) fl_X10_53 rfl (by decide) rfl dX10_began_59 (pc' := 62) rfl ?_
                  refine a_iload hX rfl dX10_began_62 (pc' := 64) rfl ?_
                  refine a_iald hX rfl (by decide) (by decide) (by omega) hB dX10_began_64 (pc' := 65) rfl (fun hb => ?_)
                  have hcy := pCarry_rng (P := vQ Z) (k := k) (y := y) (d := 0) (by omega) (Z 77 i).toNat
                  refine a_icmp_ne hX (by omega) (by omega) dX10_began_65 (pc' := 68) rfl (tgt := 72) (by decide) (fun c65 => ?_) (fun c65 => ?_)
                  · refine a_iconst hX dX10_began_72 (pc' := 73) rfl ?_
                    refine a_istore4 hX (by decide) rfl dX10_began_73 (pc' := 75) rfl ?_
                    refine a_iinc5 hX (by decide) rfl dX10_began_75 (pc' := 78) rfl ?_
                    refine a_goto hX dX10_began_78 (tgt := 31) (by decide) ?_
                    have H := ih2 (i + 1) (by omega) (by omega)
                    rw [sAgN_s hi.1] at H
                    first
                      | (rw [c42, Bool.false_and] at H; exact H)
                      | (rw [c42, Bool.true_and] at H
                         first
                           | (rw [aTr_pos c65] at H; exact H)
                           | (rw [aTr_neg c65] at H; exact H))
                  · refine a_iconst hX dX10_began_68 (pc' := 69) rfl ?_
                    refine a_goto hX dX10_began_69 (tgt := 73) (by decide) ?_
                    refine a_istore4 hX (by decide) rfl dX10_began_73 (pc' := 75) rfl ?_
                    refine a_iinc5 hX (by decide) rfl dX10_began_75 (pc' := 78) rfl ?_
                    refine a_goto hX dX10_began_78 (tgt := 31) (by decide) ?_
                    have H := ih2 (i + 1) (by omega) (by omega)
                    rw [sAgN_s hi.1] at H
                    first
                      | (rw [c42, Bool.false_and] at H; exact H)
                      | (rw [c42, Bool.true_and] at H
                         first
                           | (rw [aTr_pos c65] at H; exact H)
                           | (rw [aTr_neg c65] at H; exact H))
          exact L31 7 0 (by omega) (by omega)
    exact L19 7 0 (by omega) (by omega)
  · have c9 := of_decide_eq_false c9
    refine a_bipush hX rfl dX10_began_12 (pc' := 14) rfl ?_
    refine a_iret hX dX10_began_14 (hE _ _ _ ?_)
    refine ⟨aLf ?_, rfl, rfl⟩
    rw [if_neg (by omega)]

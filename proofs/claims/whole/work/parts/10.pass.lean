set_option maxHeartbeats 4000000 in
set_option maxRecDepth 100000 in
theorem c_floorMod {G : aG} {Z : aZ} {Y : aY} {x y : Int} (hx : -2147483648 < x ∧ x < 2147483648) (hy : 0 < y ∧ y < 2147483648) : aSi G yJ9_floorMod_7cf53 cJ9_floorMod_7cf53 3 (some .int) 0 0 [.int (aI x), .int (aI y)] Z Y (x % y) := by
  refine aS.ofF (own := RJ9) (by decide +kernel) rfl 1 (Nat.le_of_ble_eq_true rfl) (fun X hX hE => ?_)
  show AW X G 0 [some (.int (aI x)), some (.int (aI y)), none] [] Z Y
  refine a_iload_n hX rfl rfl dJ9_floorMod_7cf53_0 (pc' := 1) rfl ?_
  refine a_iload_n hX rfl rfl dJ9_floorMod_7cf53_1 (pc' := 2) rfl ?_
  refine a_iremT hX (by omega) (by omega) dJ9_floorMod_7cf53_2 (pc' := 3) rfl ?_
  refine a_istore2 hX rfl (by decide) rfl dJ9_floorMod_7cf53_3 (pc' := 4) rfl ?_
  refine a_iload_n hX rfl rfl dJ9_floorMod_7cf53_4 (pc' := 5) rfl ?_
  refine a_iload_n hX rfl rfl dJ9_floorMod_7cf53_5 (pc' := 6) rfl ?_
  refine a_ixor32 hX dJ9_floorMod_7cf53_6 (pc' := 7) rfl ?_
  refine a_ifr_ge hX dJ9_floorMod_7cf53_7 (pc' := 10) rfl (tgt := 18) (by decide) (fun c7 => ?_) (fun c7 => ?_)
  · have c7 := (aI_xor_ge (by omega) (by omega)).mp c7
    refine a_iload_n hX rfl rfl dJ9_floorMod_7cf53_18 (pc' := 19) rfl ?_
    refine a_iret hX dJ9_floorMod_7cf53_19 (hE _ _ _ ?_)
    first | exact ⟨aLf (aTmod_pos c7), rfl, rfl⟩ | exact ⟨aLf (by rw [c11]; exact ((aTmod_neg (by omega) (by omega)).1 c11).symm), rfl, rfl⟩
  · have c7 : ¬ 0 ≤ x := fun q => c7 ((aI_xor_ge (by omega) (by omega)).mpr q)
    refine a_iload_n hX rfl rfl dJ9_floorMod_7cf53_10 (pc' := 11) rfl ?_
    refine a_if_eq hX (by first | omega | (have := Int.tmod_lt_of_pos x (show 0 < y by omega); have := Int.lt_tmod_of_pos x (show 0 < y by omega); omega)) dJ9_floorMod_7cf53_11 (pc' := 14) rfl (tgt := 18) (by decide) (fun c11 => ?_) (fun c11 => ?_)
    · refine a_iload_n hX rfl rfl dJ9_floorMod_7cf53_18 (pc' := 19) rfl ?_
      refine a_iret hX dJ9_floorMod_7cf53_19 (hE _ _ _ ?_)
      first | exact ⟨aLf (aTmod_pos c7), rfl, rfl⟩ | exact ⟨aLf (by rw [c11]; exact ((aTmod_neg (by omega) (by omega)).1 c11).symm), rfl, rfl⟩
    · refine a_iload_n hX rfl rfl dJ9_floorMod_7cf53_14 (pc' := 15) rfl ?_
      refine a_iload_n hX rfl rfl dJ9_floorMod_7cf53_15 (pc' := 16) rfl ?_
      refine a_iadd hX dJ9_floorMod_7cf53_16 (pc' := 17) rfl ?_
      refine a_iret hX dJ9_floorMod_7cf53_17 (hE _ _ _ ?_)
      exact ⟨aLf ((aTmod_neg (by omega) (by omega)).2 c11).symm, rfl, rfl⟩

set_option maxHeartbeats 4000000 in
set_option maxRecDepth 100000 in
theorem c_ring {G : aG} {Z : aZ} {Y : aY} {y : Int} (hy : -1000 < y ∧ y < 1000) : aSi G yX2_ring cX2_ring 1 (some .int) 1 22 [.int (aI y)] Z Y (y % 6) := by
  refine aS.of (own := RX2) (by decide +kernel) rfl 0 (Nat.le_of_ble_eq_true rfl) (fun X hX hE => ?_)
  show AW X G 0 [some (.int (aI y))] [] Z Y
  refine a_iload_n hX rfl rfl dX2_ring_0 (pc' := 1) rfl ?_
  refine a_bipush hX rfl dX2_ring_1 (pc' := 3) rfl ?_
  refine a_cS2i hX cs_X2_9 (c_floorMod (by omega) (by omega)) ⟨by decide, by decide⟩ (Nat.le_of_ble_eq_true rfl) dX2_ring_3 (pc' := 6) rfl ?_
  refine a_iret hX dX2_ring_6 (hE _ _ _ ?_)
  exact ⟨rfl, rfl, rfl⟩

set_option maxHeartbeats 4000000 in
set_option maxRecDepth 100000 in
theorem c_hasCloud {G : aG} {Z : aZ} {Y : aY} {x : Int} (hx : -2147483648 ≤ x ∧ x < 2147483648) (hB : aB Z) (hP : okP (vP Z)) : aSi G yX3_hasCloud cX3_hasCloud 2 (some .boolean) 0 0 [.ref (G.1 3), .int (aI x)] Z Y (aTr (pHasC (vP Z) x)) := by
  refine aS.of (own := RX3) (by decide +kernel) rfl 0 (Nat.le_of_ble_eq_true rfl) (fun X hX hE => ?_)
  show AW X G 0 [some (.ref (G.1 3)), some (.int (aI x))] [] Z Y
  have h1 := hP.2.1
  have h2 := hP.2.2.1
  rw [vP_1] at h1
  rw [vP_2] at h2
  refine a_iload_n hX rfl rfl dX3_hasCloud_0 (pc' := 1) rfl ?_
  refine a_if_lt hX (by omega) dX3_hasCloud_1 (pc' := 4) rfl (tgt := 21) (by decide) (fun c1 => ?_) (fun c1 => ?_)
  · refine a_iconst hX dX3_hasCloud_21 (pc' := 22) rfl ?_
    refine a_zret hX (by omega) dX3_hasCloud_22 (hE _ _ _ ?_)
    refine ⟨aLf ?_, rfl, rfl⟩
    unfold pHasC
    rw [vP_1]
    first | exact (aTr_pos (by omega)).symm | exact (aTr_neg (by omega)).symm
  · refine a_iload_n hX rfl rfl dX3_hasCloud_4 (pc' := 5) rfl ?_
    refine a_aload_n hX rfl rfl dX3_hasCloud_5 (pc' := 6) rfl ?_
    refine a_getfI hX (ji := 9) rfl hB fl_X3_40 rfl (by decide) rfl dX3_hasCloud_6 (pc' := 9) rfl (fun hb => ?_)
    refine a_icmp_ge hX (by omega) (by omega) dX3_hasCloud_9 (pc' := 12) rfl (tgt := 21) (by decide) (fun c9 => ?_) (fun c9 => ?_)
    · refine a_iconst hX dX3_hasCloud_21 (pc' := 22) rfl ?_
      refine a_zret hX (by omega) dX3_hasCloud_22 (hE _ _ _ ?_)
      refine ⟨aLf ?_, rfl, rfl⟩
      unfold pHasC
      rw [vP_1]
      first | exact (aTr_pos (by omega)).symm | exact (aTr_neg (by omega)).symm
    · refine a_iload_n hX rfl rfl dX3_hasCloud_12 (pc' := 13) rfl ?_
      refine a_iconst hX dX3_hasCloud_13 (pc' := 14) rfl ?_
      refine a_icmp_ge hX (by omega) (by omega) dX3_hasCloud_14 (pc' := 17) rfl (tgt := 21) (by decide) (fun c14 => ?_) (fun c14 => ?_)
      · refine a_iconst hX dX3_hasCloud_21 (pc' := 22) rfl ?_
        refine a_zret hX (by omega) dX3_hasCloud_22 (hE _ _ _ ?_)
        refine ⟨aLf ?_, rfl, rfl⟩
        unfold pHasC
        rw [vP_1]
        first | exact (aTr_pos (by omega)).symm | exact (aTr_neg (by omega)).symm
      · refine a_iconst hX dX3_hasCloud_17 (pc' := 18) rfl ?_
        refine a_goto hX dX3_hasCloud_18 (tgt := 22) (by decide) ?_
        refine a_zret hX (by omega) dX3_hasCloud_22 (hE _ _ _ ?_)
        refine ⟨aLf ?_, rfl, rfl⟩
        unfold pHasC
        rw [vP_1]
        first | exact (aTr_pos (by omega)).symm | exact (aTr_neg (by omega)).symm

set_option maxHeartbeats 4000000 in
set_option maxRecDepth 100000 in
theorem c_hasPaper {G : aG} {Z : aZ} {Y : aY} {x : Int} (hx : -2147483648 ≤ x ∧ x < 2147483648) (hB : aB Z) (hP : okP (vP Z)) : aSi G yX3_hasPaper cX3_hasPaper 2 (some .boolean) 0 0 [.ref (G.1 3), .int (aI x)] Z Y (aTr (pHasP (vP Z) x)) := by
  refine aS.of (own := RX3) (by decide +kernel) rfl 0 (Nat.le_of_ble_eq_true rfl) (fun X hX hE => ?_)
  show AW X G 0 [some (.ref (G.1 3)), some (.int (aI x))] [] Z Y
  have h1 := hP.2.1
  have h2 := hP.2.2.1
  rw [vP_1] at h1
  rw [vP_2] at h2
  refine a_iload_n hX rfl rfl dX3_hasPaper_0 (pc' := 1) rfl ?_
  refine a_if_lt hX (by omega) dX3_hasPaper_1 (pc' := 4) rfl (tgt := 21) (by decide) (fun c1 => ?_) (fun c1 => ?_)
  · refine a_iconst hX dX3_hasPaper_21 (pc' := 22) rfl ?_
    refine a_zret hX (by omega) dX3_hasPaper_22 (hE _ _ _ ?_)
    refine ⟨aLf ?_, rfl, rfl⟩
    unfold pHasP
    rw [vP_2]
    first | exact (aTr_pos (by omega)).symm | exact (aTr_neg (by omega)).symm
  · refine a_iload_n hX rfl rfl dX3_hasPaper_4 (pc' := 5) rfl ?_
    refine a_aload_n hX rfl rfl dX3_hasPaper_5 (pc' := 6) rfl ?_
    refine a_getfI hX (ji := 10) rfl hB fl_X3_43 rfl (by decide) rfl dX3_hasPaper_6 (pc' := 9) rfl (fun hb => ?_)
    refine a_icmp_ge hX (by omega) (by omega) dX3_hasPaper_9 (pc' := 12) rfl (tgt := 21) (by decide) (fun c9 => ?_) (fun c9 => ?_)
    · refine a_iconst hX dX3_hasPaper_21 (pc' := 22) rfl ?_
      refine a_zret hX (by omega) dX3_hasPaper_22 (hE _ _ _ ?_)
      refine ⟨aLf ?_, rfl, rfl⟩
      unfold pHasP
      rw [vP_2]
      first | exact (aTr_pos (by omega)).symm | exact (aTr_neg (by omega)).symm
    · refine a_iload_n hX rfl rfl dX3_hasPaper_12 (pc' := 13) rfl ?_
      refine a_iconst hX dX3_hasPaper_13 (pc' := 14) rfl ?_
      refine a_icmp_ge hX (by omega) (by omega) dX3_hasPaper_14 (pc' := 17) rfl (tgt := 21) (by decide) (fun c14 => ?_) (fun c14 => ?_)
      · refine a_iconst hX dX3_hasPaper_21 (pc' := 22) rfl ?_
        refine a_zret hX (by omega) dX3_hasPaper_22 (hE _ _ _ ?_)
        refine ⟨aLf ?_, rfl, rfl⟩
        unfold pHasP
        rw [vP_2]
        first | exact (aTr_pos (by omega)).symm | exact (aTr_neg (by omega)).symm
      · refine a_iconst hX dX3_hasPaper_17 (pc' := 18) rfl ?_
        refine a_goto hX dX3_hasPaper_18 (tgt := 22) (by decide) ?_
        refine a_zret hX (by omega) dX3_hasPaper_22 (hE _ _ _ ?_)
        refine ⟨aLf ?_, rfl, rfl⟩
        unfold pHasP
        rw [vP_2]
        first | exact (aTr_pos (by omega)).symm | exact (aTr_neg (by omega)).symm

set_option maxHeartbeats 4000000 in
set_option maxRecDepth 100000 in
theorem c_windOn {G : aG} {Z : aZ} {Y : aY} {x : Int} (hx : 0 ≤ x ∧ x < 100000) (hB : aB Z) (hP : okP (vP Z)) : aSi G yX3_windOn cX3_windOn 2 (some .int) 0 0 [.ref (G.1 3), .int (aI x)] Z Y (pWind (vP Z) x) := by
  refine aS.of (own := RX3) (by decide +kernel) rfl 0 (Nat.le_of_ble_eq_true rfl) (fun X hX hE => ?_)
  show AW X G 0 [some (.ref (G.1 3)), some (.int (aI x))] [] Z Y
  have h1 := hP.1
  rw [vP_0] at h1
  refine a_aload_n hX rfl rfl dX3_windOn_0 (pc' := 1) rfl ?_
  refine a_getfI hX (ji := 8) rfl hB fl_X3_36 rfl (by decide) rfl dX3_windOn_1 (pc' := 4) rfl (fun hb => ?_)
  refine a_if_le hX (by omega) dX3_windOn_4 (pc' := 7) rfl (tgt := 19) (by decide) (fun c4 => ?_) (fun c4 => ?_)
  · refine a_iconst hX dX3_windOn_19 (pc' := 20) rfl ?_
    refine a_iret hX dX3_windOn_20 (hE _ _ _ ?_)
    refine ⟨aLf ?_, rfl, rfl⟩
    unfold pWind
    rw [vP_0]
    first | rw [if_pos (by omega)] | (rw [if_neg (by omega)]; rfl)
  · refine a_aload_n hX rfl rfl dX3_windOn_7 (pc' := 8) rfl ?_
    refine a_getfI hX (ji := 8) rfl hB fl_X3_36 rfl (by decide) rfl dX3_windOn_8 (pc' := 11) rfl (fun hb => ?_)
    refine a_iconst hX dX3_windOn_11 (pc' := 12) rfl ?_
    refine a_icmp_gt hX (by omega) (by omega) dX3_windOn_12 (pc' := 15) rfl (tgt := 19) (by decide) (fun c12 => ?_) (fun c12 => ?_)
    · refine a_iconst hX dX3_windOn_19 (pc' := 20) rfl ?_
      refine a_iret hX dX3_windOn_20 (hE _ _ _ ?_)
      refine ⟨aLf ?_, rfl, rfl⟩
      unfold pWind
      rw [vP_0]
      first | rw [if_pos (by omega)] | (rw [if_neg (by omega)]; rfl)
    · refine a_iload_n hX rfl rfl dX3_windOn_15 (pc' := 16) rfl ?_
      refine a_if_ge hX (by omega) dX3_windOn_16 (pc' := 19) rfl (tgt := 21) (by decide) (fun c16 => ?_) (fun c16 => ?_)
      · refine a_aload_n hX rfl rfl dX3_windOn_21 (pc' := 22) rfl ?_
        refine a_getfR hX (r := 4) fl_X3_9 rfl (by decide) rfl dX3_windOn_22 (pc' := 25) rfl ?_
        refine a_iload_n hX rfl rfl dX3_windOn_25 (pc' := 26) rfl ?_
        refine a_aload_n hX rfl rfl dX3_windOn_26 (pc' := 27) rfl ?_
        refine a_getfI hX (ji := 8) rfl hB fl_X3_36 rfl (by decide) rfl dX3_windOn_27 (pc' := 30) rfl (fun hb => ?_)
        have h5 := Int.emod_nonneg x (show Z 3 8 ≠ 0 by omega)
        have h6 := Int.emod_lt_of_pos x (show 0 < Z 3 8 by omega)
        refine a_irem hX (by omega) (by omega) dX3_windOn_30 (pc' := 31) rfl ?_
        refine a_iald hX rfl (by decide) (by decide) (by omega) hB dX3_windOn_31 (pc' := 32) rfl (fun hb => ?_)
        refine a_iret hX dX3_windOn_32 (hE _ _ _ ?_)
        refine ⟨aLf ?_, rfl, rfl⟩
        unfold pWind
        rw [vP_0]
        first | rw [if_pos (by omega)] | (rw [if_neg (by omega)]; rfl)
      · refine a_iconst hX dX3_windOn_19 (pc' := 20) rfl ?_
        refine a_iret hX dX3_windOn_20 (hE _ _ _ ?_)
        refine ⟨aLf ?_, rfl, rfl⟩
        unfold pWind
        rw [vP_0]
        first | rw [if_pos (by omega)] | (rw [if_neg (by omega)]; rfl)

set_option maxHeartbeats 4000000 in
set_option maxRecDepth 100000 in
theorem c_drift {G : aG} {Z : aZ} {Y : aY} {k d : Int} (hk : 0 ≤ k ∧ k ≤ 3) (hd : 0 ≤ d ∧ d < 100000) (hB : aB Z) (hP : okP (vP Z)) : aSi G yX3_drift cX3_drift 6 (some .int) 1 21 [.ref (G.1 3), .int (aI k), .int (aI d)] Z Y (pDrift (vP Z) k d) := by
  refine aS.of (own := RX3) (by decide +kernel) rfl 3 (Nat.le_of_ble_eq_true rfl) (fun X hX hE => ?_)
  show AW X G 0 [some (.ref (G.1 3)), some (.int (aI k)), some (.int (aI d)), none, none, none] [] Z Y
  refine a_aload_n hX rfl rfl dX3_drift_0 (pc' := 1) rfl ?_
  refine a_iload_n hX rfl rfl dX3_drift_1 (pc' := 2) rfl ?_
  refine a_cV1i hX cv_X3_74 (c_windOn (by omega) hB hP) rfl (by decide) ⟨by decide, by decide⟩ (Nat.le_of_ble_eq_true rfl) dX3_drift_2 (pc' := 5) rfl ?_
  refine a_istore3 hX rfl (by decide) rfl dX3_drift_5 (pc' := 6) rfl ?_
  refine a_iload_n hX rfl rfl dX3_drift_6 (pc' := 7) rfl ?_
  refine a_iconst hX dX3_drift_7 (pc' := 8) rfl ?_
  refine a_icmp_ne hX (by have := pWind_rng hP d; omega) (by have := pWind_rng hP d; omega) dX3_drift_8 (pc' := 11) rfl (tgt := 15) (by decide) (fun c8 => ?_) (fun c8 => ?_)
  · refine a_iload_n hX rfl rfl dX3_drift_15 (pc' := 16) rfl ?_
    refine a_iconst hX dX3_drift_16 (pc' := 17) rfl ?_
    refine a_icmp_ne hX (by have := pWind_rng hP d; omega) (by have := pWind_rng hP d; omega) dX3_drift_17 (pc' := 20) rfl (tgt := 24) (by decide) (fun c17 => ?_) (fun c17 => ?_)
    · refine a_iconst hX dX3_drift_24 (pc' := 25) rfl ?_
      refine a_istore4 hX (by decide) rfl dX3_drift_25 (pc' := 27) rfl ?_
      refine a_iload_n hX rfl rfl dX3_drift_27 (pc' := 28) rfl ?_
      refine a_iconst hX dX3_drift_28 (pc' := 29) rfl ?_
      refine a_icmp_ne hX (by have := pWind_rng hP d; omega) (by have := pWind_rng hP d; omega) dX3_drift_29 (pc' := 32) rfl (tgt := 36) (by decide) (fun c29 => ?_) (fun c29 => ?_)
      · refine a_iload_n hX rfl rfl dX3_drift_36 (pc' := 37) rfl ?_
        refine a_iconst hX dX3_drift_37 (pc' := 38) rfl ?_
        refine a_icmp_ne hX (by have := pWind_rng hP d; omega) (by have := pWind_rng hP d; omega) dX3_drift_38 (pc' := 41) rfl (tgt := 45) (by decide) (fun c38 => ?_) (fun c38 => ?_)
        · refine a_iconst hX dX3_drift_45 (pc' := 46) rfl ?_
          refine a_istore5 hX (by decide) rfl dX3_drift_46 (pc' := 48) rfl ?_
          refine a_iload hX rfl dX3_drift_48 (pc' := 50) rfl ?_
          refine a_iload hX rfl dX3_drift_50 (pc' := 52) rfl ?_
          refine a_imul hX dX3_drift_52 (pc' := 53) rfl ?_
          refine a_iret hX dX3_drift_53 (hE _ _ _ ?_)
          refine ⟨aLf ?_, rfl, rfl⟩
          unfold pDrift pWay pPace
          simp (config := { decide := true }) [*]
        · refine a_iconst hX dX3_drift_41 (pc' := 42) rfl ?_
          refine a_goto hX dX3_drift_42 (tgt := 46) (by decide) ?_
          refine a_istore5 hX (by decide) rfl dX3_drift_46 (pc' := 48) rfl ?_
          refine a_iload hX rfl dX3_drift_48 (pc' := 50) rfl ?_
          refine a_iload hX rfl dX3_drift_50 (pc' := 52) rfl ?_
          refine a_imul hX dX3_drift_52 (pc' := 53) rfl ?_
          refine a_iret hX dX3_drift_53 (hE _ _ _ ?_)
          refine ⟨aLf ?_, rfl, rfl⟩
          unfold pDrift pWay pPace
          simp (config := { decide := true }) [*]
      · refine a_iconst hX dX3_drift_32 (pc' := 33) rfl ?_
        refine a_goto hX dX3_drift_33 (tgt := 46) (by decide) ?_
        refine a_istore5 hX (by decide) rfl dX3_drift_46 (pc' := 48) rfl ?_
        refine a_iload hX rfl dX3_drift_48 (pc' := 50) rfl ?_
        refine a_iload hX rfl dX3_drift_50 (pc' := 52) rfl ?_
        refine a_imul hX dX3_drift_52 (pc' := 53) rfl ?_
        refine a_iret hX dX3_drift_53 (hE _ _ _ ?_)
        refine ⟨aLf ?_, rfl, rfl⟩
        unfold pDrift pWay pPace
        simp (config := { decide := true }) [*]
    · refine a_iconst hX dX3_drift_20 (pc' := 21) rfl ?_
      refine a_goto hX dX3_drift_21 (tgt := 25) (by decide) ?_
      refine a_istore4 hX (by decide) rfl dX3_drift_25 (pc' := 27) rfl ?_
      refine a_iload_n hX rfl rfl dX3_drift_27 (pc' := 28) rfl ?_
      refine a_iconst hX dX3_drift_28 (pc' := 29) rfl ?_
      refine a_icmp_ne hX (by have := pWind_rng hP d; omega) (by have := pWind_rng hP d; omega) dX3_drift_29 (pc' := 32) rfl (tgt := 36) (by decide) (fun c29 => ?_) (fun c29 => ?_)
      · refine a_iload_n hX rfl rfl dX3_drift_36 (pc' := 37) rfl ?_
        refine a_iconst hX dX3_drift_37 (pc' := 38) rfl ?_
        refine a_icmp_ne hX (by have := pWind_rng hP d; omega) (by have := pWind_rng hP d; omega) dX3_drift_38 (pc' := 41) rfl (tgt := 45) (by decide) (fun c38 => ?_) (fun c38 => ?_)
        · refine a_iconst hX dX3_drift_45 (pc' := 46) rfl ?_
          refine a_istore5 hX (by decide) rfl dX3_drift_46 (pc' := 48) rfl ?_
          refine a_iload hX rfl dX3_drift_48 (pc' := 50) rfl ?_
          refine a_iload hX rfl dX3_drift_50 (pc' := 52) rfl ?_
          refine a_imul hX dX3_drift_52 (pc' := 53) rfl ?_
          refine a_iret hX dX3_drift_53 (hE _ _ _ ?_)
          refine ⟨aLf ?_, rfl, rfl⟩
          unfold pDrift pWay pPace
          simp (config := { decide := true }) [*]
        · refine a_iconst hX dX3_drift_41 (pc' := 42) rfl ?_
          refine a_goto hX dX3_drift_42 (tgt := 46) (by decide) ?_
          refine a_istore5 hX (by decide) rfl dX3_drift_46 (pc' := 48) rfl ?_
          refine a_iload hX rfl dX3_drift_48 (pc' := 50) rfl ?_
          refine a_iload hX rfl dX3_drift_50 (pc' := 52) rfl ?_
          refine a_imul hX dX3_drift_52 (pc' := 53) rfl ?_
          refine a_iret hX dX3_drift_53 (hE _ _ _ ?_)
          refine ⟨aLf ?_, rfl, rfl⟩
          unfold pDrift pWay pPace
          simp (config := { decide := true }) [*]
      · refine a_iconst hX dX3_drift_32 (pc' := 33) rfl ?_
        refine a_goto hX dX3_drift_33 (tgt := 46) (by decide) ?_
        refine a_istore5 hX (by decide) rfl dX3_drift_46 (pc' := 48) rfl ?_
        refine a_iload hX rfl dX3_drift_48 (pc' := 50) rfl ?_
        refine a_iload hX rfl dX3_drift_50 (pc' := 52) rfl ?_
        refine a_imul hX dX3_drift_52 (pc' := 53) rfl ?_
        refine a_iret hX dX3_drift_53 (hE _ _ _ ?_)
        refine ⟨aLf ?_, rfl, rfl⟩
        unfold pDrift pWay pPace
        simp (config := { decide := true }) [*]
  · refine a_iconst hX dX3_drift_11 (pc' := 12) rfl ?_
    refine a_goto hX dX3_drift_12 (tgt := 25) (by decide) ?_
    refine a_istore4 hX (by decide) rfl dX3_drift_25 (pc' := 27) rfl ?_
    refine a_iload_n hX rfl rfl dX3_drift_27 (pc' := 28) rfl ?_
    refine a_iconst hX dX3_drift_28 (pc' := 29) rfl ?_
    refine a_icmp_ne hX (by have := pWind_rng hP d; omega) (by have := pWind_rng hP d; omega) dX3_drift_29 (pc' := 32) rfl (tgt := 36) (by decide) (fun c29 => ?_) (fun c29 => ?_)
    · refine a_iload_n hX rfl rfl dX3_drift_36 (pc' := 37) rfl ?_
      refine a_iconst hX dX3_drift_37 (pc' := 38) rfl ?_
      refine a_icmp_ne hX (by have := pWind_rng hP d; omega) (by have := pWind_rng hP d; omega) dX3_drift_38 (pc' := 41) rfl (tgt := 45) (by decide) (fun c38 => ?_) (fun c38 => ?_)
      · refine a_iconst hX dX3_drift_45 (pc' := 46) rfl ?_
        refine a_istore5 hX (by decide) rfl dX3_drift_46 (pc' := 48) rfl ?_
        refine a_iload hX rfl dX3_drift_48 (pc' := 50) rfl ?_
        refine a_iload hX rfl dX3_drift_50 (pc' := 52) rfl ?_
        refine a_imul hX dX3_drift_52 (pc' := 53) rfl ?_
        refine a_iret hX dX3_drift_53 (hE _ _ _ ?_)
        refine ⟨aLf ?_, rfl, rfl⟩
        unfold pDrift pWay pPace
        simp (config := { decide := true }) [*]
      · refine a_iconst hX dX3_drift_41 (pc' := 42) rfl ?_
        refine a_goto hX dX3_drift_42 (tgt := 46) (by decide) ?_
        refine a_istore5 hX (by decide) rfl dX3_drift_46 (pc' := 48) rfl ?_
        refine a_iload hX rfl dX3_drift_48 (pc' := 50) rfl ?_
        refine a_iload hX rfl dX3_drift_50 (pc' := 52) rfl ?_
        refine a_imul hX dX3_drift_52 (pc' := 53) rfl ?_
        refine a_iret hX dX3_drift_53 (hE _ _ _ ?_)
        refine ⟨aLf ?_, rfl, rfl⟩
        unfold pDrift pWay pPace
        simp (config := { decide := true }) [*]
    · refine a_iconst hX dX3_drift_32 (pc' := 33) rfl ?_
      refine a_goto hX dX3_drift_33 (tgt := 46) (by decide) ?_
      refine a_istore5 hX (by decide) rfl dX3_drift_46 (pc' := 48) rfl ?_
      refine a_iload hX rfl dX3_drift_48 (pc' := 50) rfl ?_
      refine a_iload hX rfl dX3_drift_50 (pc' := 52) rfl ?_
      refine a_imul hX dX3_drift_52 (pc' := 53) rfl ?_
      refine a_iret hX dX3_drift_53 (hE _ _ _ ?_)
      refine ⟨aLf ?_, rfl, rfl⟩
      unfold pDrift pWay pPace
      simp (config := { decide := true }) [*]

set_option maxHeartbeats 4000000 in
set_option maxRecDepth 100000 in
theorem c_carried {G : aG} {Z : aZ} {Y : aY} {k y d m : Int} (hk : 0 ≤ k ∧ k ≤ 3) (hy : 0 ≤ y ∧ y ≤ 5) (hd : 0 ≤ d ∧ d < 10000) (hm : 0 ≤ m ∧ m < 1000) (hB : aB Z) (hP : okP (vP Z)) : aSi G yX3_carried cX3_carried 7 (some .int) 2 46 [.ref (G.1 3), .int (aI k), .int (aI y), .int (aI d), .int (aI m)] Z Y (pCarry (vP Z) k y d m.toNat) := by
  refine aS.of (own := RX3) (by decide +kernel) rfl 2 (Nat.le_of_ble_eq_true rfl) (fun X hX hE => ?_)
  show AW X G 0 [some (.ref (G.1 3)), some (.int (aI k)), some (.int (aI y)), some (.int (aI d)), some (.int (aI m)), none, none] [] Z Y
  refine a_iload_n hX rfl rfl dX3_carried_0 (pc' := 1) rfl ?_
  refine a_istore5 hX (by decide) rfl dX3_carried_1 (pc' := 3) rfl ?_
  refine a_iconst hX dX3_carried_3 (pc' := 4) rfl ?_
  refine a_istore6 hX (by decide) rfl dX3_carried_4 (pc' := 6) rfl ?_
  have L6 : ∀ (n : Nat) (i : Int), (0 ≤ i ∧ i ≤ m) → (m - i).toNat < n → AW X G 6 [some (.ref (G.1 3)), some (.int (aI k)), some (.int (aI y)), some (.int (aI d)), some (.int (aI m)), some (.int (aI (pCarry (vP Z) k y d i.toNat))), some (.int (aI i))] [] Z Y := by
    intro n
    induction n with
    | zero =>
      intro i hi hn
      omega
    | succ n ih =>
      intro i hi hn
      have hr := pCarry_rng (P := vP Z) (k := k) (y := y) (d := d) hy i.toNat
      have hr2 := pDrift_rng (vP Z) k (d + i)
      refine a_iload hX rfl dX3_carried_6 (pc' := 8) rfl ?_
      refine a_iload hX rfl dX3_carried_8 (pc' := 10) rfl ?_
      refine a_icmp_ge hX (by omega) (by omega) dX3_carried_10 (pc' := 13) rfl (tgt := 36) (by decide) (fun c10 => ?_) (fun c10 => ?_)
      · refine a_iload hX rfl dX3_carried_36 (pc' := 38) rfl ?_
        refine a_iret hX dX3_carried_38 (hE _ _ _ ?_)
        refine ⟨aLf ?_, rfl, rfl⟩
        rw [show i = m by omega]
      · refine a_iload hX rfl dX3_carried_13 (pc' := 15) rfl ?_
        refine a_aload_n hX rfl rfl dX3_carried_15 (pc' := 16) rfl ?_
        refine a_iload_n hX rfl rfl dX3_carried_16 (pc' := 17) rfl ?_
        refine a_iload_n hX rfl rfl dX3_carried_17 (pc' := 18) rfl ?_
        refine a_iload hX rfl dX3_carried_18 (pc' := 20) rfl ?_
        refine a_iadd hX dX3_carried_20 (pc' := 21) rfl ?_
        refine a_cV2i hX cv_X3_77 (c_drift (by omega) (by omega) hB hP) rfl (by decide) ⟨by decide, by decide⟩ (Nat.le_of_ble_eq_true rfl) dX3_carried_21 (pc' := 24) rfl ?_
        refine a_iadd hX dX3_carried_24 (pc' := 25) rfl ?_
        refine a_cS1i hX cs_X3_80 (c_ring (by omega)) ⟨by decide, by decide⟩ (Nat.le_of_ble_eq_true rfl) dX3_carried_25 (pc' := 28) rfl ?_
        refine a_istore5 hX (by decide) rfl dX3_carried_28 (pc' := 30) rfl ?_
        refine a_iinc6 hX (by decide) rfl dX3_carried_30 (pc' := 33) rfl ?_
        refine a_goto hX dX3_carried_33 (tgt := 6) (by decide) ?_
        rw [show pCarry (vP Z) k y d i.toNat + pDrift (vP Z) k (d + i) = pCarry (vP Z) k y d i.toNat + pDrift (vP Z) k (d + (i.toNat : Int)) by rw [Int.toNat_of_nonneg hi.1]]
        have e6 : (pCarry (vP Z) k y d i.toNat + pDrift (vP Z) k (d + (i.toNat : Int))) % 6 = pCarry (vP Z) k y d (i + 1).toNat := by
          rw [show (i + 1).toNat = i.toNat + 1 by omega]
          rfl
        rw [e6]
        exact ih (i + 1) (by omega) (by omega)
  exact L6 ((m - 0).toNat + 1) 0 (by omega) (by omega)

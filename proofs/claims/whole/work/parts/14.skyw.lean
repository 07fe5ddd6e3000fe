set_option maxHeartbeats 4000000 in
set_option maxRecDepth 100000 in
theorem c_drop {G : aG} {Z : aZ} {Y : aY} {k : Nat} {c p : Int} (hc : 0 ≤ c ∧ c < Z 3 9) (hp : 0 ≤ p ∧ p < Z 3 10) (h1 : 1 ≤ sHas (vP Z) (vS Z k) c) (h2 : 1 ≤ sOwed (vP Z) (vS Z k) p) (hk : aSky k) (hB : aB Z) (hP : okP (vP Z)) (hS : okS (vP Z) (vS Z k)) (hd : Z k 6 ≤ 5000) : aSV G yX8_drop cX8_drop 3 none 1 21 [.ref (G.1 k), .int (aI c), .int (aI p)] Z Y (aSp Z Y k (dDrop (vP Z) (vS Z k) c p)) := by
  refine aS.of (own := RX8) (by decide +kernel) rfl 0 (Nat.le_of_ble_eq_true rfl) (fun X hX hE => ?_)
  show AW X G 0 [some (.ref (G.1 k)), some (.int (aI c)), some (.int (aI p))] [] Z Y
  obtain ⟨hk0, hk1, hk2, hk3, hkb, hka⟩ := aSky_sh hk
  have hfP := fP hP
  have hfS := fS hS
  refine a_aload_n hX rfl rfl dX8_drop_0 (pc' := 1) rfl ?_
  refine a_getfR hX (r := 3) fl_X8_9 hk0 (by omega) rfl dX8_drop_1 (pc' := 4) rfl ?_
  refine a_iload_n hX rfl rfl dX8_drop_4 (pc' := 5) rfl ?_
  refine a_cV1i hX cv_X8_72 (c_hasCloud (by omega) hB hP) rfl (by decide) ⟨by decide, by decide⟩ (Nat.le_of_ble_eq_true rfl) dX8_drop_5 (pc' := 8) rfl ?_
  refine a_ifb_eq hX dX8_drop_8 (pc' := 11) rfl (tgt := 22) (by decide) (fun c8 => ?_) (fun c8 => ?_)
  · exact absurd (pHasC_of hc) (by rw [c8]; decide)
  · refine a_aload_n hX rfl rfl dX8_drop_11 (pc' := 12) rfl ?_
    refine a_getfR hX (r := 3) fl_X8_9 hk0 (by omega) rfl dX8_drop_12 (pc' := 15) rfl ?_
    refine a_iload_n hX rfl rfl dX8_drop_15 (pc' := 16) rfl ?_
    refine a_cV1i hX cv_X8_49 (c_hasPaper (by omega) hB hP) rfl (by decide) ⟨by decide, by decide⟩ (Nat.le_of_ble_eq_true rfl) dX8_drop_16 (pc' := 19) rfl ?_
    refine a_ifb_ne hX dX8_drop_19 (pc' := 22) rfl (tgt := 23) (by decide) (fun c19 => ?_) (fun c19 => ?_)
    · refine a_aload_n hX rfl rfl dX8_drop_23 (pc' := 24) rfl ?_
      refine a_getfR hX (r := (k + 2)) fl_X8_19 hk0 (by omega) rfl dX8_drop_24 (pc' := 27) rfl ?_
      refine a_iload_n hX rfl rfl dX8_drop_27 (pc' := 28) rfl ?_
      refine a_dup2 hX rfl rfl dX8_drop_28 (pc' := 29) rfl ?_
      refine a_iald hX hk2 (by omega) (by decide) (by omega) hB dX8_drop_29 (pc' := 30) rfl (fun hb => ?_)
      refine a_aload_n hX rfl rfl dX8_drop_30 (pc' := 31) rfl ?_
      refine a_getfR hX (r := 3) fl_X8_9 hk0 (by omega) rfl dX8_drop_31 (pc' := 34) rfl ?_
      refine a_getfR hX (r := 7) fl_X8_75 rfl (by decide) rfl dX8_drop_34 (pc' := 37) rfl ?_
      refine a_iload_n hX rfl rfl dX8_drop_37 (pc' := 38) rfl ?_
      refine a_iald hX rfl (by decide) (by decide) (by omega) hB dX8_drop_38 (pc' := 39) rfl (fun hb => ?_)
      refine a_iconst hX dX8_drop_39 (pc' := 40) rfl ?_
      refine a_icmp_ne hX (by omega) (by omega) dX8_drop_40 (pc' := 43) rfl (tgt := 47) (by decide) (fun c40 => ?_) (fun c40 => ?_)
      · refine a_iconst hX dX8_drop_47 (pc' := 48) rfl ?_
        refine a_isub hX dX8_drop_48 (pc' := 49) rfl ?_
        have hz := fSf hS (c := c) (by omega)
        refine a_iastB hX hk2 (by omega) (by decide) (by omega) hB (by omega) dX8_drop_49 (pc' := 50) rfl (fun hB => ?_)
        refine a_aload_n hX rfl rfl dX8_drop_50 (pc' := 51) rfl ?_
        refine a_getfR hX (r := (k + 3)) fl_X8_22 hk0 (by omega) rfl dX8_drop_51 (pc' := 54) rfl ?_
        refine a_iload_n hX rfl rfl dX8_drop_54 (pc' := 55) rfl ?_
        refine a_dup2 hX rfl rfl dX8_drop_55 (pc' := 56) rfl ?_
        refine a_iald hX hk3 (by omega) (by decide) (by omega) hB dX8_drop_56 (pc' := 57) rfl (fun hb => ?_)
        refine a_iconst hX dX8_drop_57 (pc' := 58) rfl ?_
        refine a_iadd hX dX8_drop_58 (pc' := 59) rfl ?_
        have hz2 := fSi hS (p := p) (by omega)
        have hz3 := fPp hP p
        rw [aU_ne (show k + 3 ≠ k + 2 by omega)]
        refine a_iastB hX hk3 (by omega) (by decide) (by omega) hB (by omega) dX8_drop_59 (pc' := 60) rfl (fun hB => ?_)
        refine a_vret hX dX8_drop_60 (hE _ _ _ ?_)
        refine ⟨rfl, ?_, okS_drop hS (by omega) (by omega) h1 h2, (aOff.rf.u (by omega)).u (by omega), hB, rfl⟩
        rw [vS_u3 hka (by omega), vS_u2 hka (by omega)]
        funext j
        unfold dDrop
        rw [vP_k, vS_fi (p := p) (by omega), vS_fl (c := c) (by omega)]
        first | rw [if_pos (show Z 7 c = 1 from c40)] | rw [if_neg (show ¬ Z 7 c = 1 from c40)]
      · refine a_iconst hX dX8_drop_43 (pc' := 44) rfl ?_
        refine a_goto hX dX8_drop_44 (tgt := 48) (by decide) ?_
        refine a_isub hX dX8_drop_48 (pc' := 49) rfl ?_
        have hz := fSf hS (c := c) (by omega)
        refine a_iastB hX hk2 (by omega) (by decide) (by omega) hB (by omega) dX8_drop_49 (pc' := 50) rfl (fun hB => ?_)
        refine a_aload_n hX rfl rfl dX8_drop_50 (pc' := 51) rfl ?_
        refine a_getfR hX (r := (k + 3)) fl_X8_22 hk0 (by omega) rfl dX8_drop_51 (pc' := 54) rfl ?_
        refine a_iload_n hX rfl rfl dX8_drop_54 (pc' := 55) rfl ?_
        refine a_dup2 hX rfl rfl dX8_drop_55 (pc' := 56) rfl ?_
        refine a_iald hX hk3 (by omega) (by decide) (by omega) hB dX8_drop_56 (pc' := 57) rfl (fun hb => ?_)
        refine a_iconst hX dX8_drop_57 (pc' := 58) rfl ?_
        refine a_iadd hX dX8_drop_58 (pc' := 59) rfl ?_
        have hz2 := fSi hS (p := p) (by omega)
        have hz3 := fPp hP p
        rw [aU_ne (show k + 3 ≠ k + 2 by omega)]
        refine a_iastB hX hk3 (by omega) (by decide) (by omega) hB (by omega) dX8_drop_59 (pc' := 60) rfl (fun hB => ?_)
        refine a_vret hX dX8_drop_60 (hE _ _ _ ?_)
        refine ⟨rfl, ?_, okS_drop hS (by omega) (by omega) h1 h2, (aOff.rf.u (by omega)).u (by omega), hB, rfl⟩
        rw [vS_u3 hka (by omega), vS_u2 hka (by omega)]
        funext j
        unfold dDrop
        rw [vP_k, vS_fi (p := p) (by omega), vS_fl (c := c) (by omega)]
        first | rw [if_pos (show Z 7 c = 1 from c40)] | rw [if_neg (show ¬ Z 7 c = 1 from c40)]
    · exact absurd (pHasP_of hp) (by rw [c19]; decide)

set_option maxHeartbeats 4000000 in
set_option maxRecDepth 100000 in
theorem c_tryDrop {G : aG} {Z : aZ} {Y : aY} {k : Nat} {c p : Int} (hc : -2147483648 ≤ c ∧ c < 2147483648) (hp : -2147483648 ≤ p ∧ p < 2147483648) (hk : aSky k) (hB : aB Z) (hP : okP (vP Z)) (hS : okS (vP Z) (vS Z k)) (hd : Z k 6 ≤ 5000) : aSI G yX8_tryDrop cX8_tryDrop 3 (some .boolean) 4 87 [.ref (G.1 k), .int (aI c), .int (aI p)] Z Y (fun x Z' Y' => x = aTr (pHasC (vP Z) c && pHasP (vP Z) p && sCan (vP Z) (vS Z k) c p) ∧ aSp Z Y k (if (pHasC (vP Z) c && pHasP (vP Z) p && sCan (vP Z) (vS Z k) c p) = true then dDrop (vP Z) (vS Z k) c p else vS Z k) Z' Y') := by
  refine aS.of (own := RX8) (by decide +kernel) rfl 0 (Nat.le_of_ble_eq_true rfl) (fun X hX hE => ?_)
  show AW X G 0 [some (.ref (G.1 k)), some (.int (aI c)), some (.int (aI p))] [] Z Y
  obtain ⟨hk0, hk1, hk2, hk3, hkb, hka⟩ := aSky_sh hk
  have hfP := fP hP
  have hfS := fS hS
  refine a_aload_n hX rfl rfl dX8_tryDrop_0 (pc' := 1) rfl ?_
  refine a_iload_n hX rfl rfl dX8_tryDrop_1 (pc' := 2) rfl ?_
  refine a_iload_n hX rfl rfl dX8_tryDrop_2 (pc' := 3) rfl ?_
  refine a_cV2i hX cv_X8_94 (c_canDrop (by omega) (by omega) hk hB hP hS hd) hk0 (by omega) ⟨by decide, by decide⟩ (Nat.le_of_ble_eq_true rfl) dX8_tryDrop_3 (pc' := 6) rfl ?_
  refine a_ifb_ne hX dX8_tryDrop_6 (pc' := 9) rfl (tgt := 11) (by decide) (fun c6 => ?_) (fun c6 => ?_)
  · have q6 := c6
    rw [Bool.and_eq_true, Bool.and_eq_true] at q6
    have hc1 := pHasC_no q6.1.1
    have hp1 := pHasP_no q6.1.2
    have hcan := sCan_takes q6.2
    refine a_aload_n hX rfl rfl dX8_tryDrop_11 (pc' := 12) rfl ?_
    refine a_iload_n hX rfl rfl dX8_tryDrop_12 (pc' := 13) rfl ?_
    refine a_iload_n hX rfl rfl dX8_tryDrop_13 (pc' := 14) rfl ?_
    refine a_cV2V hX cv_X8_107 (c_drop (by omega) (by omega) hcan.1 hcan.2 hk hB hP hS hd) hk0 (by omega) ⟨by decide, by decide⟩ (Nat.le_of_ble_eq_true rfl) dX8_tryDrop_14 (pc' := 17) rfl (fun Z14 Y14 h14 => ?_)
    refine a_iconst hX dX8_tryDrop_17 (pc' := 18) rfl ?_
    refine a_zret hX (by omega) dX8_tryDrop_18 (hE _ _ _ ?_)
    exact ⟨_, rfl, (aTr_true c6).symm, by rw [if_pos c6]; exact h14⟩
  · refine a_iconst hX dX8_tryDrop_9 (pc' := 10) rfl ?_
    refine a_zret hX (by omega) dX8_tryDrop_10 (hE _ _ _ ?_)
    exact ⟨_, rfl, (aTr_false c6).symm, by rw [if_neg (by rw [c6]; decide)]; exact ⟨rfl, hS, aOff.rf, hB, rfl⟩⟩

set_option maxHeartbeats 4000000 in
set_option maxRecDepth 100000 in
theorem c_push {G : aG} {Z : aZ} {Y : aY} {k : Nat} {c : Int} {on : Bool} (hc : 0 ≤ c ∧ c < Z 3 9) (hk : aSky k) (hB : aB Z) (hP : okP (vP Z)) (hS : okS (vP Z) (vS Z k)) (hd : Z k 6 ≤ 5000) : aSV G yX8_push cX8_push 3 none 2 42 [.ref (G.1 k), .int (aI c), .int (aI (aTr on))] Z Y (aSp Z Y k (dPush (vS Z k) c on)) := by
  refine aS.of (own := RX8) (by decide +kernel) rfl 0 (Nat.le_of_ble_eq_true rfl) (fun X hX hE => ?_)
  show AW X G 0 [some (.ref (G.1 k)), some (.int (aI c)), some (.int (aI (aTr on)))] [] Z Y
  obtain ⟨hk0, hk1, hk2, hk3, hkb, hka⟩ := aSky_sh hk
  have hfP := fP hP
  have hfS := fS hS
  refine a_aload_n hX rfl rfl dX8_push_0 (pc' := 1) rfl ?_
  refine a_getfR hX (r := 3) fl_X8_9 hk0 (by omega) rfl dX8_push_1 (pc' := 4) rfl ?_
  refine a_iload_n hX rfl rfl dX8_push_4 (pc' := 5) rfl ?_
  refine a_cV1i hX cv_X8_72 (c_hasCloud (by omega) hB hP) rfl (by decide) ⟨by decide, by decide⟩ (Nat.le_of_ble_eq_true rfl) dX8_push_5 (pc' := 8) rfl ?_
  refine a_ifb_eq hX dX8_push_8 (pc' := 11) rfl (tgt := 36) (by decide) (fun c8 => ?_) (fun c8 => ?_)
  · exact absurd (pHasC_of hc) (by rw [c8]; decide)
  · refine a_aload_n hX rfl rfl dX8_push_11 (pc' := 12) rfl ?_
    refine a_getfR hX (r := (k + 1)) fl_X8_15 hk0 (by omega) rfl dX8_push_12 (pc' := 15) rfl ?_
    refine a_iload_n hX rfl rfl dX8_push_15 (pc' := 16) rfl ?_
    refine a_aload_n hX rfl rfl dX8_push_16 (pc' := 17) rfl ?_
    refine a_getfR hX (r := (k + 1)) fl_X8_15 hk0 (by omega) rfl dX8_push_17 (pc' := 20) rfl ?_
    refine a_iload_n hX rfl rfl dX8_push_20 (pc' := 21) rfl ?_
    refine a_iald hX hk1 (by omega) (by decide) (by omega) hB dX8_push_21 (pc' := 22) rfl (fun hb => ?_)
    refine a_iload_n hX rfl rfl dX8_push_22 (pc' := 23) rfl ?_
    refine a_ifb_eq hX dX8_push_23 (pc' := 26) rfl (tgt := 30) (by decide) (fun c23 => ?_) (fun c23 => ?_)
    · refine a_iconst hX dX8_push_30 (pc' := 31) rfl ?_
      refine a_iadd hX dX8_push_31 (pc' := 32) rfl ?_
      have hz := fSy hS (c := c) (by omega)
      refine a_cS1i hX cs_X8_102 (c_ring (by omega)) ⟨by decide, by decide⟩ (Nat.le_of_ble_eq_true rfl) dX8_push_32 (pc' := 35) rfl ?_
      have g1 := Int.emod_nonneg (Z (k + 1) c + 1) (show (6 : Int) ≠ 0 by omega)
      have g2 := Int.emod_lt_of_pos (Z (k + 1) c + 1) (show (0 : Int) < 6 by omega)
      have g3 := Int.emod_nonneg (Z (k + 1) c + -1) (show (6 : Int) ≠ 0 by omega)
      have g4 := Int.emod_lt_of_pos (Z (k + 1) c + -1) (show (0 : Int) < 6 by omega)
      refine a_iastB hX hk1 (by omega) (by decide) (by omega) hB (by omega) dX8_push_35 (pc' := 36) rfl (fun hB => ?_)
      refine a_vret hX dX8_push_36 (hE _ _ _ ?_)
      refine ⟨rfl, ?_, okS_push hS (by omega), aOff.rf.u (by omega), hB, rfl⟩
      rw [vS_u1 hka (by omega)]
      funext j
      unfold dPush
      rw [vS_yd (c := c) (by omega)]
      first | rw [if_pos (show on = true from c23)] | rw [if_neg (show ¬ on = true by rw [c23]; decide)]
    · refine a_iconst hX dX8_push_26 (pc' := 27) rfl ?_
      refine a_goto hX dX8_push_27 (tgt := 31) (by decide) ?_
      refine a_iadd hX dX8_push_31 (pc' := 32) rfl ?_
      have hz := fSy hS (c := c) (by omega)
      refine a_cS1i hX cs_X8_102 (c_ring (by omega)) ⟨by decide, by decide⟩ (Nat.le_of_ble_eq_true rfl) dX8_push_32 (pc' := 35) rfl ?_
      have g1 := Int.emod_nonneg (Z (k + 1) c + 1) (show (6 : Int) ≠ 0 by omega)
      have g2 := Int.emod_lt_of_pos (Z (k + 1) c + 1) (show (0 : Int) < 6 by omega)
      have g3 := Int.emod_nonneg (Z (k + 1) c + -1) (show (6 : Int) ≠ 0 by omega)
      have g4 := Int.emod_lt_of_pos (Z (k + 1) c + -1) (show (0 : Int) < 6 by omega)
      refine a_iastB hX hk1 (by omega) (by decide) (by omega) hB (by omega) dX8_push_35 (pc' := 36) rfl (fun hB => ?_)
      refine a_vret hX dX8_push_36 (hE _ _ _ ?_)
      refine ⟨rfl, ?_, okS_push hS (by omega), aOff.rf.u (by omega), hB, rfl⟩
      rw [vS_u1 hka (by omega)]
      funext j
      unfold dPush
      rw [vS_yd (c := c) (by omega)]
      first | rw [if_pos (show on = true from c23)] | rw [if_neg (show ¬ on = true by rw [c23]; decide)]

set_option maxHeartbeats 4000000 in
set_option maxRecDepth 100000 in
theorem c_rip {G : aG} {Z : aZ} {Y : aY} {k : Nat} {p : Int} (hp : 0 ≤ p ∧ p < Z 3 10) (hk : aSky k) (hB : aB Z) (hP : okP (vP Z)) (hS : okS (vP Z) (vS Z k)) (hd : Z k 6 ≤ 5000) : aSV G yX8_rip cX8_rip 2 none 1 21 [.ref (G.1 k), .int (aI p)] Z Y (aSp Z Y k (dRip (vS Z k) p)) := by
  refine aS.of (own := RX8) (by decide +kernel) rfl 0 (Nat.le_of_ble_eq_true rfl) (fun X hX hE => ?_)
  show AW X G 0 [some (.ref (G.1 k)), some (.int (aI p))] [] Z Y
  obtain ⟨hk0, hk1, hk2, hk3, hkb, hka⟩ := aSky_sh hk
  have hfP := fP hP
  have hfS := fS hS
  refine a_aload_n hX rfl rfl dX8_rip_0 (pc' := 1) rfl ?_
  refine a_getfR hX (r := 3) fl_X8_9 hk0 (by omega) rfl dX8_rip_1 (pc' := 4) rfl ?_
  refine a_iload_n hX rfl rfl dX8_rip_4 (pc' := 5) rfl ?_
  refine a_cV1i hX cv_X8_49 (c_hasPaper (by omega) hB hP) rfl (by decide) ⟨by decide, by decide⟩ (Nat.le_of_ble_eq_true rfl) dX8_rip_5 (pc' := 8) rfl ?_
  refine a_ifb_eq hX dX8_rip_8 (pc' := 11) rfl (tgt := 30) (by decide) (fun c8 => ?_) (fun c8 => ?_)
  · exact absurd (pHasP_of hp) (by rw [c8]; decide)
  · refine a_aload_n hX rfl rfl dX8_rip_11 (pc' := 12) rfl ?_
    refine a_dup hX rfl dX8_rip_12 (pc' := 13) rfl ?_
    refine a_getfI hX (ji := 4) rfl hB fl_X8_25 hk0 (by omega) rfl dX8_rip_13 (pc' := 16) rfl (fun hb => ?_)
    refine a_iconst hX dX8_rip_16 (pc' := 17) rfl ?_
    refine a_iload_n hX rfl rfl dX8_rip_17 (pc' := 18) rfl ?_
    have hw := aPow2 (p := p) (by omega)
    refine a_ishl hX (by omega) (by omega) (by omega) dX8_rip_18 (pc' := 19) rfl ?_
    refine a_ior hX (by omega) (by omega) dX8_rip_19 (pc' := 20) rfl ?_
    have g := aOr_rng (x := Z k 4) (y := 1 * 2 ^ p.toNat) (n := 5) (by omega) (by omega)
    refine a_putfIB hX fl_X8_25 nf_7_4 (ji := 4) rfl hk0 (by omega) rfl hB (by omega) dX8_rip_20 (pc' := 23) rfl (fun hB => ?_)
    refine a_aload_n hX rfl rfl dX8_rip_23 (pc' := 24) rfl ?_
    refine a_getfR hX (r := (k + 3)) fl_X8_22 hk0 (by omega) rfl dX8_rip_24 (pc' := 27) rfl ?_
    refine a_iload_n hX rfl rfl dX8_rip_27 (pc' := 28) rfl ?_
    refine a_iconst hX dX8_rip_28 (pc' := 29) rfl ?_
    refine a_iastB hX hk3 (by omega) (by decide) (by omega) hB (by omega) dX8_rip_29 (pc' := 30) rfl (fun hB => ?_)
    refine a_vret hX dX8_rip_30 (hE _ _ _ ?_)
    refine ⟨rfl, ?_, okS_rip hP hS (by omega), (aOff.rf.u (by omega)).u (by omega), hB, rfl⟩
    rw [vS_u3 hka (by omega), vS_uo hka (by omega)]
    funext j
    unfold dRip
    rw [vS_13, aTwo]
    rfl

set_option maxHeartbeats 4000000 in
set_option maxRecDepth 100000 in
theorem c_goDay {G : aG} {Z : aZ} {Y : aY} {k : Nat}  (hk : aSky k) (hB : aB Z) (hP : okP (vP Z)) (hS : okS (vP Z) (vS Z k)) (hd : Z k 6 ≤ 5000) : aSI G yX8_goDay cX8_goDay 3 (some .int) 3 65 [.ref (G.1 k)] Z Y (fun x Z' Y' => x = sMore (vP Z) (vS Z k) ∧ aSp Z Y k (dDay (vP Z) (vS Z k)) Z' Y') := by
  refine aS.of (own := RX8) (by decide +kernel) rfl 2 (Nat.le_of_ble_eq_true rfl) (fun X hX hE => ?_)
  show AW X G 0 [some (.ref (G.1 k)), none, none] [] Z Y
  obtain ⟨hk0, hk1, hk2, hk3, hkb, hka⟩ := aSky_sh hk
  have hfP := fP hP
  have hfS := fS hS
  refine a_aload_n hX rfl rfl dX8_goDay_0 (pc' := 1) rfl ?_
  refine a_aload_n hX rfl rfl dX8_goDay_1 (pc' := 2) rfl ?_
  refine a_getfI hX (ji := 6) rfl hB fl_X8_32 hk0 (by omega) rfl dX8_goDay_2 (pc' := 5) rfl (fun hb => ?_)
  refine a_iconst hX dX8_goDay_5 (pc' := 6) rfl ?_
  refine a_iadd hX dX8_goDay_6 (pc' := 7) rfl ?_
  refine a_cV1i hX cv_X8_111 (c_umbrellasBy (by omega) hk hB hP hS hd) hk0 (by omega) ⟨by decide, by decide⟩ (Nat.le_of_ble_eq_true rfl) dX8_goDay_7 (pc' := 10) rfl ?_
  refine a_aload_n hX rfl rfl dX8_goDay_10 (pc' := 11) rfl ?_
  refine a_getfI hX (ji := 5) rfl hB fl_X8_29 hk0 (by omega) rfl dX8_goDay_11 (pc' := 14) rfl (fun hb => ?_)
  refine a_isub hX dX8_goDay_14 (pc' := 15) rfl ?_
  refine a_istore1 hX rfl (by decide) rfl dX8_goDay_15 (pc' := 16) rfl ?_
  refine a_iconst hX dX8_goDay_16 (pc' := 17) rfl ?_
  refine a_istore2 hX rfl (by decide) rfl dX8_goDay_17 (pc' := 18) rfl ?_
  have L18 : ∀ (n : Nat) (i : Int) (Z1 : aZ), (0 ≤ i ∧ i ≤ Z 3 9) → aB Z1 → (∀ a : Nat, a ≠ k + 1 → Z1 a = Z a) → (∀ b : Int, Z1 (k + 1) b = if 0 ≤ b ∧ b < i then (Z (k + 1) b + pDrift (vP Z) (Z 7 b) (Z k 6)) % 6 else Z (k + 1) b) → (Z 3 9 - i).toNat < n → AW X G 18 [some (.ref (G.1 k)), some (.int (aI (sMore (vP Z) (vS Z k)))), some (.int (aI i))] [] Z1 Y := by
    intro n
    induction n with
    | zero =>
      intro i Z1 hi hB hz hy hn
      omega
    | succ n ih =>
      intro i Z1 hi hB hz hy hn
      have hvP : vP Z1 = vP Z := vP_eq (fun a ha => hz a (by omega))
      have hP1 : okP (vP Z1) := by rw [hvP]; exact hP
      have e39 : Z1 3 9 = Z 3 9 := by rw [hz 3 (by omega)]
      have ek6 : Z1 k 6 = Z k 6 := by rw [hz k (by omega)]
      have ek5 : Z1 k 5 = Z k 5 := by rw [hz k (by omega)]
      have e7 : Z1 7 i = Z 7 i := by rw [hz 7 (by omega)]
      have ey : Z1 (k + 1) i = Z (k + 1) i := by rw [hy, if_neg (by omega)]
      have hmr := sMore_rng hP hS
      refine a_iload_n hX rfl rfl dX8_goDay_18 (pc' := 19) rfl ?_
      refine a_aload_n hX rfl rfl dX8_goDay_19 (pc' := 20) rfl ?_
      refine a_getfR hX (r := 3) fl_X8_9 hk0 (by omega) rfl dX8_goDay_20 (pc' := 23) rfl ?_
      refine a_getfI hX (ji := 9) rfl hB fl_X8_114 rfl (by decide) rfl dX8_goDay_23 (pc' := 26) rfl (fun hb => ?_)
      refine a_icmp_ge hX (by omega) (by omega) dX8_goDay_26 (pc' := 29) rfl (tgt := 71) (by decide) (fun c26 => ?_) (fun c26 => ?_)
      · refine a_aload_n hX rfl rfl dX8_goDay_71 (pc' := 72) rfl ?_
        refine a_dup hX rfl dX8_goDay_72 (pc' := 73) rfl ?_
        refine a_getfI hX (ji := 5) rfl hB fl_X8_29 hk0 (by omega) rfl dX8_goDay_73 (pc' := 76) rfl (fun hb => ?_)
        refine a_iload_n hX rfl rfl dX8_goDay_76 (pc' := 77) rfl ?_
        refine a_iadd hX dX8_goDay_77 (pc' := 78) rfl ?_
        refine a_putfIB hX fl_X8_29 nf_7_5 (ji := 5) rfl hk0 (by omega) rfl hB (by omega) dX8_goDay_78 (pc' := 81) rfl (fun hB => ?_)
        refine a_aload_n hX rfl rfl dX8_goDay_81 (pc' := 82) rfl ?_
        refine a_dup hX rfl dX8_goDay_82 (pc' := 83) rfl ?_
        refine a_getfI hX (ji := 6) rfl hB fl_X8_32 hk0 (by omega) rfl dX8_goDay_83 (pc' := 86) rfl (fun hb => ?_)
        refine a_iconst hX dX8_goDay_86 (pc' := 87) rfl ?_
        refine a_iadd hX dX8_goDay_87 (pc' := 88) rfl ?_
        rw [aU_nj (show (6 : Int) ≠ 5 by decide), ek6]
        refine a_putfIB hX fl_X8_32 nf_7_6 (ji := 6) rfl hk0 (by omega) rfl hB (by omega) dX8_goDay_88 (pc' := 91) rfl (fun hB => ?_)
        refine a_iload_n hX rfl rfl dX8_goDay_91 (pc' := 92) rfl ?_
        refine a_iret hX dX8_goDay_92 (hE _ _ _ ?_)
        refine ⟨_, rfl, rfl, ?_, okS_day hP hS, ?_, hB, rfl⟩
        · rw [vS_uo hka (by omega), vS_uo hka (by omega), vS_day hka (by omega) hz (f := fun b => (Z (k + 1) b + pDrift (vP Z) (Z 7 b) (Z k 6)) % 6) (fun b => by rw [hy b, show i = Z 3 9 by omega])]
          funext j
          unfold dDay
          rw [vP_1, vS_15, vS_14, ek5]
          try dsimp only
          by_cases h15 : j = 15
          · subst h15; rfl
          by_cases h14 : j = 14
          · subst h14; rfl
          rw [if_neg h15, if_neg h14]
          rw [if_neg (show ¬ j = 9 + 6 by omega), if_neg (show ¬ j = 9 + 5 by omega)]
          by_cases hj : 0 ≤ j ∧ j < Z 3 9
          · rw [if_pos hj, if_pos hj, vS_yd (c := j) (by omega)]
            rfl
          · rw [if_neg hj, if_neg hj]
        · exact ((show aOff Z Z1 k from fun a ha => hz a (by omega)).u (by omega)).u (by omega)
      · refine a_aload_n hX rfl rfl dX8_goDay_29 (pc' := 30) rfl ?_
        refine a_getfR hX (r := (k + 1)) fl_X8_15 hk0 (by omega) rfl dX8_goDay_30 (pc' := 33) rfl ?_
        refine a_iload_n hX rfl rfl dX8_goDay_33 (pc' := 34) rfl ?_
        refine a_aload_n hX rfl rfl dX8_goDay_34 (pc' := 35) rfl ?_
        refine a_getfR hX (r := (k + 1)) fl_X8_15 hk0 (by omega) rfl dX8_goDay_35 (pc' := 38) rfl ?_
        refine a_iload_n hX rfl rfl dX8_goDay_38 (pc' := 39) rfl ?_
        refine a_iald hX hk1 (by omega) (by decide) (by omega) hB dX8_goDay_39 (pc' := 40) rfl (fun hb => ?_)
        refine a_aload_n hX rfl rfl dX8_goDay_40 (pc' := 41) rfl ?_
        refine a_getfR hX (r := 3) fl_X8_9 hk0 (by omega) rfl dX8_goDay_41 (pc' := 44) rfl ?_
        refine a_aload_n hX rfl rfl dX8_goDay_44 (pc' := 45) rfl ?_
        refine a_getfR hX (r := 3) fl_X8_9 hk0 (by omega) rfl dX8_goDay_45 (pc' := 48) rfl ?_
        refine a_getfR hX (r := 7) fl_X8_75 rfl (by decide) rfl dX8_goDay_48 (pc' := 51) rfl ?_
        refine a_iload_n hX rfl rfl dX8_goDay_51 (pc' := 52) rfl ?_
        refine a_iald hX rfl (by decide) (by decide) (by omega) hB dX8_goDay_52 (pc' := 53) rfl (fun hb => ?_)
        refine a_aload_n hX rfl rfl dX8_goDay_53 (pc' := 54) rfl ?_
        refine a_getfI hX (ji := 6) rfl hB fl_X8_32 hk0 (by omega) rfl dX8_goDay_54 (pc' := 57) rfl (fun hb => ?_)
        refine a_cV2i hX cv_X8_98 (c_drift (by have := fPk hP i; omega) (by omega) hB hP1) rfl (by decide) ⟨by decide, by decide⟩ (Nat.le_of_ble_eq_true rfl) dX8_goDay_57 (pc' := 60) rfl ?_
        refine a_iadd hX dX8_goDay_60 (pc' := 61) rfl ?_
        have hdr := pDrift_rng (vP Z1) (Z1 7 i) (Z1 k 6)
        have hyy := fSy hS (c := i) (by omega)
        refine a_cS1i hX cs_X8_102 (c_ring (by omega)) ⟨by decide, by decide⟩ (Nat.le_of_ble_eq_true rfl) dX8_goDay_61 (pc' := 64) rfl ?_
        have g1 := Int.emod_nonneg (Z1 (k + 1) i + pDrift (vP Z1) (Z1 7 i) (Z1 k 6)) (show (6 : Int) ≠ 0 by omega)
        have g2 := Int.emod_lt_of_pos (Z1 (k + 1) i + pDrift (vP Z1) (Z1 7 i) (Z1 k 6)) (show (0 : Int) < 6 by omega)
        refine a_iastB hX hk1 (by omega) (by decide) (by omega) hB (by omega) dX8_goDay_64 (pc' := 65) rfl (fun hB => ?_)
        refine a_iinc2 hX (by decide) rfl dX8_goDay_65 (pc' := 68) rfl ?_
        refine a_goto hX dX8_goDay_68 (tgt := 18) (by decide) ?_
        refine ih (i + 1) _ (by omega) hB (fun a ha => by rw [aU_row ha]; exact hz a ha) (fun b => ?_) (by omega)
        rw [aU_at]
        by_cases hbi : b = i
        · subst hbi
          rw [if_pos rfl, if_pos (by omega), ey, hvP, e7, ek6]
        · rw [if_neg hbi, hy b]
          by_cases hbl : 0 ≤ b ∧ b < i
          · rw [if_pos hbl, if_pos (by omega)]
          · rw [if_neg hbl, if_neg (by omega)]
  rw [show sUmb (vP Z) (vS Z k) (Z k 6 + 1) - Z k 5 = sMore (vP Z) (vS Z k) by unfold sMore; rw [vS_14, vS_15]]
  exact L18 ((Z 3 9 - 0).toNat + 1) 0 Z (by omega) hB (fun _ _ => rfl) (fun b => (if_neg (by omega)).symm) (by omega)

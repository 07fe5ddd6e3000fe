set_option maxHeartbeats 4000000 in
set_option maxRecDepth 100000 in
theorem c_isTorn {G : aG} {Z : aZ} {Y : aY} {k : Nat} {p : Int} (hp : 0 ≤ p ∧ p < 5) (hk : aSky k) (hB : aB Z) (hP : okP (vP Z)) (hS : okS (vP Z) (vS Z k)) (hd : Z k 6 ≤ 5000) : aSi G yX8_isTorn cX8_isTorn 2 (some .boolean) 0 0 [.ref (G.1 k), .int (aI p)] Z Y (aTr (sTorn (vS Z k) p)) := by
  refine aS.of (own := RX8) (by decide +kernel) rfl 0 (Nat.le_of_ble_eq_true rfl) (fun X hX hE => ?_)
  show AW X G 0 [some (.ref (G.1 k)), some (.int (aI p))] [] Z Y
  obtain ⟨hk0, hk1, hk2, hk3, hkb, hka⟩ := aSky_sh hk
  have hfP := fP hP
  have hfS := fS hS
  refine a_aload_n hX rfl rfl dX8_isTorn_0 (pc' := 1) rfl ?_
  refine a_getfI hX (ji := 4) rfl hB fl_X8_25 hk0 (by omega) rfl dX8_isTorn_1 (pc' := 4) rfl (fun hb => ?_)
  refine a_iload_n hX rfl rfl dX8_isTorn_4 (pc' := 5) rfl ?_
  have hq := Int.ediv_nonneg (a := Z k 4) (b := 2 ^ p.toNat) (by omega) (Int.le_of_lt (aPow_pos _))
  refine a_ishr hX (by omega) (by omega) dX8_isTorn_5 (pc' := 6) rfl ?_
  refine a_iconst hX dX8_isTorn_6 (pc' := 7) rfl ?_
  refine a_iand hX (by omega) (by omega) dX8_isTorn_7 (pc' := 8) rfl ?_
  rw [aAnd_1 _ hq]
  refine a_if_eq hX (by omega) dX8_isTorn_8 (pc' := 11) rfl (tgt := 15) (by decide) (fun c8 => ?_) (fun c8 => ?_)
  · refine a_iconst hX dX8_isTorn_15 (pc' := 16) rfl ?_
    refine a_zret hX (by omega) dX8_isTorn_16 (hE _ _ _ ?_)
    refine ⟨aLf ?_, rfl, rfl⟩
    unfold sTorn aBit
    rw [vS_13]
    first | exact (aTr_pos (by omega)).symm | exact (aTr_neg (by omega)).symm
  · refine a_iconst hX dX8_isTorn_11 (pc' := 12) rfl ?_
    refine a_goto hX dX8_isTorn_12 (tgt := 16) (by decide) ?_
    refine a_zret hX (by omega) dX8_isTorn_16 (hE _ _ _ ?_)
    refine ⟨aLf ?_, rfl, rfl⟩
    unfold sTorn aBit
    rw [vS_13]
    first | exact (aTr_pos (by omega)).symm | exact (aTr_neg (by omega)).symm

set_option maxHeartbeats 4000000 in
set_option maxRecDepth 100000 in
theorem c_owed {G : aG} {Z : aZ} {Y : aY} {k : Nat} {p : Int} (hp : 0 ≤ p ∧ p < Z 3 10) (hk : aSky k) (hB : aB Z) (hP : okP (vP Z)) (hS : okS (vP Z) (vS Z k)) (hd : Z k 6 ≤ 5000) : aSi G yX8_owed cX8_owed 2 (some .int) 1 21 [.ref (G.1 k), .int (aI p)] Z Y (sOwed (vP Z) (vS Z k) p) := by
  refine aS.of (own := RX8) (by decide +kernel) rfl 0 (Nat.le_of_ble_eq_true rfl) (fun X hX hE => ?_)
  show AW X G 0 [some (.ref (G.1 k)), some (.int (aI p))] [] Z Y
  obtain ⟨hk0, hk1, hk2, hk3, hkb, hka⟩ := aSky_sh hk
  have hfP := fP hP
  have hfS := fS hS
  refine a_aload_n hX rfl rfl dX8_owed_0 (pc' := 1) rfl ?_
  refine a_getfR hX (r := 3) fl_X8_9 hk0 (by omega) rfl dX8_owed_1 (pc' := 4) rfl ?_
  refine a_iload_n hX rfl rfl dX8_owed_4 (pc' := 5) rfl ?_
  refine a_cV1i hX cv_X8_49 (c_hasPaper (by omega) hB hP) rfl (by decide) ⟨by decide, by decide⟩ (Nat.le_of_ble_eq_true rfl) dX8_owed_5 (pc' := 8) rfl ?_
  refine a_ifb_eq hX dX8_owed_8 (pc' := 11) rfl (tgt := 35) (by decide) (fun c8 => ?_) (fun c8 => ?_)
  · exact absurd (pHasP_of hp) (by rw [c8]; decide)
  · refine a_aload_n hX rfl rfl dX8_owed_11 (pc' := 12) rfl ?_
    refine a_iload_n hX rfl rfl dX8_owed_12 (pc' := 13) rfl ?_
    refine a_cV1i hX cv_X8_53 (c_isTorn (by omega) hk hB hP hS hd) hk0 (by omega) ⟨by decide, by decide⟩ (Nat.le_of_ble_eq_true rfl) dX8_owed_13 (pc' := 16) rfl ?_
    refine a_ifb_ne hX dX8_owed_16 (pc' := 19) rfl (tgt := 35) (by decide) (fun c16 => ?_) (fun c16 => ?_)
    · refine a_iconst hX dX8_owed_35 (pc' := 36) rfl ?_
      refine a_iret hX dX8_owed_36 (hE _ _ _ ?_)
      refine ⟨aLf ?_, rfl, rfl⟩
      unfold sOwed
      rw [vP_d, vS_15, if_pos (by first | exact Or.inl c16 | exact Or.inr (by omega))]
    · refine a_aload_n hX rfl rfl dX8_owed_19 (pc' := 20) rfl ?_
      refine a_getfR hX (r := 3) fl_X8_9 hk0 (by omega) rfl dX8_owed_20 (pc' := 23) rfl ?_
      refine a_getfR hX (r := 9) fl_X8_56 rfl (by decide) rfl dX8_owed_23 (pc' := 26) rfl ?_
      refine a_iload_n hX rfl rfl dX8_owed_26 (pc' := 27) rfl ?_
      refine a_iald hX rfl (by decide) (by decide) (by omega) hB dX8_owed_27 (pc' := 28) rfl (fun hb => ?_)
      refine a_aload_n hX rfl rfl dX8_owed_28 (pc' := 29) rfl ?_
      refine a_getfI hX (ji := 6) rfl hB fl_X8_32 hk0 (by omega) rfl dX8_owed_29 (pc' := 32) rfl (fun hb => ?_)
      refine a_icmp_ge hX (by omega) (by omega) dX8_owed_32 (pc' := 35) rfl (tgt := 37) (by decide) (fun c32 => ?_) (fun c32 => ?_)
      · refine a_aload_n hX rfl rfl dX8_owed_37 (pc' := 38) rfl ?_
        refine a_getfR hX (r := 3) fl_X8_9 hk0 (by omega) rfl dX8_owed_38 (pc' := 41) rfl ?_
        refine a_getfR hX (r := 11) fl_X8_59 rfl (by decide) rfl dX8_owed_41 (pc' := 44) rfl ?_
        refine a_iload_n hX rfl rfl dX8_owed_44 (pc' := 45) rfl ?_
        refine a_iald hX rfl (by decide) (by decide) (by omega) hB dX8_owed_45 (pc' := 46) rfl (fun hb => ?_)
        refine a_aload_n hX rfl rfl dX8_owed_46 (pc' := 47) rfl ?_
        refine a_getfR hX (r := (k + 3)) fl_X8_22 hk0 (by omega) rfl dX8_owed_47 (pc' := 50) rfl ?_
        refine a_iload_n hX rfl rfl dX8_owed_50 (pc' := 51) rfl ?_
        refine a_iald hX hk3 (by omega) (by decide) (by omega) hB dX8_owed_51 (pc' := 52) rfl (fun hb => ?_)
        refine a_isub hX dX8_owed_52 (pc' := 53) rfl ?_
        refine a_iret hX dX8_owed_53 (hE _ _ _ ?_)
        refine ⟨aLf ?_, rfl, rfl⟩
        unfold sOwed
        rw [vP_d, vS_15, if_neg (by rw [c16]; exact fun q => q.elim (fun q => absurd q (by decide)) (fun q => by omega)), vP_p, vS_fi (by omega)]
      · refine a_iconst hX dX8_owed_35 (pc' := 36) rfl ?_
        refine a_iret hX dX8_owed_36 (hE _ _ _ ?_)
        refine ⟨aLf ?_, rfl, rfl⟩
        unfold sOwed
        rw [vP_d, vS_15, if_pos (by first | exact Or.inl c16 | exact Or.inr (by omega))]

set_option maxHeartbeats 4000000 in
set_option maxRecDepth 100000 in
theorem c_owedBy {G : aG} {Z : aZ} {Y : aY} {k : Nat} {m : Int} (hm : 0 ≤ m ∧ m < 32) (hk : aSky k) (hB : aB Z) (hP : okP (vP Z)) (hS : okS (vP Z) (vS Z k)) (hd : Z k 6 ≤ 5000) : aSi G yX8_owedBy cX8_owedBy 4 (some .int) 2 42 [.ref (G.1 k), .int (aI m)] Z Y (sOwedBy (vP Z) (vS Z k) m) := by
  refine aS.of (own := RX8) (by decide +kernel) rfl 2 (Nat.le_of_ble_eq_true rfl) (fun X hX hE => ?_)
  show AW X G 0 [some (.ref (G.1 k)), some (.int (aI m)), none, none] [] Z Y
  obtain ⟨hk0, hk1, hk2, hk3, hkb, hka⟩ := aSky_sh hk
  have hfP := fP hP
  have hfS := fS hS
  refine a_iconst hX dX8_owedBy_0 (pc' := 1) rfl ?_
  refine a_istore2 hX rfl (by decide) rfl dX8_owedBy_1 (pc' := 2) rfl ?_
  refine a_iconst hX dX8_owedBy_2 (pc' := 3) rfl ?_
  refine a_istore3 hX rfl (by decide) rfl dX8_owedBy_3 (pc' := 4) rfl ?_
  have L4 : ∀ (n : Nat) (i : Int), (0 ≤ i ∧ i ≤ Z 3 10) → (Z 3 10 - i).toNat < n → AW X G 4 [some (.ref (G.1 k)), some (.int (aI m)), some (.int (aI (aSum (fun p => if aBit m p = true then sOwed (vP Z) (vS Z k) p else 0) i.toNat))), some (.int (aI i))] [] Z Y := by
    intro n
    induction n with
    | zero =>
      intro i hi hn
      omega
    | succ n ih =>
      intro i hi hn
      have hq := Int.ediv_nonneg (a := m) (b := 2 ^ i.toNat) (by omega) (Int.le_of_lt (aPow_pos _))
      refine a_iload_n hX rfl rfl dX8_owedBy_4 (pc' := 5) rfl ?_
      refine a_aload_n hX rfl rfl dX8_owedBy_5 (pc' := 6) rfl ?_
      refine a_getfR hX (r := 3) fl_X8_9 hk0 (by omega) rfl dX8_owedBy_6 (pc' := 9) rfl ?_
      refine a_getfI hX (ji := 10) rfl hB fl_X8_66 rfl (by decide) rfl dX8_owedBy_9 (pc' := 12) rfl (fun hb => ?_)
      refine a_icmp_ge hX (by omega) (by omega) dX8_owedBy_12 (pc' := 15) rfl (tgt := 37) (by decide) (fun c12 => ?_) (fun c12 => ?_)
      · refine a_iload_n hX rfl rfl dX8_owedBy_37 (pc' := 38) rfl ?_
        refine a_iret hX dX8_owedBy_38 (hE _ _ _ ?_)
        refine ⟨aLf ?_, rfl, rfl⟩
        unfold sOwedBy
        rw [vP_2, show i = Z 3 10 by omega]
      · refine a_iload_n hX rfl rfl dX8_owedBy_15 (pc' := 16) rfl ?_
        refine a_iload_n hX rfl rfl dX8_owedBy_16 (pc' := 17) rfl ?_
        refine a_ishr hX (by omega) (by omega) dX8_owedBy_17 (pc' := 18) rfl ?_
        refine a_iconst hX dX8_owedBy_18 (pc' := 19) rfl ?_
        refine a_iand hX (by omega) (by omega) dX8_owedBy_19 (pc' := 20) rfl ?_
        rw [aAnd_1 _ hq]
        refine a_if_eq hX (by omega) dX8_owedBy_20 (pc' := 23) rfl (tgt := 31) (by decide) (fun c20 => ?_) (fun c20 => ?_)
        · refine a_iinc3 hX (by decide) rfl dX8_owedBy_31 (pc' := 34) rfl ?_
          refine a_goto hX dX8_owedBy_34 (tgt := 4) (by decide) ?_
          have e0 := aSum_s (f := fun p => if aBit m p = true then sOwed (vP Z) (vS Z k) p else 0) hi.1
          try dsimp only at e0
          first | rw [if_pos (by unfold aBit; exact decide_eq_true (by omega))] at e0 | rw [if_neg (by unfold aBit; rw [decide_eq_true_eq]; omega), Int.add_zero] at e0
          rw [← e0]
          exact ih (i + 1) (by omega) (by omega)
        · refine a_iload_n hX rfl rfl dX8_owedBy_23 (pc' := 24) rfl ?_
          refine a_aload_n hX rfl rfl dX8_owedBy_24 (pc' := 25) rfl ?_
          refine a_iload_n hX rfl rfl dX8_owedBy_25 (pc' := 26) rfl ?_
          refine a_cV1i hX cv_X8_69 (c_owed (by omega) hk hB hP hS hd) hk0 (by omega) ⟨by decide, by decide⟩ (Nat.le_of_ble_eq_true rfl) dX8_owedBy_26 (pc' := 29) rfl ?_
          refine a_iadd hX dX8_owedBy_29 (pc' := 30) rfl ?_
          refine a_istore2 hX rfl (by decide) rfl dX8_owedBy_30 (pc' := 31) rfl ?_
          refine a_iinc3 hX (by decide) rfl dX8_owedBy_31 (pc' := 34) rfl ?_
          refine a_goto hX dX8_owedBy_34 (tgt := 4) (by decide) ?_
          have e0 := aSum_s (f := fun p => if aBit m p = true then sOwed (vP Z) (vS Z k) p else 0) hi.1
          try dsimp only at e0
          first | rw [if_pos (by unfold aBit; exact decide_eq_true (by omega))] at e0 | rw [if_neg (by unfold aBit; rw [decide_eq_true_eq]; omega), Int.add_zero] at e0
          rw [← e0]
          exact ih (i + 1) (by omega) (by omega)
  exact L4 ((Z 3 10 - 0).toNat + 1) 0 (by omega) (by omega)

set_option maxHeartbeats 4000000 in
set_option maxRecDepth 100000 in
theorem c_owedInAll {G : aG} {Z : aZ} {Y : aY} {k : Nat}  (hk : aSky k) (hB : aB Z) (hP : okP (vP Z)) (hS : okS (vP Z) (vS Z k)) (hd : Z k 6 ≤ 5000) : aSi G yX8_owedInAll cX8_owedInAll 1 (some .int) 3 65 [.ref (G.1 k)] Z Y (sOwedAll (vP Z) (vS Z k)) := by
  refine aS.of (own := RX8) (by decide +kernel) rfl 0 (Nat.le_of_ble_eq_true rfl) (fun X hX hE => ?_)
  show AW X G 0 [some (.ref (G.1 k))] [] Z Y
  obtain ⟨hk0, hk1, hk2, hk3, hkb, hka⟩ := aSky_sh hk
  have hfP := fP hP
  have hfS := fS hS
  refine a_aload_n hX rfl rfl dX8_owedInAll_0 (pc' := 1) rfl ?_
  refine a_bipush hX rfl dX8_owedInAll_1 (pc' := 3) rfl ?_
  refine a_cV1i hX cv_X8_62 (c_owedBy (by omega) hk hB hP hS hd) hk0 (by omega) ⟨by decide, by decide⟩ (Nat.le_of_ble_eq_true rfl) dX8_owedInAll_3 (pc' := 6) rfl ?_
  refine a_iret hX dX8_owedInAll_6 (hE _ _ _ ?_)
  refine ⟨aLf ?_, rfl, rfl⟩
  unfold sOwedBy sOwedAll
  rw [vP_2]
  exact aSum_congr _ (fun p hp => if_pos (aBit31 (by omega)))

set_option maxHeartbeats 4000000 in
set_option maxRecDepth 100000 in
theorem c_filledInAll {G : aG} {Z : aZ} {Y : aY} {k : Nat}  (hk : aSky k) (hB : aB Z) (hP : okP (vP Z)) (hS : okS (vP Z) (vS Z k)) (hd : Z k 6 ≤ 5000) : aSi G yX8_filledInAll cX8_filledInAll 3 (some .int) 0 0 [.ref (G.1 k)] Z Y (sFilled (vS Z k)) := by
  refine aS.of (own := RX8) (by decide +kernel) rfl 2 (Nat.le_of_ble_eq_true rfl) (fun X hX hE => ?_)
  show AW X G 0 [some (.ref (G.1 k)), none, none] [] Z Y
  obtain ⟨hk0, hk1, hk2, hk3, hkb, hka⟩ := aSky_sh hk
  have hfP := fP hP
  have hfS := fS hS
  refine a_iconst hX dX8_filledInAll_0 (pc' := 1) rfl ?_
  refine a_istore1 hX rfl (by decide) rfl dX8_filledInAll_1 (pc' := 2) rfl ?_
  refine a_iconst hX dX8_filledInAll_2 (pc' := 3) rfl ?_
  refine a_istore2 hX rfl (by decide) rfl dX8_filledInAll_3 (pc' := 4) rfl ?_
  have L4 : ∀ (n : Nat) (i : Int), (0 ≤ i ∧ i ≤ 5) → (5 - i).toNat < n → AW X G 4 [some (.ref (G.1 k)), some (.int (aI (aSum (fun p => vS Z k (8 + p)) i.toNat))), some (.int (aI i))] [] Z Y := by
    intro n
    induction n with
    | zero =>
      intro i hi hn
      omega
    | succ n ih =>
      intro i hi hn
      refine a_iload_n hX rfl rfl dX8_filledInAll_4 (pc' := 5) rfl ?_
      refine a_iconst hX dX8_filledInAll_5 (pc' := 6) rfl ?_
      refine a_icmp_ge hX (by omega) (by omega) dX8_filledInAll_6 (pc' := 9) rfl (tgt := 24) (by decide) (fun c6 => ?_) (fun c6 => ?_)
      · refine a_iload_n hX rfl rfl dX8_filledInAll_24 (pc' := 25) rfl ?_
        refine a_iret hX dX8_filledInAll_25 (hE _ _ _ ?_)
        refine ⟨aLf ?_, rfl, rfl⟩
        unfold sFilled
        rw [show i = 5 by omega]
        rfl
      · refine a_iload_n hX rfl rfl dX8_filledInAll_9 (pc' := 10) rfl ?_
        refine a_aload_n hX rfl rfl dX8_filledInAll_10 (pc' := 11) rfl ?_
        refine a_getfR hX (r := (k + 3)) fl_X8_22 hk0 (by omega) rfl dX8_filledInAll_11 (pc' := 14) rfl ?_
        refine a_iload_n hX rfl rfl dX8_filledInAll_14 (pc' := 15) rfl ?_
        refine a_iald hX hk3 (by omega) (by decide) (by omega) hB dX8_filledInAll_15 (pc' := 16) rfl (fun hb => ?_)
        refine a_iadd hX dX8_filledInAll_16 (pc' := 17) rfl ?_
        refine a_istore1 hX rfl (by decide) rfl dX8_filledInAll_17 (pc' := 18) rfl ?_
        refine a_iinc2 hX (by decide) rfl dX8_filledInAll_18 (pc' := 21) rfl ?_
        refine a_goto hX dX8_filledInAll_21 (tgt := 4) (by decide) ?_
        have e0 := aSum_s (f := fun p => vS Z k (8 + p)) hi.1
        try dsimp only at e0
        rw [vS_fi (by omega)] at e0
        rw [← e0]
        exact ih (i + 1) (by omega) (by omega)
  exact L4 6 0 (by omega) (by omega)

set_option maxHeartbeats 4000000 in
set_option maxRecDepth 100000 in
theorem c_has {G : aG} {Z : aZ} {Y : aY} {k : Nat} {c : Int} (hc : 0 ≤ c ∧ c < Z 3 9) (hk : aSky k) (hB : aB Z) (hP : okP (vP Z)) (hS : okS (vP Z) (vS Z k)) (hd : Z k 6 ≤ 5000) : aSi G yX8_has cX8_has 2 (some .int) 1 21 [.ref (G.1 k), .int (aI c)] Z Y (sHas (vP Z) (vS Z k) c) := by
  refine aS.of (own := RX8) (by decide +kernel) rfl 0 (Nat.le_of_ble_eq_true rfl) (fun X hX hE => ?_)
  show AW X G 0 [some (.ref (G.1 k)), some (.int (aI c))] [] Z Y
  obtain ⟨hk0, hk1, hk2, hk3, hkb, hka⟩ := aSky_sh hk
  have hfP := fP hP
  have hfS := fS hS
  refine a_aload_n hX rfl rfl dX8_has_0 (pc' := 1) rfl ?_
  refine a_getfR hX (r := 3) fl_X8_9 hk0 (by omega) rfl dX8_has_1 (pc' := 4) rfl ?_
  refine a_iload_n hX rfl rfl dX8_has_4 (pc' := 5) rfl ?_
  refine a_cV1i hX cv_X8_72 (c_hasCloud (by omega) hB hP) rfl (by decide) ⟨by decide, by decide⟩ (Nat.le_of_ble_eq_true rfl) dX8_has_5 (pc' := 8) rfl ?_
  refine a_ifb_ne hX dX8_has_8 (pc' := 11) rfl (tgt := 13) (by decide) (fun c8 => ?_) (fun c8 => ?_)
  · refine a_aload_n hX rfl rfl dX8_has_13 (pc' := 14) rfl ?_
    refine a_getfR hX (r := 3) fl_X8_9 hk0 (by omega) rfl dX8_has_14 (pc' := 17) rfl ?_
    refine a_getfR hX (r := 7) fl_X8_75 rfl (by decide) rfl dX8_has_17 (pc' := 20) rfl ?_
    refine a_iload_n hX rfl rfl dX8_has_20 (pc' := 21) rfl ?_
    refine a_iald hX rfl (by decide) (by decide) (by omega) hB dX8_has_21 (pc' := 22) rfl (fun hb => ?_)
    refine a_iconst hX dX8_has_22 (pc' := 23) rfl ?_
    refine a_icmp_ne hX (by omega) (by omega) dX8_has_23 (pc' := 26) rfl (tgt := 37) (by decide) (fun c23 => ?_) (fun c23 => ?_)
    · refine a_aload_n hX rfl rfl dX8_has_37 (pc' := 38) rfl ?_
      refine a_getfR hX (r := (k + 2)) fl_X8_19 hk0 (by omega) rfl dX8_has_38 (pc' := 41) rfl ?_
      refine a_iload_n hX rfl rfl dX8_has_41 (pc' := 42) rfl ?_
      refine a_iald hX hk2 (by omega) (by decide) (by omega) hB dX8_has_42 (pc' := 43) rfl (fun hb => ?_)
      refine a_iret hX dX8_has_43 (hE _ _ _ ?_)
      refine ⟨aLf ?_, rfl, rfl⟩
      unfold sHas
      rw [vP_k, vS_fl (by omega)]
      first | rw [if_pos (by omega)] | rw [if_neg (by omega)]
    · refine a_aload_n hX rfl rfl dX8_has_26 (pc' := 27) rfl ?_
      refine a_getfR hX (r := (k + 2)) fl_X8_19 hk0 (by omega) rfl dX8_has_27 (pc' := 30) rfl ?_
      have hz := fSf hS (c := c) (by omega)
      refine a_iload_n hX rfl rfl dX8_has_30 (pc' := 31) rfl ?_
      refine a_iald hX hk2 (by omega) (by decide) (by omega) hB dX8_has_31 (pc' := 32) rfl (fun hb => ?_)
      refine a_iconst hX dX8_has_32 (pc' := 33) rfl ?_
      have hz := fSf hS (c := c) (by omega)
      refine a_idiv hX (by omega) (by omega) dX8_has_33 (pc' := 34) rfl ?_
      refine a_goto hX dX8_has_34 (tgt := 43) (by decide) ?_
      refine a_iret hX dX8_has_43 (hE _ _ _ ?_)
      refine ⟨aLf ?_, rfl, rfl⟩
      unfold sHas
      rw [vP_k, vS_fl (by omega)]
      first | rw [if_pos (by omega)] | rw [if_neg (by omega)]
  · exact absurd (pHasC_of hc) (by rw [c8]; decide)

set_option maxHeartbeats 4000000 in
set_option maxRecDepth 100000 in
theorem c_takes {G : aG} {Z : aZ} {Y : aY} {k : Nat} {c p d : Int} (hc : 0 ≤ c ∧ c < Z 3 9) (hp : 0 ≤ p ∧ p < Z 3 10) (hdd : 0 ≤ d ∧ d < 10000) (hk : aSky k) (hB : aB Z) (hP : okP (vP Z)) (hS : okS (vP Z) (vS Z k)) (hd : Z k 6 ≤ 5000) : aSi G yX8_takes cX8_takes 4 (some .boolean) 2 42 [.ref (G.1 k), .int (aI c), .int (aI p), .int (aI d)] Z Y (aTr (sTakes (vP Z) (vS Z k) c p d)) := by
  refine aS.of (own := RX8) (by decide +kernel) rfl 0 (Nat.le_of_ble_eq_true rfl) (fun X hX hE => ?_)
  show AW X G 0 [some (.ref (G.1 k)), some (.int (aI c)), some (.int (aI p)), some (.int (aI d))] [] Z Y
  obtain ⟨hk0, hk1, hk2, hk3, hkb, hka⟩ := aSky_sh hk
  have hfP := fP hP
  have hfS := fS hS
  refine a_aload_n hX rfl rfl dX8_takes_0 (pc' := 1) rfl ?_
  refine a_iload_n hX rfl rfl dX8_takes_1 (pc' := 2) rfl ?_
  refine a_cV1i hX cv_X8_78 (c_has (by omega) hk hB hP hS hd) hk0 (by omega) ⟨by decide, by decide⟩ (Nat.le_of_ble_eq_true rfl) dX8_takes_2 (pc' := 5) rfl ?_
  refine a_iconst hX dX8_takes_5 (pc' := 6) rfl ?_
  refine a_icmp_lt hX (by have := sHas_rng hS (c := c) (by omega); have := sOwed_rng hP hS (p := p) (by omega); have := pWind_rng hP d; omega) (by have := sHas_rng hS (c := c) (by omega); have := sOwed_rng hP hS (p := p) (by omega); have := pWind_rng hP d; omega) dX8_takes_6 (pc' := 9) rfl (tgt := 31) (by decide) (fun c6 => ?_) (fun c6 => ?_)
  · refine a_iconst hX dX8_takes_31 (pc' := 32) rfl ?_
    refine a_zret hX (by omega) dX8_takes_32 (hE _ _ _ ?_)
    refine ⟨aLf ?_, rfl, rfl⟩
    unfold sTakes
    rw [vP_d, vP_pk, vP_k]
    first | exact (aTr_pos (by omega)).symm | exact (aTr_neg (by omega)).symm
  · refine a_aload_n hX rfl rfl dX8_takes_9 (pc' := 10) rfl ?_
    refine a_iload_n hX rfl rfl dX8_takes_10 (pc' := 11) rfl ?_
    refine a_cV1i hX cv_X8_69 (c_owed (by omega) hk hB hP hS hd) hk0 (by omega) ⟨by decide, by decide⟩ (Nat.le_of_ble_eq_true rfl) dX8_takes_11 (pc' := 14) rfl ?_
    refine a_iconst hX dX8_takes_14 (pc' := 15) rfl ?_
    refine a_icmp_lt hX (by have := sHas_rng hS (c := c) (by omega); have := sOwed_rng hP hS (p := p) (by omega); have := pWind_rng hP d; omega) (by have := sHas_rng hS (c := c) (by omega); have := sOwed_rng hP hS (p := p) (by omega); have := pWind_rng hP d; omega) dX8_takes_15 (pc' := 18) rfl (tgt := 31) (by decide) (fun c15 => ?_) (fun c15 => ?_)
    · refine a_iconst hX dX8_takes_31 (pc' := 32) rfl ?_
      refine a_zret hX (by omega) dX8_takes_32 (hE _ _ _ ?_)
      refine ⟨aLf ?_, rfl, rfl⟩
      unfold sTakes
      rw [vP_d, vP_pk, vP_k]
      first | exact (aTr_pos (by omega)).symm | exact (aTr_neg (by omega)).symm
    · refine a_aload_n hX rfl rfl dX8_takes_18 (pc' := 19) rfl ?_
      refine a_getfR hX (r := 3) fl_X8_9 hk0 (by omega) rfl dX8_takes_19 (pc' := 22) rfl ?_
      refine a_getfR hX (r := 9) fl_X8_56 rfl (by decide) rfl dX8_takes_22 (pc' := 25) rfl ?_
      refine a_iload_n hX rfl rfl dX8_takes_25 (pc' := 26) rfl ?_
      refine a_iald hX rfl (by decide) (by decide) (by have := sHas_rng hS (c := c) (by omega); have := sOwed_rng hP hS (p := p) (by omega); have := pWind_rng hP d; omega) hB dX8_takes_26 (pc' := 27) rfl (fun hb => ?_)
      refine a_iload_n hX rfl rfl dX8_takes_27 (pc' := 28) rfl ?_
      refine a_icmp_ge hX (by have := sHas_rng hS (c := c) (by omega); have := sOwed_rng hP hS (p := p) (by omega); have := pWind_rng hP d; omega) (by have := sHas_rng hS (c := c) (by omega); have := sOwed_rng hP hS (p := p) (by omega); have := pWind_rng hP d; omega) dX8_takes_28 (pc' := 31) rfl (tgt := 33) (by decide) (fun c28 => ?_) (fun c28 => ?_)
      · refine a_aload_n hX rfl rfl dX8_takes_33 (pc' := 34) rfl ?_
        refine a_getfR hX (r := 3) fl_X8_9 hk0 (by omega) rfl dX8_takes_34 (pc' := 37) rfl ?_
        refine a_getfR hX (r := 10) fl_X8_81 rfl (by decide) rfl dX8_takes_37 (pc' := 40) rfl ?_
        refine a_iload_n hX rfl rfl dX8_takes_40 (pc' := 41) rfl ?_
        refine a_iald hX rfl (by decide) (by decide) (by have := sHas_rng hS (c := c) (by omega); have := sOwed_rng hP hS (p := p) (by omega); have := pWind_rng hP d; omega) hB dX8_takes_41 (pc' := 42) rfl (fun hb => ?_)
        refine a_iconst hX dX8_takes_42 (pc' := 43) rfl ?_
        refine a_icmp_ne hX (by have := sHas_rng hS (c := c) (by omega); have := sOwed_rng hP hS (p := p) (by omega); have := pWind_rng hP d; omega) (by have := sHas_rng hS (c := c) (by omega); have := sOwed_rng hP hS (p := p) (by omega); have := pWind_rng hP d; omega) dX8_takes_43 (pc' := 46) rfl (tgt := 65) (by decide) (fun c43 => ?_) (fun c43 => ?_)
        · refine a_aload_n hX rfl rfl dX8_takes_65 (pc' := 66) rfl ?_
          refine a_getfR hX (r := 3) fl_X8_9 hk0 (by omega) rfl dX8_takes_66 (pc' := 69) rfl ?_
          refine a_getfR hX (r := 10) fl_X8_81 rfl (by decide) rfl dX8_takes_69 (pc' := 72) rfl ?_
          refine a_iload_n hX rfl rfl dX8_takes_72 (pc' := 73) rfl ?_
          refine a_iald hX rfl (by decide) (by decide) (by have := sHas_rng hS (c := c) (by omega); have := sOwed_rng hP hS (p := p) (by omega); have := pWind_rng hP d; omega) hB dX8_takes_73 (pc' := 74) rfl (fun hb => ?_)
          refine a_iconst hX dX8_takes_74 (pc' := 75) rfl ?_
          refine a_icmp_ne hX (by have := sHas_rng hS (c := c) (by omega); have := sOwed_rng hP hS (p := p) (by omega); have := pWind_rng hP d; omega) (by have := sHas_rng hS (c := c) (by omega); have := sOwed_rng hP hS (p := p) (by omega); have := pWind_rng hP d; omega) dX8_takes_75 (pc' := 78) rfl (tgt := 89) (by decide) (fun c75 => ?_) (fun c75 => ?_)
          · refine a_iconst hX dX8_takes_89 (pc' := 90) rfl ?_
            refine a_goto hX dX8_takes_90 (tgt := 94) (by decide) ?_
            refine a_zret hX (by omega) dX8_takes_94 (hE _ _ _ ?_)
            refine ⟨aLf ?_, rfl, rfl⟩
            unfold sTakes
            rw [vP_d, vP_pk, vP_k]
            first | exact (aTr_pos (by omega)).symm | exact (aTr_neg (by omega)).symm
          · refine a_aload_n hX rfl rfl dX8_takes_78 (pc' := 79) rfl ?_
            refine a_getfR hX (r := 3) fl_X8_9 hk0 (by omega) rfl dX8_takes_79 (pc' := 82) rfl ?_
            refine a_iload_n hX rfl rfl dX8_takes_82 (pc' := 83) rfl ?_
            refine a_cV1i hX cv_X8_84 (c_windOn (by omega) hB hP) rfl (by decide) ⟨by decide, by decide⟩ (Nat.le_of_ble_eq_true rfl) dX8_takes_83 (pc' := 86) rfl ?_
            refine a_if_ne hX (by have := sHas_rng hS (c := c) (by omega); have := sOwed_rng hP hS (p := p) (by omega); have := pWind_rng hP d; omega) dX8_takes_86 (pc' := 89) rfl (tgt := 93) (by decide) (fun c86 => ?_) (fun c86 => ?_)
            · refine a_iconst hX dX8_takes_93 (pc' := 94) rfl ?_
              refine a_zret hX (by omega) dX8_takes_94 (hE _ _ _ ?_)
              refine ⟨aLf ?_, rfl, rfl⟩
              unfold sTakes
              rw [vP_d, vP_pk, vP_k]
              first | exact (aTr_pos (by omega)).symm | exact (aTr_neg (by omega)).symm
            · refine a_iconst hX dX8_takes_89 (pc' := 90) rfl ?_
              refine a_goto hX dX8_takes_90 (tgt := 94) (by decide) ?_
              refine a_zret hX (by omega) dX8_takes_94 (hE _ _ _ ?_)
              refine ⟨aLf ?_, rfl, rfl⟩
              unfold sTakes
              rw [vP_d, vP_pk, vP_k]
              first | exact (aTr_pos (by omega)).symm | exact (aTr_neg (by omega)).symm
        · refine a_aload_n hX rfl rfl dX8_takes_46 (pc' := 47) rfl ?_
          refine a_getfR hX (r := 3) fl_X8_9 hk0 (by omega) rfl dX8_takes_47 (pc' := 50) rfl ?_
          refine a_getfR hX (r := 7) fl_X8_75 rfl (by decide) rfl dX8_takes_50 (pc' := 53) rfl ?_
          refine a_iload_n hX rfl rfl dX8_takes_53 (pc' := 54) rfl ?_
          refine a_iald hX rfl (by decide) (by decide) (by have := sHas_rng hS (c := c) (by omega); have := sOwed_rng hP hS (p := p) (by omega); have := pWind_rng hP d; omega) hB dX8_takes_54 (pc' := 55) rfl (fun hb => ?_)
          refine a_iconst hX dX8_takes_55 (pc' := 56) rfl ?_
          refine a_icmp_eq hX (by have := sHas_rng hS (c := c) (by omega); have := sOwed_rng hP hS (p := p) (by omega); have := pWind_rng hP d; omega) (by have := sHas_rng hS (c := c) (by omega); have := sOwed_rng hP hS (p := p) (by omega); have := pWind_rng hP d; omega) dX8_takes_56 (pc' := 59) rfl (tgt := 63) (by decide) (fun c56 => ?_) (fun c56 => ?_)
          · refine a_iconst hX dX8_takes_63 (pc' := 64) rfl ?_
            refine a_zret hX (by omega) dX8_takes_64 (hE _ _ _ ?_)
            refine ⟨aLf ?_, rfl, rfl⟩
            unfold sTakes
            rw [vP_d, vP_pk, vP_k]
            first | exact (aTr_pos (by omega)).symm | exact (aTr_neg (by omega)).symm
          · refine a_iconst hX dX8_takes_59 (pc' := 60) rfl ?_
            refine a_goto hX dX8_takes_60 (tgt := 64) (by decide) ?_
            refine a_zret hX (by omega) dX8_takes_64 (hE _ _ _ ?_)
            refine ⟨aLf ?_, rfl, rfl⟩
            unfold sTakes
            rw [vP_d, vP_pk, vP_k]
            first | exact (aTr_pos (by omega)).symm | exact (aTr_neg (by omega)).symm
      · refine a_iconst hX dX8_takes_31 (pc' := 32) rfl ?_
        refine a_zret hX (by omega) dX8_takes_32 (hE _ _ _ ?_)
        refine ⟨aLf ?_, rfl, rfl⟩
        unfold sTakes
        rw [vP_d, vP_pk, vP_k]
        first | exact (aTr_pos (by omega)).symm | exact (aTr_neg (by omega)).symm

set_option maxHeartbeats 4000000 in
set_option maxRecDepth 100000 in
theorem c_canDrop {G : aG} {Z : aZ} {Y : aY} {k : Nat} {c p : Int} (hc : -2147483648 ≤ c ∧ c < 2147483648) (hp : -2147483648 ≤ p ∧ p < 2147483648) (hk : aSky k) (hB : aB Z) (hP : okP (vP Z)) (hS : okS (vP Z) (vS Z k)) (hd : Z k 6 ≤ 5000) : aSi G yX8_canDrop cX8_canDrop 3 (some .boolean) 3 65 [.ref (G.1 k), .int (aI c), .int (aI p)] Z Y (aTr (pHasC (vP Z) c && pHasP (vP Z) p && sCan (vP Z) (vS Z k) c p)) := by
  refine aS.of (own := RX8) (by decide +kernel) rfl 0 (Nat.le_of_ble_eq_true rfl) (fun X hX hE => ?_)
  show AW X G 0 [some (.ref (G.1 k)), some (.int (aI c)), some (.int (aI p))] [] Z Y
  obtain ⟨hk0, hk1, hk2, hk3, hkb, hka⟩ := aSky_sh hk
  have hfP := fP hP
  have hfS := fS hS
  refine a_aload_n hX rfl rfl dX8_canDrop_0 (pc' := 1) rfl ?_
  refine a_getfR hX (r := 3) fl_X8_9 hk0 (by omega) rfl dX8_canDrop_1 (pc' := 4) rfl ?_
  refine a_iload_n hX rfl rfl dX8_canDrop_4 (pc' := 5) rfl ?_
  refine a_cV1i hX cv_X8_72 (c_hasCloud (by omega) hB hP) rfl (by decide) ⟨by decide, by decide⟩ (Nat.le_of_ble_eq_true rfl) dX8_canDrop_5 (pc' := 8) rfl ?_
  refine a_ifb_eq hX dX8_canDrop_8 (pc' := 11) rfl (tgt := 22) (by decide) (fun c8 => ?_) (fun c8 => ?_)
  · refine a_iconst hX dX8_canDrop_22 (pc' := 23) rfl ?_
    refine a_zret hX (by omega) dX8_canDrop_23 (hE _ _ _ ?_)
    refine ⟨aLf ?_, rfl, rfl⟩
    first | (rw [c8]; rfl) | (rw [c8, c19]; rfl)
  · have hc1 := pHasC_no c8
    refine a_aload_n hX rfl rfl dX8_canDrop_11 (pc' := 12) rfl ?_
    refine a_getfR hX (r := 3) fl_X8_9 hk0 (by omega) rfl dX8_canDrop_12 (pc' := 15) rfl ?_
    refine a_iload_n hX rfl rfl dX8_canDrop_15 (pc' := 16) rfl ?_
    refine a_cV1i hX cv_X8_49 (c_hasPaper (by omega) hB hP) rfl (by decide) ⟨by decide, by decide⟩ (Nat.le_of_ble_eq_true rfl) dX8_canDrop_16 (pc' := 19) rfl ?_
    refine a_ifb_ne hX dX8_canDrop_19 (pc' := 22) rfl (tgt := 24) (by decide) (fun c19 => ?_) (fun c19 => ?_)
    · have hp1 := pHasP_no c19
      refine a_aload_n hX rfl rfl dX8_canDrop_24 (pc' := 25) rfl ?_
      refine a_getfR hX (r := (k + 1)) fl_X8_15 hk0 (by omega) rfl dX8_canDrop_25 (pc' := 28) rfl ?_
      refine a_iload_n hX rfl rfl dX8_canDrop_28 (pc' := 29) rfl ?_
      refine a_iald hX hk1 (by omega) (by decide) (by omega) hB dX8_canDrop_29 (pc' := 30) rfl (fun hb => ?_)
      refine a_aload_n hX rfl rfl dX8_canDrop_30 (pc' := 31) rfl ?_
      refine a_getfR hX (r := 3) fl_X8_9 hk0 (by omega) rfl dX8_canDrop_31 (pc' := 34) rfl ?_
      refine a_getfR hX (r := 8) fl_X8_87 rfl (by decide) rfl dX8_canDrop_34 (pc' := 37) rfl ?_
      refine a_iload_n hX rfl rfl dX8_canDrop_37 (pc' := 38) rfl ?_
      refine a_iald hX rfl (by decide) (by decide) (by omega) hB dX8_canDrop_38 (pc' := 39) rfl (fun hb => ?_)
      refine a_icmp_ne hX (by omega) (by omega) dX8_canDrop_39 (pc' := 42) rfl (tgt := 59) (by decide) (fun c39 => ?_) (fun c39 => ?_)
      · refine a_iconst hX dX8_canDrop_59 (pc' := 60) rfl ?_
        refine a_zret hX (by omega) dX8_canDrop_60 (hE _ _ _ ?_)
        refine ⟨aLf ?_, rfl, rfl⟩
        rw [c8, c19]
        unfold sCan
        rw [vP_y, vS_15, vS_yd (by omega)]
        first | exact (aTr_pos ⟨by omega, c52⟩).symm | exact (aTr_neg (fun q => by first | omega | (rw [c52] at q; exact absurd q.2 (by decide)))).symm
      · refine a_aload_n hX rfl rfl dX8_canDrop_42 (pc' := 43) rfl ?_
        refine a_iload_n hX rfl rfl dX8_canDrop_43 (pc' := 44) rfl ?_
        refine a_iload_n hX rfl rfl dX8_canDrop_44 (pc' := 45) rfl ?_
        refine a_aload_n hX rfl rfl dX8_canDrop_45 (pc' := 46) rfl ?_
        refine a_getfI hX (ji := 6) rfl hB fl_X8_32 hk0 (by omega) rfl dX8_canDrop_46 (pc' := 49) rfl (fun hb => ?_)
        refine a_cV3i hX cv_X8_90 (c_takes (by omega) (by omega) (by omega) hk hB hP hS hd) hk0 (by omega) ⟨by decide, by decide⟩ (Nat.le_of_ble_eq_true rfl) dX8_canDrop_49 (pc' := 52) rfl ?_
        refine a_ifb_eq hX dX8_canDrop_52 (pc' := 55) rfl (tgt := 59) (by decide) (fun c52 => ?_) (fun c52 => ?_)
        · refine a_iconst hX dX8_canDrop_59 (pc' := 60) rfl ?_
          refine a_zret hX (by omega) dX8_canDrop_60 (hE _ _ _ ?_)
          refine ⟨aLf ?_, rfl, rfl⟩
          rw [c8, c19]
          unfold sCan
          rw [vP_y, vS_15, vS_yd (by omega)]
          first | exact (aTr_pos ⟨by omega, c52⟩).symm | exact (aTr_neg (fun q => by first | omega | (rw [c52] at q; exact absurd q.2 (by decide)))).symm
        · refine a_iconst hX dX8_canDrop_55 (pc' := 56) rfl ?_
          refine a_goto hX dX8_canDrop_56 (tgt := 60) (by decide) ?_
          refine a_zret hX (by omega) dX8_canDrop_60 (hE _ _ _ ?_)
          refine ⟨aLf ?_, rfl, rfl⟩
          rw [c8, c19]
          unfold sCan
          rw [vP_y, vS_15, vS_yd (by omega)]
          first | exact (aTr_pos ⟨by omega, c52⟩).symm | exact (aTr_neg (fun q => by first | omega | (rw [c52] at q; exact absurd q.2 (by decide)))).symm
    · refine a_iconst hX dX8_canDrop_22 (pc' := 23) rfl ?_
      refine a_zret hX (by omega) dX8_canDrop_23 (hE _ _ _ ?_)
      refine ⟨aLf ?_, rfl, rfl⟩
      first | (rw [c8]; rfl) | (rw [c8, c19]; rfl)

set_option maxHeartbeats 4000000 in
set_option maxRecDepth 100000 in
theorem c_droppable {G : aG} {Z : aZ} {Y : aY} {k : Nat} {c : Int} (hc : 0 ≤ c ∧ c < Z 3 9) (hk : aSky k) (hB : aB Z) (hP : okP (vP Z)) (hS : okS (vP Z) (vS Z k)) (hd : Z k 6 ≤ 5000) : aSi G yX8_droppable cX8_droppable 4 (some .int) 4 87 [.ref (G.1 k), .int (aI c)] Z Y (aBits (sCan (vP Z) (vS Z k) c) (vP Z 0 2).toNat) := by
  refine aS.of (own := RX8) (by decide +kernel) rfl 2 (Nat.le_of_ble_eq_true rfl) (fun X hX hE => ?_)
  show AW X G 0 [some (.ref (G.1 k)), some (.int (aI c)), none, none] [] Z Y
  obtain ⟨hk0, hk1, hk2, hk3, hkb, hka⟩ := aSky_sh hk
  have hfP := fP hP
  have hfS := fS hS
  refine a_iconst hX dX8_droppable_0 (pc' := 1) rfl ?_
  refine a_istore2 hX rfl (by decide) rfl dX8_droppable_1 (pc' := 2) rfl ?_
  refine a_iconst hX dX8_droppable_2 (pc' := 3) rfl ?_
  refine a_istore3 hX rfl (by decide) rfl dX8_droppable_3 (pc' := 4) rfl ?_
  have L4 : ∀ (n : Nat) (i : Int), (0 ≤ i ∧ i ≤ Z 3 10) → (Z 3 10 - i).toNat < n → AW X G 4 [some (.ref (G.1 k)), some (.int (aI c)), some (.int (aI (aBits (sCan (vP Z) (vS Z k) c) i.toNat))), some (.int (aI i))] [] Z Y := by
    intro n
    induction n with
    | zero =>
      intro i hi hn
      omega
    | succ n ih =>
      intro i hi hn
      have hz := aBits_rng (sCan (vP Z) (vS Z k) c) i.toNat
      refine a_iload_n hX rfl rfl dX8_droppable_4 (pc' := 5) rfl ?_
      refine a_aload_n hX rfl rfl dX8_droppable_5 (pc' := 6) rfl ?_
      refine a_getfR hX (r := 3) fl_X8_9 hk0 (by omega) rfl dX8_droppable_6 (pc' := 9) rfl ?_
      refine a_getfI hX (ji := 10) rfl hB fl_X8_66 rfl (by decide) rfl dX8_droppable_9 (pc' := 12) rfl (fun hb => ?_)
      refine a_icmp_ge hX (by omega) (by omega) dX8_droppable_12 (pc' := 15) rfl (tgt := 36) (by decide) (fun c12 => ?_) (fun c12 => ?_)
      · refine a_iload_n hX rfl rfl dX8_droppable_36 (pc' := 37) rfl ?_
        refine a_iret hX dX8_droppable_37 (hE _ _ _ ?_)
        refine ⟨aLf ?_, rfl, rfl⟩
        rw [vP_2, show i = Z 3 10 by omega]
      · refine a_aload_n hX rfl rfl dX8_droppable_15 (pc' := 16) rfl ?_
        refine a_iload_n hX rfl rfl dX8_droppable_16 (pc' := 17) rfl ?_
        refine a_iload_n hX rfl rfl dX8_droppable_17 (pc' := 18) rfl ?_
        refine a_cV2i hX cv_X8_94 (c_canDrop (by omega) (by omega) hk hB hP hS hd) hk0 (by omega) ⟨by decide, by decide⟩ (Nat.le_of_ble_eq_true rfl) dX8_droppable_18 (pc' := 21) rfl ?_
        rw [pHasC_of hc, pHasP_of (p := i) (by omega)]
        rw [Bool.true_and, Bool.true_and]
        refine a_ifb_eq hX dX8_droppable_21 (pc' := 24) rfl (tgt := 30) (by decide) (fun c21 => ?_) (fun c21 => ?_)
        · refine a_iinc3 hX (by decide) rfl dX8_droppable_30 (pc' := 33) rfl ?_
          refine a_goto hX dX8_droppable_33 (tgt := 4) (by decide) ?_
          have e0 := aBits_s (f := sCan (vP Z) (vS Z k) c) hi.1
          first | rw [if_pos c21] at e0 | rw [if_neg (by rw [c21]; decide)] at e0
          first | rw [← e0] | (rw [aTwo, ← e0])
          exact ih (i + 1) (by omega) (by omega)
        · refine a_iload_n hX rfl rfl dX8_droppable_24 (pc' := 25) rfl ?_
          refine a_iconst hX dX8_droppable_25 (pc' := 26) rfl ?_
          refine a_iload_n hX rfl rfl dX8_droppable_26 (pc' := 27) rfl ?_
          have hw := aPow2 (p := i) (by omega)
          refine a_ishl hX (by omega) (by omega) (by omega) dX8_droppable_27 (pc' := 28) rfl ?_
          refine a_ior hX (by omega) (by omega) dX8_droppable_28 (pc' := 29) rfl ?_
          refine a_istore2 hX rfl (by decide) rfl dX8_droppable_29 (pc' := 30) rfl ?_
          refine a_iinc3 hX (by decide) rfl dX8_droppable_30 (pc' := 33) rfl ?_
          refine a_goto hX dX8_droppable_33 (tgt := 4) (by decide) ?_
          have e0 := aBits_s (f := sCan (vP Z) (vS Z k) c) hi.1
          first | rw [if_pos c21] at e0 | rw [if_neg (by rw [c21]; decide)] at e0
          first | rw [← e0] | (rw [aTwo, ← e0])
          exact ih (i + 1) (by omega) (by omega)
  exact L4 ((Z 3 10 - 0).toNat + 1) 0 (by omega) (by omega)

set_option maxHeartbeats 4000000 in
set_option maxRecDepth 100000 in
theorem c_umbrellasBy {G : aG} {Z : aZ} {Y : aY} {k : Nat} {d : Int} (hdd : 0 ≤ d ∧ d < 10000) (hk : aSky k) (hB : aB Z) (hP : okP (vP Z)) (hS : okS (vP Z) (vS Z k)) (hd : Z k 6 ≤ 5000) : aSi G yX8_umbrellasBy cX8_umbrellasBy 4 (some .int) 2 42 [.ref (G.1 k), .int (aI d)] Z Y (sUmb (vP Z) (vS Z k) d) := by
  refine aS.of (own := RX8) (by decide +kernel) rfl 2 (Nat.le_of_ble_eq_true rfl) (fun X hX hE => ?_)
  show AW X G 0 [some (.ref (G.1 k)), some (.int (aI d)), none, none] [] Z Y
  obtain ⟨hk0, hk1, hk2, hk3, hkb, hka⟩ := aSky_sh hk
  have hfP := fP hP
  have hfS := fS hS
  refine a_aload_n hX rfl rfl dX8_umbrellasBy_0 (pc' := 1) rfl ?_
  refine a_getfI hX (ji := 5) rfl hB fl_X8_29 hk0 (by omega) rfl dX8_umbrellasBy_1 (pc' := 4) rfl (fun hb => ?_)
  refine a_istore2 hX rfl (by decide) rfl dX8_umbrellasBy_4 (pc' := 5) rfl ?_
  refine a_iconst hX dX8_umbrellasBy_5 (pc' := 6) rfl ?_
  refine a_istore3 hX rfl (by decide) rfl dX8_umbrellasBy_6 (pc' := 7) rfl ?_
  have L7 : ∀ (n : Nat) (i : Int), (0 ≤ i ∧ i ≤ Z 3 10) → (Z 3 10 - i).toNat < n → AW X G 7 [some (.ref (G.1 k)), some (.int (aI d)), some (.int (aI (Z k 5 + aSum (fun p => if vP Z 6 p < d then sOwed (vP Z) (vS Z k) p else 0) i.toNat))), some (.int (aI i))] [] Z Y := by
    intro n
    induction n with
    | zero =>
      intro i hi hn
      omega
    | succ n ih =>
      intro i hi hn
      refine a_iload_n hX rfl rfl dX8_umbrellasBy_7 (pc' := 8) rfl ?_
      refine a_aload_n hX rfl rfl dX8_umbrellasBy_8 (pc' := 9) rfl ?_
      refine a_getfR hX (r := 3) fl_X8_9 hk0 (by omega) rfl dX8_umbrellasBy_9 (pc' := 12) rfl ?_
      refine a_getfI hX (ji := 10) rfl hB fl_X8_66 rfl (by decide) rfl dX8_umbrellasBy_12 (pc' := 15) rfl (fun hb => ?_)
      refine a_icmp_ge hX (by omega) (by omega) dX8_umbrellasBy_15 (pc' := 18) rfl (tgt := 45) (by decide) (fun c15 => ?_) (fun c15 => ?_)
      · refine a_iload_n hX rfl rfl dX8_umbrellasBy_45 (pc' := 46) rfl ?_
        refine a_iret hX dX8_umbrellasBy_46 (hE _ _ _ ?_)
        refine ⟨aLf ?_, rfl, rfl⟩
        unfold sUmb
        rw [vP_2, vS_14, show i = Z 3 10 by omega]
      · refine a_aload_n hX rfl rfl dX8_umbrellasBy_18 (pc' := 19) rfl ?_
        refine a_getfR hX (r := 3) fl_X8_9 hk0 (by omega) rfl dX8_umbrellasBy_19 (pc' := 22) rfl ?_
        refine a_getfR hX (r := 9) fl_X8_56 rfl (by decide) rfl dX8_umbrellasBy_22 (pc' := 25) rfl ?_
        refine a_iload_n hX rfl rfl dX8_umbrellasBy_25 (pc' := 26) rfl ?_
        refine a_iald hX rfl (by decide) (by decide) (by omega) hB dX8_umbrellasBy_26 (pc' := 27) rfl (fun hb => ?_)
        refine a_iload_n hX rfl rfl dX8_umbrellasBy_27 (pc' := 28) rfl ?_
        refine a_icmp_ge hX (by omega) (by omega) dX8_umbrellasBy_28 (pc' := 31) rfl (tgt := 39) (by decide) (fun c28 => ?_) (fun c28 => ?_)
        · refine a_iinc3 hX (by decide) rfl dX8_umbrellasBy_39 (pc' := 42) rfl ?_
          refine a_goto hX dX8_umbrellasBy_42 (tgt := 7) (by decide) ?_
          have e0 := aSum_s (f := fun p => if vP Z 6 p < d then sOwed (vP Z) (vS Z k) p else 0) hi.1
          try dsimp only at e0
          rw [vP_d] at e0
          first | rw [if_pos (by omega)] at e0 | rw [if_neg (by omega), Int.add_zero] at e0
          first | rw [← e0] | rw [Int.add_assoc, ← e0]
          exact ih (i + 1) (by omega) (by omega)
        · refine a_iload_n hX rfl rfl dX8_umbrellasBy_31 (pc' := 32) rfl ?_
          refine a_aload_n hX rfl rfl dX8_umbrellasBy_32 (pc' := 33) rfl ?_
          refine a_iload_n hX rfl rfl dX8_umbrellasBy_33 (pc' := 34) rfl ?_
          refine a_cV1i hX cv_X8_69 (c_owed (by omega) hk hB hP hS hd) hk0 (by omega) ⟨by decide, by decide⟩ (Nat.le_of_ble_eq_true rfl) dX8_umbrellasBy_34 (pc' := 37) rfl ?_
          refine a_iadd hX dX8_umbrellasBy_37 (pc' := 38) rfl ?_
          refine a_istore2 hX rfl (by decide) rfl dX8_umbrellasBy_38 (pc' := 39) rfl ?_
          refine a_iinc3 hX (by decide) rfl dX8_umbrellasBy_39 (pc' := 42) rfl ?_
          refine a_goto hX dX8_umbrellasBy_42 (tgt := 7) (by decide) ?_
          have e0 := aSum_s (f := fun p => if vP Z 6 p < d then sOwed (vP Z) (vS Z k) p else 0) hi.1
          try dsimp only at e0
          rw [vP_d] at e0
          first | rw [if_pos (by omega)] at e0 | rw [if_neg (by omega), Int.add_zero] at e0
          first | rw [← e0] | rw [Int.add_assoc, ← e0]
          exact ih (i + 1) (by omega) (by omega)
  have L7 := L7 ((Z 3 10 - 0).toNat + 1) 0 (by omega) (by omega)
  rw [show aSum (fun p => if vP Z 6 p < d then sOwed (vP Z) (vS Z k) p else 0) (0 : Int).toNat = 0 from rfl, Int.add_zero] at L7
  exact L7

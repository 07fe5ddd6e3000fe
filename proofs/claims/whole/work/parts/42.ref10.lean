set_option maxHeartbeats 4000000 in
set_option maxRecDepth 100000 in
theorem q_keep {G : aG} {Z : aZ} {Y : aY} {s : Int} (hs : -2147483648 ≤ s ∧ s < 2147483648) (hB : aB Z) : aSI G yX10_keep cX10_keep 3 (some .int) 1 25 [.ref (G.1 62), .int (aI s)] Z Y (fun x Z' Y' => x = (if 0 ≤ s ∧ s < 2 then Z 69 15 else -1) ∧ (if 0 ≤ s ∧ s < 2 then Z' 78 s = 1 ∧ (∀ b : Int, b ≠ s → Z' 78 b = Z 78 b) ∧ (∀ j : Int, Z' 79 j = if 16 * s ≤ j ∧ j < 16 * s + 16 then Z 69 (j - 16 * s) else Z 79 j) ∧ (∀ a : Nat, a ≠ 78 → a ≠ 79 → Z' a = Z a) else Z' = Z) ∧ aB Z' ∧ Y' = Y) := by
  refine aS.of (own := RX10) (by decide +kernel) rfl 1 (Nat.le_of_ble_eq_true rfl) (fun X hX hE => ?_)
  show AW X G 0 [some (.ref (G.1 62)), some (.int (aI s)), none] [] Z Y
  refine a_iload_n hX rfl rfl dX10_keep_0 (pc' := 1) rfl ?_
  refine a_i2l hX (by omega) dX10_keep_1 (pc' := 2) rfl ?_
  refine a_lconst hX (v := 0) rfl dX10_keep_2 (pc' := 3) rfl ?_
  refine a_lconst hX (v := 1) rfl dX10_keep_3 (pc' := 4) rfl ?_
  refine a_cS3i hX cs_X10_68 (q_in (by omega) (by omega) (by omega)) ⟨by decide, by decide⟩ (Nat.le_of_ble_eq_true rfl) dX10_keep_4 (pc' := 7) rfl ?_
  refine a_ifb_ne hX dX10_keep_7 (pc' := 10) rfl (tgt := 12) (by decide) (fun c7 => ?_) (fun c7 => ?_)
  · have c7 := of_decide_eq_true c7
    refine a_aload_n hX rfl rfl dX10_keep_12 (pc' := 13) rfl ?_
    refine a_getfR hX (r := 78) fl_X10_59 rfl (by decide) rfl dX10_keep_13 (pc' := 16) rfl ?_
    refine a_iload_n hX rfl rfl dX10_keep_16 (pc' := 17) rfl ?_
    refine a_iconst hX dX10_keep_17 (pc' := 18) rfl ?_
    refine a_zastB hX rfl (by decide) (by decide) (by omega) hB (Or.inr rfl) dX10_keep_18 (pc' := 19) rfl (fun hB => ?_)
    refine a_iconst hX dX10_keep_19 (pc' := 20) rfl ?_
    refine a_istore2 hX rfl (by decide) rfl dX10_keep_20 (pc' := 21) rfl ?_
    have L21 : ∀ (n : Nat) (i : Int) (Z1 : aZ), (0 ≤ i ∧ i ≤ 16) → aB Z1 → (∀ j : Int, Z1 79 j = if 16 * s ≤ j ∧ j < 16 * s + i then Z 69 (j - 16 * s) else Z 79 j) → (∀ a : Nat, a ≠ 79 → Z1 a = aU Z 78 s 1 a) → (16 - i).toNat < n → AW X G 21 [some (.ref (G.1 62)), some (.int (aI s)), some (.int (aI i))] [] Z1 Y := by
      intro n
      induction n with
      | zero =>
        intro i Z1 hi hB hj hz hn
        omega
      | succ n ih =>
        intro i Z1 hi hB hj hz hn
        refine a_iload_n hX rfl rfl dX10_keep_21 (pc' := 22) rfl ?_
        refine a_bipush hX rfl dX10_keep_22 (pc' := 24) rfl ?_
        refine a_icmp_ge hX (by omega) (by omega) dX10_keep_24 (pc' := 27) rfl (tgt := 50) (by decide) (fun c24 => ?_) (fun c24 => ?_)
        · refine a_aload_n hX rfl rfl dX10_keep_50 (pc' := 51) rfl ?_
          refine a_getfR hX (r := 69) fl_X10_28 rfl (by decide) rfl dX10_keep_51 (pc' := 54) rfl ?_
          refine a_bipush hX rfl dX10_keep_54 (pc' := 56) rfl ?_
          refine a_iald hX rfl (by decide) (by decide) (by omega) hB dX10_keep_56 (pc' := 57) rfl (fun hb => ?_)
          refine a_iret hX dX10_keep_57 (hE _ _ _ ?_)
          obtain rfl : i = 16 := by omega
          refine ⟨_, rfl, by rw [if_pos (by omega), hz 69 (by decide), aU_row (by decide)], ?_, hB, rfl⟩
          rw [if_pos (by omega)]
          exact ⟨by rw [hz 78 (by decide), aU_eq], fun b hb => by rw [hz 78 (by decide), aU_nj hb], hj, fun a h1 h2 => by rw [hz a h2, aU_row h1]⟩
        · refine a_aload_n hX rfl rfl dX10_keep_27 (pc' := 28) rfl ?_
          refine a_getfR hX (r := 79) fl_X10_63 rfl (by decide) rfl dX10_keep_28 (pc' := 31) rfl ?_
          refine a_bipush hX rfl dX10_keep_31 (pc' := 33) rfl ?_
          refine a_iload_n hX rfl rfl dX10_keep_33 (pc' := 34) rfl ?_
          refine a_imul hX dX10_keep_34 (pc' := 35) rfl ?_
          refine a_iload_n hX rfl rfl dX10_keep_35 (pc' := 36) rfl ?_
          refine a_iadd hX dX10_keep_36 (pc' := 37) rfl ?_
          refine a_aload_n hX rfl rfl dX10_keep_37 (pc' := 38) rfl ?_
          refine a_getfR hX (r := 69) fl_X10_28 rfl (by decide) rfl dX10_keep_38 (pc' := 41) rfl ?_
          refine a_iload_n hX rfl rfl dX10_keep_41 (pc' := 42) rfl ?_
          refine a_iald hX rfl (by decide) (by decide) (by omega) hB dX10_keep_42 (pc' := 43) rfl (fun hb => ?_)
          refine a_iastB hX rfl (by decide) (by decide) (by omega) hB (by omega) dX10_keep_43 (pc' := 44) rfl (fun hB => ?_)
          refine a_iinc2 hX (by decide) rfl dX10_keep_44 (pc' := 47) rfl ?_
          refine a_goto hX dX10_keep_47 (tgt := 21) (by decide) ?_
          refine ih (i + 1) _ (by omega) hB (fun j => ?_) (fun a ha => by rw [aU_row ha]; exact hz a ha) (by omega)
          rw [aU_at]
          by_cases e : j = 16 * s + i
          · rw [if_pos e, if_pos (by omega), e, hz 69 (by decide), aU_row (by decide), show 16 * s + i - 16 * s = i by omega]
          · rw [if_neg e, hj]
            by_cases e2 : 16 * s ≤ j ∧ j < 16 * s + i
            · rw [if_pos e2, if_pos (by omega)]
            · rw [if_neg e2, if_neg (by omega)]
    exact L21 17 0 _ (by omega) hB (fun j => by rw [if_neg (by omega), aU_row (by decide)]) (fun _ _ => rfl) (by omega)
  · have c7 := of_decide_eq_false c7
    refine a_iconst hX dX10_keep_10 (pc' := 11) rfl ?_
    refine a_iret hX dX10_keep_11 (hE _ _ _ ?_)
    exact ⟨_, rfl, by rw [if_neg (by omega)], by rw [if_neg (by omega)], hB, rfl⟩

set_option maxHeartbeats 4000000 in
set_option maxRecDepth 100000 in
theorem q_again {G : aG} {Z : aZ} {Y : aY} {s : Int} (hs : -2147483648 ≤ s ∧ s < 2147483648) (hB : aB Z) : aSI G yX10_again cX10_again 3 (some .int) 1 25 [.ref (G.1 62), .int (aI s)] Z Y (fun x Z' Y' => x = (if 0 ≤ s ∧ s < 2 then (if Z 78 s ≠ 0 then Z' 69 15 else -3) else -1) ∧ (if (0 ≤ s ∧ s < 2) ∧ Z 78 s ≠ 0 then Z' 62 22 = 0 ∧ (∀ j : Int, j ≠ 22 → Z' 62 j = Z 62 j) ∧ (∀ j : Int, Z' 69 j = if 0 ≤ j ∧ j < 16 then Z 79 (16 * s + j) else Z 69 j) ∧ (∀ a : Nat, a ≠ 62 → a ≠ 69 → Z' a = Z a) else Z' = Z) ∧ aB Z' ∧ Y' = Y) := by
  refine aS.of (own := RX10) (by decide +kernel) rfl 1 (Nat.le_of_ble_eq_true rfl) (fun X hX hE => ?_)
  show AW X G 0 [some (.ref (G.1 62)), some (.int (aI s)), none] [] Z Y
  refine a_iload_n hX rfl rfl dX10_again_0 (pc' := 1) rfl ?_
  refine a_i2l hX (by omega) dX10_again_1 (pc' := 2) rfl ?_
  refine a_lconst hX (v := 0) rfl dX10_again_2 (pc' := 3) rfl ?_
  refine a_lconst hX (v := 1) rfl dX10_again_3 (pc' := 4) rfl ?_
  refine a_cS3i hX cs_X10_68 (q_in (by omega) (by omega) (by omega)) ⟨by decide, by decide⟩ (Nat.le_of_ble_eq_true rfl) dX10_again_4 (pc' := 7) rfl ?_
  refine a_ifb_ne hX dX10_again_7 (pc' := 10) rfl (tgt := 12) (by decide) (fun c7 => ?_) (fun c7 => ?_)
  · have c7 := of_decide_eq_true c7
    refine a_aload_n hX rfl rfl dX10_again_12 (pc' := 13) rfl ?_
    refine a_getfR hX (r := 78) fl_X10_59 rfl (by decide) rfl dX10_again_13 (pc' := 16) rfl ?_
    refine a_iload_n hX rfl rfl dX10_again_16 (pc' := 17) rfl ?_
    refine a_zald hX rfl (by decide) (by decide) (by omega) hB dX10_again_17 (pc' := 18) rfl (fun hb => ?_)
    refine a_if_ne hX (by omega) dX10_again_18 (pc' := 21) rfl (tgt := 24) (by decide) (fun c18 => ?_) (fun c18 => ?_)
    · refine a_iconst hX dX10_again_24 (pc' := 25) rfl ?_
      refine a_istore2 hX rfl (by decide) rfl dX10_again_25 (pc' := 26) rfl ?_
      have L26 : ∀ (n : Nat) (i : Int) (Z1 : aZ), (0 ≤ i ∧ i ≤ 16) → aB Z1 → (∀ j : Int, Z1 69 j = if 0 ≤ j ∧ j < i then Z 79 (16 * s + j) else Z 69 j) → (∀ a : Nat, a ≠ 69 → Z1 a = Z a) → (16 - i).toNat < n → AW X G 26 [some (.ref (G.1 62)), some (.int (aI s)), some (.int (aI i))] [] Z1 Y := by
        intro n
        induction n with
        | zero =>
          intro i Z1 hi hB hj hz hn
          omega
        | succ n ih =>
          intro i Z1 hi hB hj hz hn
          refine a_iload_n hX rfl rfl dX10_again_26 (pc' := 27) rfl ?_
          refine a_bipush hX rfl dX10_again_27 (pc' := 29) rfl ?_
          refine a_icmp_ge hX (by omega) (by omega) dX10_again_29 (pc' := 32) rfl (tgt := 55) (by decide) (fun c29 => ?_) (fun c29 => ?_)
          · refine a_aload_n hX rfl rfl dX10_again_55 (pc' := 56) rfl ?_
            refine a_iconst hX dX10_again_56 (pc' := 57) rfl ?_
            refine a_putfIB hX fl_X10_111 nf_9_22 (ji := 22) rfl rfl (by decide) rfl hB (by omega) dX10_again_57 (pc' := 60) rfl (fun hB => ?_)
            refine a_aload_n hX rfl rfl dX10_again_60 (pc' := 61) rfl ?_
            refine a_getfR hX (r := 69) fl_X10_28 rfl (by decide) rfl dX10_again_61 (pc' := 64) rfl ?_
            refine a_bipush hX rfl dX10_again_64 (pc' := 66) rfl ?_
            refine a_iald hX rfl (by decide) (by decide) (by omega) hB dX10_again_66 (pc' := 67) rfl (fun hb => ?_)
            refine a_iret hX dX10_again_67 (hE _ _ _ ?_)
            obtain rfl : i = 16 := by omega
            refine ⟨_, rfl, by rw [if_pos (by omega), if_pos (by omega)], ?_, hB, rfl⟩
            rw [if_pos (by omega)]
            exact ⟨aU_eq, fun j h => by rw [aU_nj h, hz 62 (by decide)], fun j => by rw [aU_row (by decide)]; exact hj j, fun a h1 h2 => by rw [aU_row h1, hz a h2]⟩
          · refine a_aload_n hX rfl rfl dX10_again_32 (pc' := 33) rfl ?_
            refine a_getfR hX (r := 69) fl_X10_28 rfl (by decide) rfl dX10_again_33 (pc' := 36) rfl ?_
            refine a_iload_n hX rfl rfl dX10_again_36 (pc' := 37) rfl ?_
            refine a_aload_n hX rfl rfl dX10_again_37 (pc' := 38) rfl ?_
            refine a_getfR hX (r := 79) fl_X10_63 rfl (by decide) rfl dX10_again_38 (pc' := 41) rfl ?_
            refine a_bipush hX rfl dX10_again_41 (pc' := 43) rfl ?_
            refine a_iload_n hX rfl rfl dX10_again_43 (pc' := 44) rfl ?_
            refine a_imul hX dX10_again_44 (pc' := 45) rfl ?_
            refine a_iload_n hX rfl rfl dX10_again_45 (pc' := 46) rfl ?_
            refine a_iadd hX dX10_again_46 (pc' := 47) rfl ?_
            refine a_iald hX rfl (by decide) (by decide) (by omega) hB dX10_again_47 (pc' := 48) rfl (fun hb => ?_)
            refine a_iastB hX rfl (by decide) (by decide) (by omega) hB (by omega) dX10_again_48 (pc' := 49) rfl (fun hB => ?_)
            refine a_iinc2 hX (by decide) rfl dX10_again_49 (pc' := 52) rfl ?_
            refine a_goto hX dX10_again_52 (tgt := 26) (by decide) ?_
            refine ih (i + 1) _ (by omega) hB (fun j => ?_) (fun a ha => by rw [aU_row ha]; exact hz a ha) (by omega)
            rw [aU_at]
            by_cases e : j = i
            · rw [if_pos e, if_pos (by omega), e, hz 79 (by decide), show 16 * s + i = 16 * s + i by omega]
            · rw [if_neg e, hj]
              by_cases e2 : 0 ≤ j ∧ j < i
              · rw [if_pos e2, if_pos (by omega)]
              · rw [if_neg e2, if_neg (by omega)]
      exact L26 17 0 _ (by omega) hB (fun j => by rw [if_neg (by omega)]) (fun _ _ => rfl) (by omega)
    · refine a_bipush hX rfl dX10_again_21 (pc' := 23) rfl ?_
      refine a_iret hX dX10_again_23 (hE _ _ _ ?_)
      exact ⟨_, rfl, by rw [if_pos (by omega), if_neg (by omega)], by rw [if_neg (by omega)], hB, rfl⟩
  · have c7 := of_decide_eq_false c7
    refine a_iconst hX dX10_again_10 (pc' := 11) rfl ?_
    refine a_iret hX dX10_again_11 (hE _ _ _ ?_)
    exact ⟨_, rfl, by rw [if_neg (by omega)], by rw [if_neg (by omega)], hB, rfl⟩

set_option maxHeartbeats 4000000 in
set_option maxRecDepth 100000 in
theorem q_mostBy {G : aG} {Z : aZ} {Y : aY} {m : Int} (hm : 0 ≤ m ∧ m < 16) (h15 : Z 62 20 = 15) (hB : aB Z) (hP : okP (vQ Z)) (hS : okS (vQ Z) (vR Z 0)) (hd : Z 69 15 ≤ 5000) : aSI G yX10_mostBy cX10_mostBy 3 (some .int) 5 121 [.ref (G.1 62), .int (aI m)] Z Y (fun x Z' Y' => x = sFill (vQ Z) (vR Z 0) m ∧ (∀ a : Nat, a ≠ 74 → Z' a = Z a) ∧ aB Z' ∧ Y' = Y) := by
  refine aS.of (own := RX10) (by decide +kernel) rfl 1 (Nat.le_of_ble_eq_true rfl) (fun X hX hE => ?_)
  show AW X G 0 [some (.ref (G.1 62)), some (.int (aI m)), none] [] Z Y
  have hfQ := fQ hP
  have hfR := fR hS
  have hfR1 : 0 ≤ Z 69 15 := hfR.2.2
  have hfR2 : 0 ≤ Z 69 13 ∧ Z 69 13 < 32 := hfR.1
  refine a_aload_n hX rfl rfl dX10_mostBy_0 (pc' := 1) rfl ?_
  refine a_iload_n hX rfl rfl dX10_mostBy_1 (pc' := 2) rfl ?_
  refine a_putfIB hX fl_X10_43 nf_9_20 (ji := 20) rfl rfl (by decide) rfl hB (by omega) dX10_mostBy_2 (pc' := 5) rfl (fun hB => ?_)
  refine a_aload_n hX rfl rfl dX10_mostBy_5 (pc' := 6) rfl ?_
  refine a_iconst hX dX10_mostBy_6 (pc' := 7) rfl ?_
  have eP : vQ (aU Z 62 20 m) = vQ Z := vQ_eq2 (aU_nj (by decide)) (aU_nj (by decide)) (aU_nj (by decide)) (fun a ha => aU_row (by omega))
  have eS : vR (aU Z 62 20 m) 0 = vR Z 0 := vR_eq 0 (aU_nj (by decide)) (aU_row (by decide))
  have hP1 : okP (vQ (aU Z 62 20 m)) := by rw [eP]; exact hP
  have hS1 : okS (vQ (aU Z 62 20 m)) (vR (aU Z 62 20 m) 0) := by rw [eP, eS]; exact hS
  have hd1 : (aU Z 62 20 m) 69 15 ≤ 5000 := by rw [aU_row (by decide)]; exact hd
  refine a_cV1I hX cv_X10_197 (q_mostOn (by rw [aU_eq]; exact hm) (by omega) hB hP1 hS1 hd1) rfl (by decide) ⟨by decide, by decide⟩ (Nat.le_of_ble_eq_true rfl) dX10_mostBy_7 (pc' := 10) rfl (fun x7 Z7 Y7 h7 => ?_)
  obtain ⟨e7, z7, hB, rfl⟩ := h7
  rw [aU_eq, eP, eS, rMost_eq hm.1] at e7
  refine a_istore2 hX rfl (by decide) rfl dX10_mostBy_10 (pc' := 11) rfl ?_
  refine a_aload_n hX rfl rfl dX10_mostBy_11 (pc' := 12) rfl ?_
  refine a_bipush hX rfl dX10_mostBy_12 (pc' := 14) rfl ?_
  refine a_putfIB hX fl_X10_43 nf_9_20 (ji := 20) rfl rfl (by decide) rfl hB (by omega) dX10_mostBy_14 (pc' := 17) rfl (fun hB => ?_)
  refine a_iload_n hX rfl rfl dX10_mostBy_17 (pc' := 18) rfl ?_
  refine a_iret hX dX10_mostBy_18 (hE _ _ _ ?_)
  refine ⟨_, rfl, e7, fun a ha => ?_, hB, rfl⟩
  by_cases e : a = 62
  · subst e
    funext j
    rw [aU_at]
    by_cases e2 : j = 20
    · rw [if_pos e2, e2, h15]
    · rw [if_neg e2, z7 62 (by decide), aU_nj e2]
  · rw [aU_row e, z7 a ha, aU_row e]

set_option maxHeartbeats 4000000 in
set_option maxRecDepth 100000 in
theorem q_share {G : aG} {Z : aZ} {Y : aY} {c : Int} {u : Bool} (hc : -2147483648 ≤ c ∧ c < 2147483648) (h15 : Z 62 20 = 15) (hB : aB Z) (hP : okP (vQ Z)) (hS : okS (vQ Z) (vR Z 0)) (hd : Z 69 15 ≤ 5000) : aSI G yX10_share cX10_share 6 (some .int) 6 143 [.ref (G.1 62), .int (aI c), .int (aI (aTr u))] Z Y (fun x Z' Y' => x = (if pHasC (vQ Z) c = true then sFrac (sGain (vQ Z) (vR Z 0) c) (aFac (vQ Z 0 1).toNat) u else -1) ∧ (∀ a : Nat, a ≠ 74 → Z' a = Z a) ∧ aB Z' ∧ Y' = Y) := by
  refine aS.of (own := RX10) (by decide +kernel) rfl 3 (Nat.le_of_ble_eq_true rfl) (fun X hX hE => ?_)
  show AW X G 0 [some (.ref (G.1 62)), some (.int (aI c)), some (.int (aI (aTr u))), none, none, none] [] Z Y
  have hfQ := fQ hP
  have hfR := fR hS
  have hfR1 : 0 ≤ Z 69 15 := hfR.2.2
  have hfR2 : 0 ≤ Z 69 13 ∧ Z 69 13 < 32 := hfR.1
  refine a_aload_n hX rfl rfl dX10_share_0 (pc' := 1) rfl ?_
  refine a_iload_n hX rfl rfl dX10_share_1 (pc' := 2) rfl ?_
  refine a_cV1i hX cv_X10_118 (q_isCloud (by omega) hB hP) rfl (by decide) ⟨by decide, by decide⟩ (Nat.le_of_ble_eq_true rfl) dX10_share_2 (pc' := 5) rfl ?_
  refine a_ifb_ne hX dX10_share_5 (pc' := 8) rfl (tgt := 10) (by decide) (fun c5 => ?_) (fun c5 => ?_)
  · have hc1 := qHasC_no c5
    refine a_iconst hX dX10_share_10 (pc' := 11) rfl ?_
    refine a_istore3 hX rfl (by decide) rfl dX10_share_11 (pc' := 12) rfl ?_
    refine a_iconst hX dX10_share_12 (pc' := 13) rfl ?_
    refine a_istore4 hX (by decide) rfl dX10_share_13 (pc' := 15) rfl ?_
    have L15 : ∀ (n : Nat) (s : Int) (Z1 : aZ), (0 ≤ s ∧ s ≤ 2 ^ (Z 62 1).toNat) → aB Z1 → (∀ a : Nat, a ≠ 74 → Z1 a = Z a) → (2 ^ (Z 62 1).toNat - s).toNat < n → AW X G 15 [some (.ref (G.1 62)), some (.int (aI c)), some (.int (aI (aTr u))), some (.int (aI (aSum (fun s => if aBit s c = true then 0 else aFac (aPop s).toNat * aFac (((vQ Z 0 1).toNat : Int) - 1 - aPop s).toNat * (sFill (vQ Z) (vR Z 0) (aOr s (2 ^ c.toNat)) - sFill (vQ Z) (vR Z 0) s)) s.toNat))), some (.int (aI s)), none] [] Z1 Y := by
      intro n
      induction n with
      | zero =>
        intro s Z1 hs hB hz1 hn
        omega
      | succ n ih =>
        intro s Z1 hs hB hz1 hn
        have f62 : Z1 62 = Z 62 := hz1 62 (by omega)
        have f621 : Z1 62 1 = Z 62 1 := by rw [f62]
        have eQ1 : vQ Z1 = vQ Z := vQ_eq (fun a ha => hz1 a (by omega))
        have eR1 : vR Z1 0 = vR Z 0 := vR_eq 0 (by rw [f62]) (hz1 69 (by omega))
        have hP1 : okP (vQ Z1) := by rw [eQ1]; exact hP
        have hS1 : okS (vQ Z1) (vR Z1 0) := by rw [eQ1, eR1]; exact hS
        have hd1 : Z1 69 15 ≤ 5000 := by rw [hz1 69 (by omega)]; exact hd
        have h151 : Z1 62 20 = 15 := by rw [f62]; exact h15
        have htw := aTwo4 (n := (Z 62 1).toNat) (by omega)
        have hts := aPow_pos (Z 62 1).toNat
        refine a_iload hX rfl dX10_share_15 (pc' := 17) rfl ?_
        refine a_iconst hX dX10_share_17 (pc' := 18) rfl ?_
        refine a_aload_n hX rfl rfl dX10_share_18 (pc' := 19) rfl ?_
        refine a_getfI hX (ji := 1) rfl hB fl_X10_105 rfl (by decide) rfl dX10_share_19 (pc' := 22) rfl (fun hb => ?_)
        rw [f621]
        refine a_ishl hX (by omega) (by omega) (by omega) dX10_share_22 (pc' := 23) rfl ?_
        refine a_icmp_ge hX (by omega) (by omega) dX10_share_23 (pc' := 26) rfl (tgt := 90) (by decide) (fun c23 => ?_) (fun c23 => ?_)
        · rw [aTwo] at c23
          have es : s = 2 ^ (Z 62 1).toNat := by omega
          have eG : aSum (fun s => if aBit s c = true then 0 else aFac (aPop s).toNat * aFac (((vQ Z 0 1).toNat : Int) - 1 - aPop s).toNat * (sFill (vQ Z) (vR Z 0) (aOr s (2 ^ c.toNat)) - sFill (vQ Z) (vR Z 0) s)) s.toNat = sGain (vQ Z) (vR Z 0) c := by
            have e2 : s.toNat = 2 ^ (vQ Z 0 1).toNat := by
              rw [vQ_1]
              have e : ((2 : Int) ^ (Z 62 1).toNat) = ((2 ^ (Z 62 1).toNat : Nat) : Int) := by simp
              rw [e] at es
              omega
            rw [e2]
            rfl
          have hGr : 0 ≤ sGain (vQ Z) (vR Z 0) c ∧ sGain (vQ Z) (vR Z 0) c ≤ 1000000 := vGain_rng (by rw [vQ_1]; omega) (by rw [vQ_2]; omega) (fun c hc => sHas_rng hS (by rw [vQ_1] at hc; omega)) (fun c hc => (sServs_rng hP _ c _).1) (fun p hp => sOwed_rng hP hS (by rw [vQ_2] at hp; omega)) c
          have hFr := aFac_rng (n := Z 62 1) (by omega)
          have hg := aGcd_pos (a := sGain (vQ Z) (vR Z 0) c) (b := aFac (Z 62 1).toNat) (by omega)
          have hg2 := aGcd_le (a := sGain (vQ Z) (vR Z 0) c) (b := aFac (Z 62 1).toNat) (by omega)
          refine a_iload_n hX rfl rfl dX10_share_90 (pc' := 91) rfl ?_
          refine a_aload_n hX rfl rfl dX10_share_91 (pc' := 92) rfl ?_
          refine a_getfI hX (ji := 1) rfl hB fl_X10_105 rfl (by decide) rfl dX10_share_92 (pc' := 95) rfl (fun hb => ?_)
          refine a_cS1i hX cs_X10_229 (q_factorial (by rw [f621]; omega)) ⟨by decide, by decide⟩ (Nat.le_of_ble_eq_true rfl) dX10_share_95 (pc' := 98) rfl ?_
          refine a_cS2i hX cs_X10_235 (q_common (by rw [eG]; omega) (by rw [f621]; omega)) ⟨by decide, by decide⟩ (Nat.le_of_ble_eq_true rfl) dX10_share_98 (pc' := 101) rfl ?_
          rw [eG, f621]
          refine a_istore4 hX (by decide) rfl dX10_share_101 (pc' := 103) rfl ?_
          refine a_iload_n hX rfl rfl dX10_share_103 (pc' := 104) rfl ?_
          refine a_ifb_eq hX dX10_share_104 (pc' := 107) rfl (tgt := 114) (by decide) (fun c104 => ?_) (fun c104 => ?_)
          · refine a_aload_n hX rfl rfl dX10_share_114 (pc' := 115) rfl ?_
            refine a_getfI hX (ji := 1) rfl hB fl_X10_105 rfl (by decide) rfl dX10_share_115 (pc' := 118) rfl (fun hb => ?_)
            refine a_cS1i hX cs_X10_229 (q_factorial (by rw [f621]; omega)) ⟨by decide, by decide⟩ (Nat.le_of_ble_eq_true rfl) dX10_share_118 (pc' := 121) rfl ?_
            rw [f621]
            refine a_iload hX rfl dX10_share_121 (pc' := 123) rfl ?_
            refine a_idiv hX (by omega) (by omega) dX10_share_123 (pc' := 124) rfl ?_
            refine a_iret hX dX10_share_124 (hE _ _ _ ?_)
            refine ⟨_, rfl, ?_, hz1, hB, rfl⟩
            rw [c5, if_pos rfl, vQ_1]
            unfold sFrac
            first | rw [if_pos c104] | rw [if_neg (by rw [c104]; decide)]
          · refine a_iload_n hX rfl rfl dX10_share_107 (pc' := 108) rfl ?_
            refine a_iload hX rfl dX10_share_108 (pc' := 110) rfl ?_
            refine a_idiv hX (by omega) (by omega) dX10_share_110 (pc' := 111) rfl ?_
            refine a_goto hX dX10_share_111 (tgt := 124) (by decide) ?_
            refine a_iret hX dX10_share_124 (hE _ _ _ ?_)
            refine ⟨_, rfl, ?_, hz1, hB, rfl⟩
            rw [c5, if_pos rfl, vQ_1]
            unfold sFrac
            first | rw [if_pos c104] | rw [if_neg (by rw [c104]; decide)]
        · rw [aTwo] at c23
          have hpr := aPop_rng (x := s) (by omega)
          refine a_iload hX rfl dX10_share_26 (pc' := 28) rfl ?_
          refine a_iload_n hX rfl rfl dX10_share_28 (pc' := 29) rfl ?_
          refine a_cS2i hX cs_X10_114 (q_has (by omega) (by omega)) ⟨by decide, by decide⟩ (Nat.le_of_ble_eq_true rfl) dX10_share_29 (pc' := 32) rfl ?_
          refine a_ifb_ne hX dX10_share_32 (pc' := 35) rfl (tgt := 84) (by decide) (fun c32 => ?_) (fun c32 => ?_)
          · refine a_iinc4 hX (by decide) rfl dX10_share_84 (pc' := 87) rfl ?_
            refine a_goto hX dX10_share_87 (tgt := 15) (by decide) ?_
            first
              | (have H := ih (s + 1) Z77 (by omega) hB (fun a ha => by rw [z77 a ha, z71 a ha, hz1 a ha]) (by omega)
                 have e1 : aSum (fun s => if aBit s c = true then 0 else aFac (aPop s).toNat * aFac (((vQ Z 0 1).toNat : Int) - 1 - aPop s).toNat * (sFill (vQ Z) (vR Z 0) (aOr s (2 ^ c.toNat)) - sFill (vQ Z) (vR Z 0) s)) (s + 1).toNat = aSum (fun s => if aBit s c = true then 0 else aFac (aPop s).toNat * aFac (((vQ Z 0 1).toNat : Int) - 1 - aPop s).toNat * (sFill (vQ Z) (vR Z 0) (aOr s (2 ^ c.toNat)) - sFill (vQ Z) (vR Z 0) s)) s.toNat + aFac (aPop s).toNat * aFac (Z 62 1 - 1 - aPop s).toNat * (sFill (vQ Z) (vR Z 0) (aOr s (2 ^ c.toNat)) - sFill (vQ Z) (vR Z 0) s) := by
                   rw [aSum_s (by omega), if_neg (show ¬ aBit s c = true by rw [c32]; decide), vQ_1, Int.toNat_of_nonneg (show 0 ≤ Z 62 1 by omega)]
                 rw [e1] at H
                 refine AW.le ?_ H
                 exact ⟨rfl, rfl, rfl, rfl, rfl, trivial⟩)
              | (have H := ih (s + 1) Z1 (by omega) hB hz1 (by omega)
                 rw [aSum_s (by omega), if_pos c32, Int.add_zero] at H
                 exact H)
          · have hpl := aPop_lt (n := Z 62 1) (s := s) (c := c) (by omega) (by omega) (by omega) c32
            have hob := aOr_bit (n := Z 62 1) (s := s) (c := c) (by omega) (by omega) (by omega)
            have hpc := aPow2 (p := c) (by omega)
            refine a_iload hX rfl dX10_share_35 (pc' := 37) rfl ?_
            refine a_cS1i hX cs_X10_226 (q_ones (by omega)) ⟨by decide, by decide⟩ (Nat.le_of_ble_eq_true rfl) dX10_share_37 (pc' := 40) rfl ?_
            refine a_cS1i hX cs_X10_229 (q_factorial (by omega)) ⟨by decide, by decide⟩ (Nat.le_of_ble_eq_true rfl) dX10_share_40 (pc' := 43) rfl ?_
            refine a_aload_n hX rfl rfl dX10_share_43 (pc' := 44) rfl ?_
            refine a_getfI hX (ji := 1) rfl hB fl_X10_105 rfl (by decide) rfl dX10_share_44 (pc' := 47) rfl (fun hb => ?_)
            rw [f621]
            refine a_iconst hX dX10_share_47 (pc' := 48) rfl ?_
            refine a_isub hX dX10_share_48 (pc' := 49) rfl ?_
            refine a_iload hX rfl dX10_share_49 (pc' := 51) rfl ?_
            refine a_cS1i hX cs_X10_226 (q_ones (by omega)) ⟨by decide, by decide⟩ (Nat.le_of_ble_eq_true rfl) dX10_share_51 (pc' := 54) rfl ?_
            refine a_isub hX dX10_share_54 (pc' := 55) rfl ?_
            refine a_cS1i hX cs_X10_229 (q_factorial (by omega)) ⟨by decide, by decide⟩ (Nat.le_of_ble_eq_true rfl) dX10_share_55 (pc' := 58) rfl ?_
            refine a_imul hX dX10_share_58 (pc' := 59) rfl ?_
            refine a_istore5 hX (by decide) rfl dX10_share_59 (pc' := 61) rfl ?_
            refine a_iload_n hX rfl rfl dX10_share_61 (pc' := 62) rfl ?_
            refine a_iload hX rfl dX10_share_62 (pc' := 64) rfl ?_
            refine a_aload_n hX rfl rfl dX10_share_64 (pc' := 65) rfl ?_
            refine a_iload hX rfl dX10_share_65 (pc' := 67) rfl ?_
            refine a_iconst hX dX10_share_67 (pc' := 68) rfl ?_
            refine a_iload_n hX rfl rfl dX10_share_68 (pc' := 69) rfl ?_
            refine a_ishl hX (by omega) (by omega) (by omega) dX10_share_69 (pc' := 70) rfl ?_
            refine a_ior hX (by omega) (by omega) dX10_share_70 (pc' := 71) rfl ?_
            rw [aTwo]
            refine a_cV1I hX cv_X10_232 (q_mostBy (by omega) h151 hB hP1 hS1 hd1) rfl (by decide) ⟨by decide, by decide⟩ (Nat.le_of_ble_eq_true rfl) dX10_share_71 (pc' := 74) rfl (fun x71 Z71 Y71 h71 => ?_)
            obtain ⟨e71, z71, hB, rfl⟩ := h71
            rw [eQ1, eR1] at e71
            have z71b : ∀ a : Nat, a ≠ 74 → Z71 a = Z a := fun a ha => by rw [z71 a ha, hz1 a ha]
            have eQ2 : vQ Z71 = vQ Z := vQ_eq (fun a ha => z71b a (by omega))
            have eR2 : vR Z71 0 = vR Z 0 := vR_eq 0 (by rw [z71b 62 (by decide)]) (z71b 69 (by decide))
            have hP2 : okP (vQ Z71) := by rw [eQ2]; exact hP
            have hS2 : okS (vQ Z71) (vR Z71 0) := by rw [eQ2, eR2]; exact hS
            have hd2 : Z71 69 15 ≤ 5000 := by rw [z71b 69 (by omega)]; exact hd
            have h152 : Z71 62 20 = 15 := by rw [z71b 62 (by decide)]; exact h15
            refine a_aload_n hX rfl rfl dX10_share_74 (pc' := 75) rfl ?_
            refine a_iload hX rfl dX10_share_75 (pc' := 77) rfl ?_
            refine a_cV1I hX cv_X10_232 (q_mostBy (by omega) h152 hB hP2 hS2 hd2) rfl (by decide) ⟨by decide, by decide⟩ (Nat.le_of_ble_eq_true rfl) dX10_share_77 (pc' := 80) rfl (fun x77 Z77 Y77 h77 => ?_)
            obtain ⟨e77, z77, hB, rfl⟩ := h77
            rw [eQ2, eR2] at e77
            rw [e71, e77]
            refine a_isub hX dX10_share_80 (pc' := 81) rfl ?_
            refine a_imul hX dX10_share_81 (pc' := 82) rfl ?_
            refine a_iadd hX dX10_share_82 (pc' := 83) rfl ?_
            refine a_istore3 hX rfl (by decide) rfl dX10_share_83 (pc' := 84) rfl ?_
            refine a_iinc4 hX (by decide) rfl dX10_share_84 (pc' := 87) rfl ?_
            refine a_goto hX dX10_share_87 (tgt := 15) (by decide) ?_
            first
              | (have H := ih (s + 1) Z77 (by omega) hB (fun a ha => by rw [z77 a ha, z71 a ha, hz1 a ha]) (by omega)
                 have e1 : aSum (fun s => if aBit s c = true then 0 else aFac (aPop s).toNat * aFac (((vQ Z 0 1).toNat : Int) - 1 - aPop s).toNat * (sFill (vQ Z) (vR Z 0) (aOr s (2 ^ c.toNat)) - sFill (vQ Z) (vR Z 0) s)) (s + 1).toNat = aSum (fun s => if aBit s c = true then 0 else aFac (aPop s).toNat * aFac (((vQ Z 0 1).toNat : Int) - 1 - aPop s).toNat * (sFill (vQ Z) (vR Z 0) (aOr s (2 ^ c.toNat)) - sFill (vQ Z) (vR Z 0) s)) s.toNat + aFac (aPop s).toNat * aFac (Z 62 1 - 1 - aPop s).toNat * (sFill (vQ Z) (vR Z 0) (aOr s (2 ^ c.toNat)) - sFill (vQ Z) (vR Z 0) s) := by
                   rw [aSum_s (by omega), if_neg (show ¬ aBit s c = true by rw [c32]; decide), vQ_1, Int.toNat_of_nonneg (show 0 ≤ Z 62 1 by omega)]
                 rw [e1] at H
                 refine AW.le ?_ H
                 exact ⟨rfl, rfl, rfl, rfl, rfl, trivial⟩)
              | (have H := ih (s + 1) Z1 (by omega) hB hz1 (by omega)
                 rw [aSum_s (by omega), if_pos c32, Int.add_zero] at H
                 exact H)
    have htw := aTwo4 (n := (Z 62 1).toNat) (by omega)
    have hts := aPow_pos (Z 62 1).toNat
    exact L15 17 0 Z (by omega) hB (fun _ _ => rfl) (by omega)
  · refine a_iconst hX dX10_share_8 (pc' := 9) rfl ?_
    refine a_iret hX dX10_share_9 (hE _ _ _ ?_)
    exact ⟨_, rfl, by rw [c5]; rfl, fun _ _ => rfl, hB, rfl⟩

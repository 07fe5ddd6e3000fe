theorem okS_play {P : aP} {S : aSk} (hP : okP P) (h : okS P S) (d : Int) (hd : 0 ≤ d ∧ d < 28) : okS P (sPlay P S d) := by
  have h4 := hP.2.1
  have h5 := hP.2.2.1
  unfold sPlay
  split
  · exact okS_day hP h
  · split
    · rename_i h0 hb
      simp only [Bool.and_eq_true] at hb
      have hc := of_decide_eq_true hb.1.1
      have hp := of_decide_eq_true hb.1.2
      have ht := sCan_takes hb.2
      exact okS_drop h (by omega) (by omega) ht.1 ht.2
    · exact h

set_option maxHeartbeats 4000000 in
set_option maxRecDepth 100000 in
theorem q_seasons {G : aG} {Z : aZ} {Y : aY} {m : Int} (hm : -2147483648 ≤ m ∧ m < 2147483648) (hz : oz (vQ Z) (vR Z 0)) (hd4 : Z 69 15 ≤ 4000) (hB : aB Z) (hP : okP (vQ Z)) (hS : okS (vQ Z) (vR Z 0)) (hd : Z 69 15 ≤ 5000) : aSI G yX10_seasons cX10_seasons 5 (some .int) 3 73 [.ref (G.1 62), .int (aI m)] Z Y (fun x Z' Y' => x = (if 1 ≤ m ∧ m ≤ 30 then qTog (vQ Z) (vR Z 0) (Y 62) m.toNat else -2) ∧ Y' 62 = (if 1 ≤ m ∧ m ≤ 30 then qLot (Y 62) m.toNat else Y 62) ∧ (∀ k : Nat, k ≠ 62 → Y' k = Y k) ∧ qTr Z Z' ∧ aB Z') := by
  refine aS.of (own := RX10) (by decide +kernel) rfl 3 (Nat.le_of_ble_eq_true rfl) (fun X hX hE => ?_)
  show AW X G 0 [some (.ref (G.1 62)), some (.int (aI m)), none, none, none] [] Z Y
  have hfQ := fQ hP
  have hfR := fR hS
  have hfR1 : 0 ≤ Z 69 15 := hfR.2.2
  have hfR2 : 0 ≤ Z 69 13 ∧ Z 69 13 < 32 := hfR.1
  refine a_iload_n hX rfl rfl dX10_seasons_0 (pc' := 1) rfl ?_
  refine a_i2l hX (by omega) dX10_seasons_1 (pc' := 2) rfl ?_
  refine a_lconst hX (v := 1) rfl dX10_seasons_2 (pc' := 3) rfl ?_
  refine a_ldc2J hX (z := 30) w_1156 (by decide) dX10_seasons_3 (pc' := 6) rfl ?_
  refine a_cS3i hX cs_X10_68 (q_in (by omega) (by omega) (by omega)) ⟨by decide, by decide⟩ (Nat.le_of_ble_eq_true rfl) dX10_seasons_6 (pc' := 9) rfl ?_
  refine a_ifb_ne hX dX10_seasons_9 (pc' := 12) rfl (tgt := 15) (by decide) (fun c9 => ?_) (fun c9 => ?_)
  · have c9 := of_decide_eq_true c9
    refine a_aload_n hX rfl rfl dX10_seasons_15 (pc' := 16) rfl ?_
    refine a_cV0V hX cv_X10_191 (q_layTrial hB) rfl (by decide) ⟨by decide, by decide⟩ (Nat.le_of_ble_eq_true rfl) dX10_seasons_16 (pc' := 19) rfl (fun Z16 Y16 h16 => ?_)
    obtain ⟨u1, u2, u3, hB, eY16⟩ := h16
    rw [eY16]
    have eP : vQ Z16 = vQ Z := vQ_eq (fun a ha => u3 a (by omega))
    have hP1 : okP (vQ Z16) := by rw [eP]; exact hP
    have hS1 : okS (vQ Z16) (vR Z16 1) := by rw [eP, u1]; exact hS
    have hd1 : Z16 69 31 ≤ 4000 := by rw [u2, if_pos (by omega)]; exact hd4
    refine a_iconst hX dX10_seasons_19 (pc' := 20) rfl ?_
    refine a_istore2 hX rfl (by decide) rfl dX10_seasons_20 (pc' := 21) rfl ?_
    refine a_iconst hX dX10_seasons_21 (pc' := 22) rfl ?_
    refine a_istore3 hX rfl (by decide) rfl dX10_seasons_22 (pc' := 23) rfl ?_
    have L23 : ∀ (n : Nat) (i : Int) (Z2 : aZ) (Y2 : aY), (0 ≤ i ∧ i ≤ m) → aB Z2 → vR Z2 1 = (qSk (vQ Z) (vR Z 0) (Y 62) i.toNat) → okS (vQ Z) (vR Z2 1) → oz (vQ Z) (vR Z2 1) → Z2 69 31 ≤ 4000 + i → Y2 62 = qLot (Y 62) i.toNat → (∀ k : Nat, k ≠ 62 → Y2 k = Y k) → qTr Z Z2 → (m - i).toNat < n → AW X G 23 [some (.ref (G.1 62)), some (.int (aI m)), some (.int (aI (qTog (vQ Z) (vR Z 0) (Y 62) i.toNat))), some (.int (aI i)), none] [] Z2 Y2 := by
      intro n
      induction n with
      | zero =>
        intro i Z2 Y2 hi hB hk ho hoz hd2 hy hyf hz2 hn
        omega
      | succ n ih =>
        intro i Z2 Y2 hi hB hk ho hoz hd2 hy hyf hz2 hn
        refine a_iload_n hX rfl rfl dX10_seasons_23 (pc' := 24) rfl ?_
        refine a_iload_n hX rfl rfl dX10_seasons_24 (pc' := 25) rfl ?_
        refine a_icmp_ge hX (by omega) (by omega) dX10_seasons_25 (pc' := 28) rfl (tgt := 126) (by decide) (fun c25 => ?_) (fun c25 => ?_)
        · refine a_iload_n hX rfl rfl dX10_seasons_126 (pc' := 127) rfl ?_
          refine a_iret hX dX10_seasons_127 (hE _ _ _ ?_)
          obtain rfl : i = m := by omega
          exact ⟨_, rfl, by rw [if_pos (by omega)], by rw [if_pos (by omega), hy], hyf, hz2, hB⟩
        · refine a_aload_n hX rfl rfl dX10_seasons_28 (pc' := 29) rfl ?_
          refine a_aload_n hX rfl rfl dX10_seasons_29 (pc' := 30) rfl ?_
          refine a_getfJ hX fl_X10_253 rfl (by decide) rfl dX10_seasons_30 (pc' := 33) rfl ?_
          refine a_ldc2J hX (z := 6364136223846793005) w_1157 (by decide) dX10_seasons_33 (pc' := 36) rfl ?_
          refine a_lmul hX dX10_seasons_36 (pc' := 37) rfl ?_
          refine a_ldc2J hX (z := 1442695040888963407) w_1158 (by decide) dX10_seasons_37 (pc' := 40) rfl ?_
          refine a_ladd hX dX10_seasons_40 (pc' := 41) rfl ?_
          refine a_putfJ hX fl_X10_253 nf_9_28 rfl (by decide) (fun i => by match i with | 0 => decide | 1 => decide | 2 => decide | 3 => decide | 4 => decide | 5 => decide | 6 => decide | 7 => decide | 8 => decide | 9 => decide | 10 => decide | 11 => decide | 12 => decide | 13 => decide | 14 => decide | 15 => decide | 16 => decide | 17 => decide | 18 => decide | 19 => decide | 20 => decide | 21 => decide | 22 => decide | 23 => decide | 24 => decide | 25 => decide | 26 => decide | 27 => decide | 28 => decide | 29 => decide | 30 => decide | n + 31 => simp) dX10_seasons_41 (pc' := 44) rfl ?_
          refine a_aload_n hX rfl rfl dX10_seasons_44 (pc' := 45) rfl ?_
          refine a_getfJ hX fl_X10_253 rfl (by decide) rfl dX10_seasons_45 (pc' := 48) rfl ?_
          refine a_bipush hX rfl dX10_seasons_48 (pc' := 50) rfl ?_
          refine a_lushr33 hX dX10_seasons_50 (pc' := 51) rfl ?_
          refine a_ldc2J hX (z := 28) w_1159 (by decide) dX10_seasons_51 (pc' := 54) rfl ?_
          refine a_lrem hX (by have := jTop_rng (aUy Y2 62 (Y2 62 * aJ 6364136223846793005 + aJ 1442695040888963407) 62); omega) (by omega) dX10_seasons_54 (pc' := 55) rfl ?_
          refine a_l2i hX dX10_seasons_55 (pc' := 56) rfl ?_
          have eV : aUy Y2 62 (Y2 62 * aJ 6364136223846793005 + aJ 1442695040888963407) 62 = qNext (qLot (Y 62) i.toNat) := by
            show (if (62 : Nat) = 62 then Y2 62 * aJ 6364136223846793005 + aJ 1442695040888963407 else Y2 62) = _
            rw [if_pos rfl, hy]; rfl
          rw [eV]
          have hdd : 0 ≤ jTop (qNext (qLot (Y 62) i.toNat)) % 28 ∧ jTop (qNext (qLot (Y 62) i.toNat)) % 28 < 28 := by omega
          have hq : ∀ (P : aP) (S : aSk), sPlay P S (jTop (qLot (Y 62) (i + 1).toNat) % 28) = sPlay P S (jTop (qNext (qLot (Y 62) i.toNat)) % 28) := fun P S => by rw [show (i + 1).toNat = i.toNat + 1 by omega]; rfl
          generalize jTop (qNext (qLot (Y 62) i.toNat)) % 28 = d9 at hdd hq ⊢
          have eQ2 : vQ Z2 = vQ Z := vQ_eq (fun a ha => hz2.1 a (by omega))
          have hP2 : okP (vQ Z2) := by rw [eQ2]; exact hP
          have hS2 : okS (vQ Z2) (vR Z2 1) := by rw [eQ2]; exact ho
          have hd9 : Z2 69 31 ≤ 5000 := by omega
          refine a_istore4 hX (by decide) rfl dX10_seasons_56 (pc' := 58) rfl ?_
          have J104 : ∀ (ZN : aZ) (YN : aY), aB ZN → vR ZN 1 = sPlay (vQ Z) (qSk (vQ Z) (vR Z 0) (Y 62) i.toNat) (d9) → vQ ZN = vQ Z → qTr Z ZN → YN = aUy Y2 62 (Y2 62 * aJ 6364136223846793005 + aJ 1442695040888963407) → AW X G 104 [some (.ref (G.1 62)), some (.int (aI m)), some (.int (aI (qTog (vQ Z) (vR Z 0) (Y 62) i.toNat))), some (.int (aI i)), none] [] ZN YN := by
            intro ZN YN hB gP eQN tN eYN
            have gO : okS (vQ Z) (sPlay (vQ Z) (qSk (vQ Z) (vR Z 0) (Y 62) i.toNat) (d9)) := okS_play hP (by rw [← hk]; exact ho) _ hdd
            have gZ : oz (vQ Z) (sPlay (vQ Z) (qSk (vQ Z) (vR Z 0) (Y 62) i.toNat) (d9)) := oz_play hP (by rw [← hk]; exact hoz) _
            have hPN : okP (vQ ZN) := by rw [eQN]; exact hP
            have hSN : okS (vQ ZN) (vR ZN 1) := by rw [eQN, gP]; exact gO
            have hdN : ZN 69 31 ≤ 5000 := by
              have e15 := sPlay_15 hP (qSk (vQ Z) (vR Z 0) (Y 62) i.toNat) hdd
              have e16 := congrFun hk 15
              have e17 := congrFun gP 15
              rw [vR_hi (by omega)] at e16 e17
              have e18 : ZN 69 31 = ZN 69 (16 * 1 + 15) := rfl
              have e19 : Z2 69 31 = Z2 69 (16 * 1 + 15) := rfl
              omega
            refine a_iload_n hX rfl rfl dX10_seasons_104 (pc' := 105) rfl ?_
            refine a_aload_n hX rfl rfl dX10_seasons_105 (pc' := 106) rfl ?_
            refine a_iconst hX dX10_seasons_106 (pc' := 107) rfl ?_
            refine a_cV1i hX cv_X10_265 (q_filledInAll (by omega) hB hPN hSN (show ZN 69 (16 * 1 + 15) ≤ 5000 from hdN)) rfl (by decide) ⟨by decide, by decide⟩ (Nat.le_of_ble_eq_true rfl) dX10_seasons_107 (pc' := 110) rfl ?_
            refine a_aload_n hX rfl rfl dX10_seasons_110 (pc' := 111) rfl ?_
            refine a_getfR hX (r := 69) fl_X10_28 rfl (by decide) rfl dX10_seasons_111 (pc' := 114) rfl ?_
            refine a_bipush hX rfl dX10_seasons_114 (pc' := 116) rfl ?_
            refine a_iald hX rfl (by decide) (by decide) (by omega) hB dX10_seasons_116 (pc' := 117) rfl (fun hb => ?_)
            refine a_iadd hX dX10_seasons_117 (pc' := 118) rfl ?_
            refine a_iadd hX dX10_seasons_118 (pc' := 119) rfl ?_
            refine a_istore2 hX rfl (by decide) rfl dX10_seasons_119 (pc' := 120) rfl ?_
            refine a_iinc3 hX (by decide) rfl dX10_seasons_120 (pc' := 123) rfl ?_
            refine a_goto hX dX10_seasons_123 (tgt := 23) (by decide) ?_
            have eS : (i + 1).toNat = i.toNat + 1 := by omega
            have e15 := sPlay_15 hP (qSk (vQ Z) (vR Z 0) (Y 62) i.toNat) hdd
            have e16 := congrFun hk 15
            have e17 := congrFun gP 15
            rw [vR_hi (by omega)] at e16 e17
            have e18 : ZN 69 31 = ZN 69 (16 * 1 + 15) := rfl
            have e19 : Z2 69 31 = Z2 69 (16 * 1 + 15) := rfl
            have e14 := congrFun gP 14
            rw [vR_hi (by omega)] at e14
            have e20 : ZN 69 30 = ZN 69 (16 * 1 + 14) := rfl
            have eV2 : qNext (qLot (Y 62) i.toNat) = qLot (Y 62) (i + 1).toNat := by rw [eS]; rfl
            have H := ih (i + 1) ZN YN (by omega) hB (by rw [gP, ← hq, eS]; rfl) (by rw [gP]; exact gO) (by rw [gP]; exact gZ) (by omega) (by rw [eYN, eV, eV2]) (fun k hk9 => by rw [eYN]; show (if k = 62 then _ else Y2 k) = _; rw [if_neg hk9]; exact hyf k hk9) tN (by omega)
            rw [eQN, gP, ← sFilled_oz hP gZ, e20, e14, ← hq]
            rw [eS] at H ⊢
            refine AW.le ?_ H
            exact ⟨rfl, rfl, rfl, rfl, trivial⟩
          refine a_iload hX rfl dX10_seasons_58 (pc' := 60) rfl ?_
          refine a_bipush hX rfl dX10_seasons_60 (pc' := 62) rfl ?_
          refine a_icmp_le hX (by omega) (by omega) dX10_seasons_62 (pc' := 65) rfl (tgt := 75) (by decide) (fun c62 => ?_) (fun c62 => ?_)
          · refine a_aload_n hX rfl rfl dX10_seasons_75 (pc' := 76) rfl ?_
            refine a_iconst hX dX10_seasons_76 (pc' := 77) rfl ?_
            refine a_iload hX rfl dX10_seasons_77 (pc' := 79) rfl ?_
            refine a_iconst hX dX10_seasons_79 (pc' := 80) rfl ?_
            refine a_idiv hX (by omega) (by omega) dX10_seasons_80 (pc' := 81) rfl ?_
            refine a_iload hX rfl dX10_seasons_81 (pc' := 83) rfl ?_
            refine a_iconst hX dX10_seasons_83 (pc' := 84) rfl ?_
            refine a_irem hX (by omega) (by omega) dX10_seasons_84 (pc' := 85) rfl ?_
            refine a_cV3i hX cv_X10_149 (q_canFall (by omega) (by omega) (by omega) hB hP2 hS2 (show Z2 69 (16 * 1 + 15) ≤ 5000 from hd9)) rfl (by decide) ⟨by decide, by decide⟩ (Nat.le_of_ble_eq_true rfl) dX10_seasons_85 (pc' := 88) rfl ?_
            refine a_ifb_eq hX dX10_seasons_88 (pc' := 91) rfl (tgt := 104) (by decide) (fun c88 => ?_) (fun c88 => ?_)
            · have gP : vR Z2 1 = sPlay (vQ Z) (qSk (vQ Z) (vR Z 0) (Y 62) i.toNat) (d9) := by
                rw [hk]
                unfold sPlay
                rw [if_neg (by omega), if_neg (by rw [← hk, ← eQ2, c88]; decide)]
              first
                | (refine AW.le ?_ (J104 _ _ hB gP eQN tN eYN)
                   exact ⟨rfl, rfl, rfl, rfl, trivial⟩)
                | (refine AW.le ?_ (J104 Z2 _ hB gP eQ2 hz2 rfl)
                   exact ⟨rfl, rfl, rfl, rfl, trivial⟩)
            · have hcc : pHasC (vQ Z2) (d9 / 5) = true ∧ pHasP (vQ Z2) (d9 % 5) = true ∧ sCan (vQ Z2) (vR Z2 1) (d9 / 5) (d9 % 5) = true := by simpa [Bool.and_eq_true, and_assoc] using c88
              have htk := sCan_takes hcc.2.2
              refine a_aload_n hX rfl rfl dX10_seasons_91 (pc' := 92) rfl ?_
              refine a_iconst hX dX10_seasons_92 (pc' := 93) rfl ?_
              refine a_iload hX rfl dX10_seasons_93 (pc' := 95) rfl ?_
              refine a_iconst hX dX10_seasons_95 (pc' := 96) rfl ?_
              refine a_idiv hX (by omega) (by omega) dX10_seasons_96 (pc' := 97) rfl ?_
              refine a_iload hX rfl dX10_seasons_97 (pc' := 99) rfl ?_
              refine a_iconst hX dX10_seasons_99 (pc' := 100) rfl ?_
              refine a_irem hX (by omega) (by omega) dX10_seasons_100 (pc' := 101) rfl ?_
              refine a_cV3V hX cv_X10_177 (q_fallOn (qHasC_no hcc.1) (qHasP_no hcc.2.1) htk.1 htk.2 (by omega) hB hP2 hS2 (show Z2 69 (16 * 1 + 15) ≤ 5000 from hd9)) rfl (by decide) ⟨by decide, by decide⟩ (Nat.le_of_ble_eq_true rfl) dX10_seasons_101 (pc' := 104) rfl (fun Z101 Y101 h101 => ?_)
              have tN : qTr Z Z101 := ⟨fun a ha => by rw [h101.2.2.1 a ha, hz2.1 a ha], fun j hj => by rw [h101.2.2.2.1 j (by omega), hz2.2 j hj]⟩
              have eQN : vQ Z101 = vQ Z := by rw [rSp_P h101, eQ2]
              obtain ⟨g1, -, -, -, hB, eYN⟩ := h101
              rw [eQ2, hk] at g1 hcc
              have gP : vR Z101 1 = sPlay (vQ Z) (qSk (vQ Z) (vR Z 0) (Y 62) i.toNat) (d9) := by
                rw [g1]
                unfold sPlay
                rw [if_neg (by omega), if_pos (by rw [hcc.1, hcc.2.1, hcc.2.2]; rfl)]
              first
                | (refine AW.le ?_ (J104 _ _ hB gP eQN tN eYN)
                   exact ⟨rfl, rfl, rfl, rfl, trivial⟩)
                | (refine AW.le ?_ (J104 Z2 _ hB gP eQ2 hz2 rfl)
                   exact ⟨rfl, rfl, rfl, rfl, trivial⟩)
          · refine a_aload_n hX rfl rfl dX10_seasons_65 (pc' := 66) rfl ?_
            refine a_iconst hX dX10_seasons_66 (pc' := 67) rfl ?_
            refine a_iconst hX dX10_seasons_67 (pc' := 68) rfl ?_
            refine a_cV2I hX cv_X10_173 (q_passOn (b := true) (by omega) hB hP2 hS2 (show Z2 69 (16 * 1 + 15) ≤ 5000 from hd9)) rfl (by decide) ⟨by decide, by decide⟩ (Nat.le_of_ble_eq_true rfl) dX10_seasons_68 (pc' := 71) rfl (fun x68 Z68 Y68 h68 => ?_)
            obtain ⟨-, g68⟩ := h68
            have tN : qTr Z Z68 := ⟨fun a ha => by rw [g68.2.2.1 a ha, hz2.1 a ha], fun j hj => by rw [g68.2.2.2.1 j (by omega), hz2.2 j hj]⟩
            have eQN : vQ Z68 = vQ Z := by rw [rSp_P g68, eQ2]
            obtain ⟨g1, -, -, -, hB, eYN⟩ := g68
            rw [eQ2, hk] at g1
            have gP : vR Z68 1 = sPlay (vQ Z) (qSk (vQ Z) (vR Z 0) (Y 62) i.toNat) (d9) := by
              rw [g1]
              unfold sPlay
              rw [if_pos (by omega)]
              rfl
            refine a_pop hX rfl dX10_seasons_71 (pc' := 72) rfl ?_
            refine a_goto hX dX10_seasons_72 (tgt := 104) (by decide) ?_
            first
              | (refine AW.le ?_ (J104 _ _ hB gP eQN tN eYN)
                 exact ⟨rfl, rfl, rfl, rfl, trivial⟩)
              | (refine AW.le ?_ (J104 Z2 _ hB gP eQ2 hz2 rfl)
                 exact ⟨rfl, rfl, rfl, rfl, trivial⟩)
    have hTr16 : qTr Z Z16 := ⟨u3, fun j hj => by rw [u2, if_neg (by omega)]⟩
    refine AW.le ?_ (L23 (m.toNat + 1) 0 Z16 _ (by omega) hB u1 (by rw [u1]; exact hS) (by rw [u1]; exact hz) (by omega) rfl (fun _ _ => rfl) hTr16 (by omega))
    exact ⟨rfl, rfl, rfl, rfl, trivial⟩
  · have c9 := of_decide_eq_false c9
    refine a_bipush hX rfl dX10_seasons_12 (pc' := 14) rfl ?_
    refine a_iret hX dX10_seasons_14 (hE _ _ _ ?_)
    exact ⟨_, rfl, by rw [if_neg (by omega)], by rw [if_neg (by omega)], fun _ _ => rfl, ⟨fun _ _ => rfl, fun _ _ => rfl⟩, hB⟩

theorem jThou {n : Int} (h : 0 ≤ n ∧ n ≤ 4) : (0 : Int) < 1000 ^ n.toNat ∧ (1000 : Int) ^ n.toNat ≤ 1000000000000 := by
  have : ∀ n : Nat, n ≤ 4 → (0 : Int) < 1000 ^ n ∧ (1000 : Int) ^ n ≤ 1000000000000 := by decide
  exact this _ (by omega)
theorem jRow {v t : Int} (h0 : 0 ≤ v) (ht : 0 < t) : v / t = 0 ↔ v ≤ t - 1 := by
  constructor
  · intro h
    have := Int.mul_ediv_add_emod v t
    have := Int.emod_lt_of_pos v ht
    rw [h, Int.mul_zero] at *
    omega
  · intro h
    exact Int.ediv_eq_zero_of_lt h0 (by omega)
/-- nothing is filled beyond the papers -/
def oz (P : aP) (S : aSk) : Prop := ∀ p : Int, P 0 2 ≤ p → p < 5 → S (8 + p) = 0
theorem aSum_more {f : Int → Int} {n : Nat} : ∀ d : Nat, (∀ i : Int, n ≤ i ∧ i < n + d → f i = 0) → aSum f (n + d) = aSum f n
  | 0, _ => rfl
  | d + 1, h => by
    show aSum f (n + d) + f ((n + d : Nat) : Int) = _
    rw [h ((n + d : Nat) : Int) (by omega), aSum_more d (fun i hi => h i (by omega)), Int.add_zero]
theorem sFilled_oz {P : aP} {S : aSk} (hP : okP P) (h : oz P S) : sFilled S = qFilled P S := by
  have h5 := hP.2.2.1
  unfold sFilled qFilled
  rw [show 5 = (P 0 2).toNat + (5 - (P 0 2).toNat) by omega]
  exact aSum_more _ (fun p hp => h p (by omega) (by omega))
theorem oz_drop {P : aP} {S : aSk} {c p : Int} (hP : okP P) (h : oz P S) (hc : c < P 0 1) (hp : p < P 0 2) : oz P (dDrop P S c p) := fun q h1 h2 => by
  have := hP.2.1
  unfold dDrop
  rw [if_neg (by omega)]
  have hq := h q h1 h2
  by_cases e : 8 + q = 4 + c
  · have := hP.2.2.1; omega
  · rw [if_neg e]; exact hq
theorem oz_day {P : aP} {S : aSk} (hP : okP P) (h : oz P S) : oz P (dDay P S) := fun q h1 h2 => by
  have := hP.2.1
  have := hP.2.2.1
  unfold dDay
  rw [if_neg (by omega), if_neg (by omega), if_neg (by omega)]
  exact h q h1 h2
theorem oz_play {P : aP} {S : aSk} (hP : okP P) (h : oz P S) (d : Int) : oz P (sPlay P S d) := by
  unfold sPlay
  split
  · exact oz_day hP h
  · split
    · rename_i h0 hb
      simp only [Bool.and_eq_true] at hb
      exact oz_drop hP h (of_decide_eq_true hb.1.1).2 (of_decide_eq_true hb.1.2).2
    · exact h

set_option maxHeartbeats 4000000 in
set_option maxRecDepth 100000 in
theorem q_judge {G : aG} {Z : aZ} {Y : aY} {n v : Int} (hn : -2147483648 ≤ n ∧ n < 2147483648) (hv : -9223372036854775808 ≤ v ∧ v < 9223372036854775808) (hd4 : Z 69 15 ≤ 4000) (hB : aB Z) (hP : okP (vQ Z)) (hS : okS (vQ Z) (vR Z 0)) (hd : Z 69 15 ≤ 5000) : aSI G yX10_judge cX10_judge 6 (some .int) 4 99 [.ref (G.1 62), .int (aI n), .long (aJ v)] Z Y (fun x Z' Y' => x = (if (1 ≤ n ∧ n ≤ 4) ∧ 0 ≤ v ∧ v / 1000 ^ n.toNat = 0 then jAns (vQ Z) (vR Z 0) (jD v n) n.toNat else -2) ∧ qTr Z Z' ∧ aB Z' ∧ Y' = Y) := by
  refine aS.of (own := RX10) (by decide +kernel) rfl 2 (Nat.le_of_ble_eq_true rfl) (fun X hX hE => ?_)
  show AW X G 0 [some (.ref (G.1 62)), some (.int (aI n)), some (.long (aJ v)), none, none, none] [] Z Y
  have hfQ := fQ hP
  have hfR := fR hS
  have hfR1 : 0 ≤ Z 69 15 := hfR.2.2
  have hfR2 : 0 ≤ Z 69 13 ∧ Z 69 13 < 32 := hfR.1
  refine a_iload_n hX rfl rfl dX10_judge_0 (pc' := 1) rfl ?_
  refine a_i2l hX (by omega) dX10_judge_1 (pc' := 2) rfl ?_
  refine a_lconst hX (v := 1) rfl dX10_judge_2 (pc' := 3) rfl ?_
  refine a_ldc2J hX (z := 4) w_1081 (by decide) dX10_judge_3 (pc' := 6) rfl ?_
  refine a_cS3i hX cs_X10_68 (q_in (by omega) (by omega) (by omega)) ⟨by decide, by decide⟩ (Nat.le_of_ble_eq_true rfl) dX10_judge_6 (pc' := 9) rfl ?_
  refine a_ifb_eq hX dX10_judge_9 (pc' := 12) rfl (tgt := 26) (by decide) (fun c9 => ?_) (fun c9 => ?_)
  · have c9 := of_decide_eq_false c9
    refine a_bipush hX rfl dX10_judge_26 (pc' := 28) rfl ?_
    refine a_iret hX dX10_judge_28 (hE _ _ _ ?_)
    first
      | exact ⟨_, rfl, by rw [if_neg (fun q => hz0 q.2)], ⟨fun _ _ => rfl, fun _ _ => rfl⟩, hB, rfl⟩
      | exact ⟨_, rfl, by rw [if_neg (fun q => c9 q.1)], ⟨fun _ _ => rfl, fun _ _ => rfl⟩, hB, rfl⟩
  · have c9 := of_decide_eq_true c9
    have hth := jThou (n := n) (by omega)
    refine a_lload_n hX rfl rfl dX10_judge_12 (pc' := 13) rfl ?_
    refine a_lconst hX (v := 0) rfl dX10_judge_13 (pc' := 14) rfl ?_
    refine a_iload_n hX rfl rfl dX10_judge_14 (pc' := 15) rfl ?_
    refine a_cS1J hX cs_X10_207 (q_thousand (by omega)) ⟨by decide, by decide⟩ (Nat.le_of_ble_eq_true rfl) dX10_judge_15 (pc' := 18) rfl (fun x15 Z15 Y15 h15 => ?_)
    obtain ⟨rfl, ez15, ey15⟩ := h15
    rw [ez15, ey15]
    refine a_lconst hX (v := 1) rfl dX10_judge_18 (pc' := 19) rfl ?_
    refine a_lsubJ hX dX10_judge_19 (pc' := 20) rfl ?_
    refine a_cS3i hX cs_X10_68 (q_in (by omega) (by omega) (by omega)) ⟨by decide, by decide⟩ (Nat.le_of_ble_eq_true rfl) dX10_judge_20 (pc' := 23) rfl ?_
    refine a_ifb_ne hX dX10_judge_23 (pc' := 26) rfl (tgt := 29) (by decide) (fun c23 => ?_) (fun c23 => ?_)
    · have c23 := of_decide_eq_true c23
      have hz0 := (jRow (v := v) c23.1 hth.1).mpr c23.2
      refine a_aload_n hX rfl rfl dX10_judge_29 (pc' := 30) rfl ?_
      refine a_cV0V hX cv_X10_191 (q_layTrial hB) rfl (by decide) ⟨by decide, by decide⟩ (Nat.le_of_ble_eq_true rfl) dX10_judge_30 (pc' := 33) rfl (fun Z30 Y30 h30 => ?_)
      obtain ⟨u1, u2, u3, hB, rfl⟩ := h30
      have eP : vQ Z30 = vQ Z := vQ_eq (fun a ha => u3 a (by omega))
      have hP1 : okP (vQ Z30) := by rw [eP]; exact hP
      have hS1 : okS (vQ Z30) (vR Z30 1) := by rw [eP, u1]; exact hS
      have hd1 : Z30 69 31 ≤ 4000 := by rw [u2, if_pos (by omega)]; exact hd4
      refine a_iconst hX dX10_judge_33 (pc' := 34) rfl ?_
      refine a_istore4 hX (by decide) rfl dX10_judge_34 (pc' := 36) rfl ?_
      have L36 : ∀ (m : Nat) (i : Int) (Z2 : aZ), (0 ≤ i ∧ i ≤ n) → aB Z2 → vR Z2 1 = jS (vQ Z) (vR Z 0) (jD v n) i.toNat → okS (vQ Z) (vR Z2 1) → Z2 69 31 ≤ 4000 + i → (∀ k : Int, 0 ≤ k ∧ k < i → sDoB (vQ Z) (jS (vQ Z) (vR Z 0) (jD v n) k.toNat) (jD v n k) = true) → qTr Z Z2 → (n - i).toNat < m → AW X G 36 [some (.ref (G.1 62)), some (.int (aI n)), some (.long (aJ v)), none, some (.int (aI i)), none] [] Z2 Y30 := by
        intro m
        induction m with
        | zero =>
          intro i Z2 hi hB hk ho hd2 hok hz2 hn
          omega
        | succ m ih =>
          intro i Z2 hi hB hk ho hd2 hok hz2 hn
          refine a_iload hX rfl dX10_judge_36 (pc' := 38) rfl ?_
          refine a_iload_n hX rfl rfl dX10_judge_38 (pc' := 39) rfl ?_
          refine a_icmp_ge hX (by omega) (by omega) dX10_judge_39 (pc' := 42) rfl (tgt := 94) (by decide) (fun c39 => ?_) (fun c39 => ?_)
          · refine a_bipush hX rfl dX10_judge_94 (pc' := 96) rfl ?_
            refine a_iret hX dX10_judge_96 (hE _ _ _ ?_)
            refine ⟨_, rfl, ?_, hz2, hB, rfl⟩
            rw [if_pos ⟨by omega, c23.1, hz0⟩]
            unfold jAns
            exact (vFst_none n.toNat (fun k hk9 => by rw [hok k (by omega)]; rfl)).symm
          · refine a_lload_n hX rfl rfl dX10_judge_42 (pc' := 43) rfl ?_
            refine a_iload_n hX rfl rfl dX10_judge_43 (pc' := 44) rfl ?_
            refine a_iconst hX dX10_judge_44 (pc' := 45) rfl ?_
            refine a_isub hX dX10_judge_45 (pc' := 46) rfl ?_
            refine a_iload hX rfl dX10_judge_46 (pc' := 48) rfl ?_
            refine a_isub hX dX10_judge_48 (pc' := 49) rfl ?_
            refine a_cS1J hX cs_X10_207 (q_thousand (by omega)) ⟨by decide, by decide⟩ (Nat.le_of_ble_eq_true rfl) dX10_judge_49 (pc' := 52) rfl (fun x49 Z49 Y49 h49 => ?_)
            obtain ⟨rfl, ez49, ey49⟩ := h49
            rw [ez49, ey49]
            have hti := jThou (n := n - 1 - i) (by omega)
            have hqd := Int.ediv_nonneg (a := v) (b := 1000 ^ (n - 1 - i).toNat) (by omega) (by omega)
            have hqe := Int.ediv_le_self (a := v) (1000 ^ (n - 1 - i).toNat) (by omega)
            refine a_ldiv hX (by omega) (by omega) dX10_judge_52 (pc' := 53) rfl ?_
            refine a_ldc2J hX (z := 1000) w_1085 (by decide) dX10_judge_53 (pc' := 56) rfl ?_
            refine a_lrem hX (by omega) (by omega) dX10_judge_56 (pc' := 57) rfl ?_
            refine a_l2i hX dX10_judge_57 (pc' := 58) rfl ?_
            have hjd : 0 ≤ v / 1000 ^ (n - 1 - i).toNat % 1000 ∧ v / 1000 ^ (n - 1 - i).toNat % 1000 < 1000 := by omega
            refine a_istore5 hX (by decide) rfl dX10_judge_58 (pc' := 60) rfl ?_
            refine a_aload_n hX rfl rfl dX10_judge_60 (pc' := 61) rfl ?_
            refine a_iload hX rfl dX10_judge_61 (pc' := 63) rfl ?_
            refine a_bipush hX rfl dX10_judge_63 (pc' := 65) rfl ?_
            refine a_idiv hX (by omega) (by omega) dX10_judge_65 (pc' := 66) rfl ?_
            refine a_iload hX rfl dX10_judge_66 (pc' := 68) rfl ?_
            refine a_bipush hX rfl dX10_judge_68 (pc' := 70) rfl ?_
            refine a_idiv hX (by omega) (by omega) dX10_judge_70 (pc' := 71) rfl ?_
            refine a_bipush hX rfl dX10_judge_71 (pc' := 73) rfl ?_
            refine a_irem hX (by omega) (by omega) dX10_judge_73 (pc' := 74) rfl ?_
            refine a_iload hX rfl dX10_judge_74 (pc' := 76) rfl ?_
            refine a_bipush hX rfl dX10_judge_76 (pc' := 78) rfl ?_
            refine a_irem hX (by omega) (by omega) dX10_judge_78 (pc' := 79) rfl ?_
            have eP2 : vQ Z2 = vQ Z := vQ_eq (fun a ha => hz2.1 a (by omega))
            have hP2 : okP (vQ Z2) := by rw [eP2]; exact hP
            have hS2 : okS (vQ Z2) (vR Z2 1) := by rw [eP2]; exact ho
            refine a_cV3I hX cv_X10_211 (q_tryThing (by omega) (by omega) (by omega) hB hP2 hS2 (by omega)) rfl (by decide) ⟨by decide, by decide⟩ (Nat.le_of_ble_eq_true rfl) dX10_judge_79 (pc' := 82) rfl (fun x79 Z79 Y79 h79 => ?_)
            obtain ⟨e79, g79, t79, hB, rfl⟩ := h79
            rw [eP2, hk] at e79 g79
            rw [tB_eq hjd] at e79
            rw [e79]
            refine a_ifb_ne hX dX10_judge_82 (pc' := 85) rfl (tgt := 88) (by decide) (fun c82 => ?_) (fun c82 => ?_)
            · refine a_iinc4 hX (by decide) rfl dX10_judge_88 (pc' := 91) rfl ?_
              refine a_goto hX dX10_judge_91 (tgt := 36) (by decide) ?_
              have c82' : sDoB (vQ Z) (jS (vQ Z) (vR Z 0) (jD v n) i.toNat) (jD v n i) = true := c82
              have hg := g79 (by rw [tB_eq hjd]; exact c82)
              rw [tS_eq c82] at hg
              have e15 := sDoS_15 hP (jS (vQ Z) (vR Z 0) (jD v n) i.toNat) (jD v n i)
              have g1 : vR Z79 1 = sDoS (vQ Z) (jS (vQ Z) (vR Z 0) (jD v n) i.toNat) (jD v n i) := hg.1
              have e16 := congrFun hk 15
              have e17 := congrFun g1 15
              rw [vR_hi (by omega)] at e16 e17
              have e18 : Z79 69 31 = Z79 69 (16 * 1 + 15) := rfl
              have e19 : Z2 69 31 = Z2 69 (16 * 1 + 15) := rfl
              refine AW.le ?_ (ih (i + 1) Z79 (by omega) hB (by rw [g1, jS_s (by omega)]) (by rw [g1]; exact hg.2) (by omega) (fun k hk9 => ?_) ⟨fun a ha => by rw [t79.1 a ha, hz2.1 a ha], fun j hj => by rw [t79.2 j hj, hz2.2 j hj]⟩ (by omega))
              · exact ⟨rfl, rfl, rfl, rfl, trivial⟩
              · by_cases e : k = i
                · rw [e]; exact c82
                · exact hok k (by omega)
            · refine a_iload hX rfl dX10_judge_85 (pc' := 87) rfl ?_
              refine a_iret hX dX10_judge_87 (hE _ _ _ ?_)
              refine ⟨_, rfl, ?_, ⟨fun a ha => by rw [t79.1 a ha, hz2.1 a ha], fun j hj => by rw [t79.2 j hj, hz2.2 j hj]⟩, hB, rfl⟩
              rw [if_pos ⟨by omega, c23.1, hz0⟩]
              unfold jAns
              have c82' : sDoB (vQ Z) (jS (vQ Z) (vR Z 0) (jD v n) i.toNat) (jD v n i) = false := c82
              obtain ⟨i0, rfl⟩ := Int.eq_ofNat_of_zero_le hi.1
              exact (vFst_at (fun k hk9 => by rw [hok k hk9]; rfl) (by rw [c82']; rfl) n.toNat (by omega)).symm
      have hTr30 : qTr Z Z30 := ⟨u3, fun j hj => by rw [u2, if_neg (by omega)]⟩
      refine L36 (n.toNat + 1) 0 Z30 (by omega) hB u1 (by rw [u1]; exact hS) (by omega) (fun k hk => by omega) hTr30 (by omega)
    · have c23 := of_decide_eq_false c23
      have hz0 : ¬ (0 ≤ v ∧ v / 1000 ^ n.toNat = 0) := fun q => c23 ⟨q.1, (jRow (v := v) q.1 hth.1).mp q.2⟩
      refine a_bipush hX rfl dX10_judge_26 (pc' := 28) rfl ?_
      refine a_iret hX dX10_judge_28 (hE _ _ _ ?_)
      first
        | exact ⟨_, rfl, by rw [if_neg (fun q => hz0 q.2)], ⟨fun _ _ => rfl, fun _ _ => rfl⟩, hB, rfl⟩
        | exact ⟨_, rfl, by rw [if_neg (fun q => c9 q.1)], ⟨fun _ _ => rfl, fun _ _ => rfl⟩, hB, rfl⟩

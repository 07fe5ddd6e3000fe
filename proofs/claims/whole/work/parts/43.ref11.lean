/-- a thing of a row: kind, and two figures -/
def tB (P : aP) (S : aSk) (t a b : Int) : Bool :=
  if t = 0 then decide (a = 0 ∧ b = 0) else if t = 1 then (pHasC P a && pHasP P b && sCan P S a b) else if t = 2 then (pHasC P a && decide (b < 2)) else if t = 3 then (decide (a = 0) && pHasP P b && !sTorn S b) else if t = 4 then (pHasP P a && decide (sOwed P S a ≤ b)) else false
def tS (P : aP) (S : aSk) (t a b : Int) : aSk :=
  if t = 0 then dDay P S else if t = 1 then dDrop P S a b else if t = 2 then dPush S a (decide (b = 1)) else if t = 3 then dRip S b else S
theorem tB_eq {P : aP} {S : aSk} {f : Int} (hf : 0 ≤ f ∧ f < 1000) : tB P S (f / 100) (f / 10 % 10) (f % 10) = sDoB P S f := by
  unfold tB sDoB
  by_cases h0 : f / 100 = 0
  · rw [if_pos h0, if_pos h0]
    exact decide_eq_decide.mpr (by omega)
  · rw [if_neg h0, if_neg h0]
    by_cases h1 : f / 100 = 1
    · rw [if_pos h1, if_pos h1]
    · rw [if_neg h1, if_neg h1]
      by_cases h2 : f / 100 = 2
      · rw [if_pos h2, if_pos h2]
        congr 1
        exact decide_eq_decide.mpr (by omega)
      · rw [if_neg h2, if_neg h2]
theorem tS_eq {P : aP} {S : aSk} {f : Int} (h : sDoB P S f = true) : tS P S (f / 100) (f / 10 % 10) (f % 10) = sDoS P S f := by
  unfold tS sDoS
  rw [if_pos h]
theorem aTr_01 (b : Bool) : aTr b = 0 ∨ aTr b = 1 := by cases b <;> decide
theorem rSp_tr {Z Z' : aZ} {Y Y' : aY} {S' : aSk} (h : rSp Z Y 1 S' Z' Y') : qTr Z Z' := ⟨h.2.2.1, fun j hj => h.2.2.2.1 j (by omega)⟩

set_option maxHeartbeats 4000000 in
set_option maxRecDepth 100000 in
theorem q_tryThing {G : aG} {Z : aZ} {Y : aY} {t a b : Int} (ht : 0 ≤ t ∧ t ≤ 9) (ha : 0 ≤ a ∧ a ≤ 9) (hb9 : 0 ≤ b ∧ b ≤ 9) (hB : aB Z) (hP : okP (vQ Z)) (hS : okS (vQ Z) (vR Z 1)) (hd : Z 69 31 ≤ 5000) : aSI G yX10_tryThing cX10_tryThing 7 (some .boolean) 3 73 [.ref (G.1 62), .int (aI t), .int (aI a), .int (aI b)] Z Y (fun x Z' Y' => x = aTr (tB (vQ Z) (vR Z 1) t a b) ∧ (tB (vQ Z) (vR Z 1) t a b = true → vR Z' 1 = tS (vQ Z) (vR Z 1) t a b ∧ okS (vQ Z) (tS (vQ Z) (vR Z 1) t a b)) ∧ qTr Z Z' ∧ aB Z' ∧ Y' = Y) := by
  refine aS.of (own := RX10) (by decide +kernel) rfl 3 (Nat.le_of_ble_eq_true rfl) (fun X hX hE => ?_)
  show AW X G 0 [some (.ref (G.1 62)), some (.int (aI t)), some (.int (aI a)), some (.int (aI b)), none, none, none] [] Z Y
  have hfQ := fQ hP
  have hfR := fR hS
  have hfR1 : 0 ≤ Z 69 31 := hfR.2.2
  have hfR2 : 0 ≤ Z 69 29 ∧ Z 69 29 < 32 := hfR.1
  refine a_iload_n hX rfl rfl dX10_tryThing_0 (pc' := 1) rfl ?_
  have hsw : t = 0 ∨ t = 1 ∨ t = 2 ∨ t = 3 ∨ t = 4 ∨ (t < 0 ∨ 4 < t) := by omega
  rcases hsw with e1 | e1 | e1 | e1 | e1 | e1
  · refine a_tsIn hX dX10_tryThing_1 (by omega) (by omega) (by omega) (off := 35) (by rw [e1]; rfl) (tgt := 36) (by decide) ?_
    have eT : tB (vQ Z) (vR Z 1) t a b = decide (a = 0 ∧ b = 0) := by unfold tB; rw [if_pos e1]
    have eS : tS (vQ Z) (vR Z 1) t a b = dDay (vQ Z) (vR Z 1) := by unfold tS; rw [if_pos e1]
    refine a_aload_n hX rfl rfl dX10_tryThing_36 (pc' := 37) rfl ?_
    refine a_iconst hX dX10_tryThing_37 (pc' := 38) rfl ?_
    refine a_iconst hX dX10_tryThing_38 (pc' := 39) rfl ?_
    refine a_cV2I hX cv_X10_173 (q_passOn (b := true) (by omega) hB hP hS hd) rfl (by decide) ⟨by decide, by decide⟩ (Nat.le_of_ble_eq_true rfl) dX10_tryThing_39 (pc' := 42) rfl (fun x39 Z39 Y39 h39 => ?_)
    obtain ⟨-, g39⟩ := h39
    have hTr := rSp_tr g39
    obtain ⟨g1, g2, -, -, hB, rfl⟩ := g39
    refine a_pop hX rfl dX10_tryThing_42 (pc' := 43) rfl ?_
    refine a_iload_n hX rfl rfl dX10_tryThing_43 (pc' := 44) rfl ?_
    refine a_if_ne hX (by omega) dX10_tryThing_44 (pc' := 47) rfl (tgt := 55) (by decide) (fun c44 => ?_) (fun c44 => ?_)
    · refine a_iconst hX dX10_tryThing_55 (pc' := 56) rfl ?_
      refine a_zret hX (by omega) dX10_tryThing_56 (hE _ _ _ ?_)
      first
        | exact ⟨_, rfl, by rw [eT]; exact (aTr_pos (by omega)).symm, fun _ => by rw [eS]; exact ⟨g1, g2⟩, hTr, hB, rfl⟩
        | exact ⟨_, rfl, by rw [eT]; exact (aTr_neg (by omega)).symm, fun _ => by rw [eS]; exact ⟨g1, g2⟩, hTr, hB, rfl⟩
    · refine a_iload_n hX rfl rfl dX10_tryThing_47 (pc' := 48) rfl ?_
      refine a_if_ne hX (by omega) dX10_tryThing_48 (pc' := 51) rfl (tgt := 55) (by decide) (fun c48 => ?_) (fun c48 => ?_)
      · refine a_iconst hX dX10_tryThing_55 (pc' := 56) rfl ?_
        refine a_zret hX (by omega) dX10_tryThing_56 (hE _ _ _ ?_)
        first
          | exact ⟨_, rfl, by rw [eT]; exact (aTr_pos (by omega)).symm, fun _ => by rw [eS]; exact ⟨g1, g2⟩, hTr, hB, rfl⟩
          | exact ⟨_, rfl, by rw [eT]; exact (aTr_neg (by omega)).symm, fun _ => by rw [eS]; exact ⟨g1, g2⟩, hTr, hB, rfl⟩
      · refine a_iconst hX dX10_tryThing_51 (pc' := 52) rfl ?_
        refine a_goto hX dX10_tryThing_52 (tgt := 56) (by decide) ?_
        refine a_zret hX (by omega) dX10_tryThing_56 (hE _ _ _ ?_)
        first
          | exact ⟨_, rfl, by rw [eT]; exact (aTr_pos (by omega)).symm, fun _ => by rw [eS]; exact ⟨g1, g2⟩, hTr, hB, rfl⟩
          | exact ⟨_, rfl, by rw [eT]; exact (aTr_neg (by omega)).symm, fun _ => by rw [eS]; exact ⟨g1, g2⟩, hTr, hB, rfl⟩
  · refine a_tsIn hX dX10_tryThing_1 (by omega) (by omega) (by omega) (off := 56) (by rw [e1]; rfl) (tgt := 57) (by decide) ?_
    have eT : tB (vQ Z) (vR Z 1) t a b = (pHasC (vQ Z) a && pHasP (vQ Z) b && sCan (vQ Z) (vR Z 1) a b) := by unfold tB; rw [if_neg (by omega), if_pos e1]
    have eS : tS (vQ Z) (vR Z 1) t a b = dDrop (vQ Z) (vR Z 1) a b := by unfold tS; rw [if_neg (by omega), if_pos e1]
    refine a_aload_n hX rfl rfl dX10_tryThing_57 (pc' := 58) rfl ?_
    refine a_iconst hX dX10_tryThing_58 (pc' := 59) rfl ?_
    refine a_iload_n hX rfl rfl dX10_tryThing_59 (pc' := 60) rfl ?_
    refine a_iload_n hX rfl rfl dX10_tryThing_60 (pc' := 61) rfl ?_
    refine a_cV3i hX cv_X10_149 (q_canFall (by omega) (by omega) (by omega) hB hP hS hd) rfl (by decide) ⟨by decide, by decide⟩ (Nat.le_of_ble_eq_true rfl) dX10_tryThing_61 (pc' := 64) rfl ?_
    refine a_istore4 hX (by decide) rfl dX10_tryThing_64 (pc' := 66) rfl ?_
    refine a_iload hX rfl dX10_tryThing_66 (pc' := 68) rfl ?_
    refine a_ifb_eq hX dX10_tryThing_68 (pc' := 71) rfl (tgt := 78) (by decide) (fun c68 => ?_) (fun c68 => ?_)
    · refine a_iload hX rfl dX10_tryThing_78 (pc' := 80) rfl ?_
      refine a_zret hX (aTr_01 _) dX10_tryThing_80 (hE _ _ _ ?_)
      first
        | exact ⟨_, rfl, by rw [eT], fun _ => by rw [eS]; exact ⟨g1, g2⟩, hTr, hB, rfl⟩
        | exact ⟨_, rfl, by rw [eT], fun q => Bool.noConfusion ((q.symm.trans eT).trans c68), ⟨fun _ _ => rfl, fun _ _ => rfl⟩, hB, rfl⟩
    · have hcc : pHasC (vQ Z) a = true ∧ pHasP (vQ Z) b = true ∧ sCan (vQ Z) (vR Z 1) a b = true := by simpa [Bool.and_eq_true, and_assoc] using c68
      have hc1 := qHasC_no hcc.1
      have hp1 := qHasP_no hcc.2.1
      have htk := sCan_takes hcc.2.2
      refine a_aload_n hX rfl rfl dX10_tryThing_71 (pc' := 72) rfl ?_
      refine a_iconst hX dX10_tryThing_72 (pc' := 73) rfl ?_
      refine a_iload_n hX rfl rfl dX10_tryThing_73 (pc' := 74) rfl ?_
      refine a_iload_n hX rfl rfl dX10_tryThing_74 (pc' := 75) rfl ?_
      refine a_cV3V hX cv_X10_177 (q_fallOn hc1 hp1 htk.1 htk.2 (by omega) hB hP hS hd) rfl (by decide) ⟨by decide, by decide⟩ (Nat.le_of_ble_eq_true rfl) dX10_tryThing_75 (pc' := 78) rfl (fun Z75 Y75 h75 => ?_)
      have hTr := rSp_tr h75
      obtain ⟨g1, g2, -, -, hB, rfl⟩ := h75
      refine a_iload hX rfl dX10_tryThing_78 (pc' := 80) rfl ?_
      refine a_zret hX (aTr_01 _) dX10_tryThing_80 (hE _ _ _ ?_)
      first
        | exact ⟨_, rfl, by rw [eT], fun _ => by rw [eS]; exact ⟨g1, g2⟩, hTr, hB, rfl⟩
        | exact ⟨_, rfl, by rw [eT], fun q => Bool.noConfusion ((q.symm.trans eT).trans c68), ⟨fun _ _ => rfl, fun _ _ => rfl⟩, hB, rfl⟩
  · refine a_tsIn hX dX10_tryThing_1 (by omega) (by omega) (by omega) (off := 80) (by rw [e1]; rfl) (tgt := 81) (by decide) ?_
    have eT : tB (vQ Z) (vR Z 1) t a b = (pHasC (vQ Z) a && decide (b < 2)) := by unfold tB; rw [if_neg (by omega), if_neg (by omega), if_pos e1]
    have eS : tS (vQ Z) (vR Z 1) t a b = dPush (vR Z 1) a (decide (b = 1)) := by unfold tS; rw [if_neg (by omega), if_neg (by omega), if_pos e1]
    have J101 : ∀ (g : Bool), g = (pHasC (vQ Z) a && decide (b < 2)) → AW X G 101 [some (.ref (G.1 62)), some (.int (aI t)), some (.int (aI a)), some (.int (aI b)), none, some (.int (aI (aTr g))), none] [] Z Y := by
      intro g hg
      refine a_iload hX rfl dX10_tryThing_101 (pc' := 103) rfl ?_
      refine a_ifb_eq hX dX10_tryThing_103 (pc' := 106) rfl (tgt := 122) (by decide) (fun c103 => ?_) (fun c103 => ?_)
      · refine a_iload hX rfl dX10_tryThing_122 (pc' := 124) rfl ?_
        refine a_zret hX (aTr_01 _) dX10_tryThing_124 (hE _ _ _ ?_)
        first
          | exact ⟨_, rfl, by rw [eT, hg], fun _ => by rw [eS]; exact ⟨g1, g2⟩, hTr, hB, rfl⟩
          | exact ⟨_, rfl, by rw [eT, hg], fun q => Bool.noConfusion (((q.symm.trans eT).trans hg.symm).trans c103), ⟨fun _ _ => rfl, fun _ _ => rfl⟩, hB, rfl⟩
      · have hgg : pHasC (vQ Z) a = true ∧ b < 2 := by
          rw [c103] at hg
          have := hg.symm
          simp only [Bool.and_eq_true, decide_eq_true_eq] at this
          exact this
        have hc1 := qHasC_no hgg.1
        have J119 : ∀ (g2 : Bool), g2 = decide (b = 1) → AW X G 119 [some (.ref (G.1 62)), some (.int (aI t)), some (.int (aI a)), some (.int (aI b)), none, some (.int (aI (aTr g))), none] [.int (aI (aTr g2)), .int (aI a), .int (aI 1), .ref (G.1 62)] Z Y := by
          intro g2 hg2
          refine a_cV3V hX cv_X10_181 (q_puffOn hc1 (by omega) hB hP hS hd) rfl (by decide) ⟨by decide, by decide⟩ (Nat.le_of_ble_eq_true rfl) dX10_tryThing_119 (pc' := 122) rfl (fun Z119 Y119 h119 => ?_)
          rw [hg2] at h119
          have hTr := rSp_tr h119
          obtain ⟨g1, g2, -, -, hB, rfl⟩ := h119
          refine a_iload hX rfl dX10_tryThing_122 (pc' := 124) rfl ?_
          refine a_zret hX (aTr_01 _) dX10_tryThing_124 (hE _ _ _ ?_)
          first
            | exact ⟨_, rfl, by rw [eT, hg], fun _ => by rw [eS]; exact ⟨g1, g2⟩, hTr, hB, rfl⟩
            | exact ⟨_, rfl, by rw [eT, hg], fun q => Bool.noConfusion (((q.symm.trans eT).trans hg.symm).trans c103), ⟨fun _ _ => rfl, fun _ _ => rfl⟩, hB, rfl⟩
        refine a_aload_n hX rfl rfl dX10_tryThing_106 (pc' := 107) rfl ?_
        refine a_iconst hX dX10_tryThing_107 (pc' := 108) rfl ?_
        refine a_iload_n hX rfl rfl dX10_tryThing_108 (pc' := 109) rfl ?_
        refine a_iload_n hX rfl rfl dX10_tryThing_109 (pc' := 110) rfl ?_
        refine a_iconst hX dX10_tryThing_110 (pc' := 111) rfl ?_
        refine a_icmp_ne hX (by omega) (by omega) dX10_tryThing_111 (pc' := 114) rfl (tgt := 118) (by decide) (fun c111 => ?_) (fun c111 => ?_)
        · refine a_iconst hX dX10_tryThing_118 (pc' := 119) rfl ?_
          first
            | exact J119 true (decide_eq_true (show b = 1 by omega)).symm
            | exact J119 false (decide_eq_false (show ¬ b = 1 by omega)).symm
        · refine a_iconst hX dX10_tryThing_114 (pc' := 115) rfl ?_
          refine a_goto hX dX10_tryThing_115 (tgt := 119) (by decide) ?_
          first
            | exact J119 true (decide_eq_true (show b = 1 by omega)).symm
            | exact J119 false (decide_eq_false (show ¬ b = 1 by omega)).symm
    refine a_aload_n hX rfl rfl dX10_tryThing_81 (pc' := 82) rfl ?_
    refine a_iload_n hX rfl rfl dX10_tryThing_82 (pc' := 83) rfl ?_
    refine a_cV1i hX cv_X10_118 (q_isCloud (by omega) hB hP) rfl (by decide) ⟨by decide, by decide⟩ (Nat.le_of_ble_eq_true rfl) dX10_tryThing_83 (pc' := 86) rfl ?_
    refine a_ifb_eq hX dX10_tryThing_86 (pc' := 89) rfl (tgt := 98) (by decide) (fun c86 => ?_) (fun c86 => ?_)
    · refine a_iconst hX dX10_tryThing_98 (pc' := 99) rfl ?_
      refine a_istore5 hX (by decide) rfl dX10_tryThing_99 (pc' := 101) rfl ?_
      first
        | exact J101 true (by rw [c86, decide_eq_true (show b < 2 by omega)]; rfl)
        | exact J101 false (by rw [c86]; rfl)
        | exact J101 false (by rw [c86, decide_eq_false (show ¬ b < 2 by omega)]; rfl)
    · refine a_iload_n hX rfl rfl dX10_tryThing_89 (pc' := 90) rfl ?_
      refine a_iconst hX dX10_tryThing_90 (pc' := 91) rfl ?_
      refine a_icmp_ge hX (by omega) (by omega) dX10_tryThing_91 (pc' := 94) rfl (tgt := 98) (by decide) (fun c91 => ?_) (fun c91 => ?_)
      · refine a_iconst hX dX10_tryThing_98 (pc' := 99) rfl ?_
        refine a_istore5 hX (by decide) rfl dX10_tryThing_99 (pc' := 101) rfl ?_
        first
          | exact J101 true (by rw [c86, decide_eq_true (show b < 2 by omega)]; rfl)
          | exact J101 false (by rw [c86]; rfl)
          | exact J101 false (by rw [c86, decide_eq_false (show ¬ b < 2 by omega)]; rfl)
      · refine a_iconst hX dX10_tryThing_94 (pc' := 95) rfl ?_
        refine a_goto hX dX10_tryThing_95 (tgt := 99) (by decide) ?_
        refine a_istore5 hX (by decide) rfl dX10_tryThing_99 (pc' := 101) rfl ?_
        first
          | exact J101 true (by rw [c86, decide_eq_true (show b < 2 by omega)]; rfl)
          | exact J101 false (by rw [c86]; rfl)
          | exact J101 false (by rw [c86, decide_eq_false (show ¬ b < 2 by omega)]; rfl)
  · refine a_tsIn hX dX10_tryThing_1 (by omega) (by omega) (by omega) (off := 124) (by rw [e1]; rfl) (tgt := 125) (by decide) ?_
    have eT : tB (vQ Z) (vR Z 1) t a b = (decide (a = 0) && pHasP (vQ Z) b && !sTorn (vR Z 1) b) := by unfold tB; rw [if_neg (by omega), if_neg (by omega), if_neg (by omega), if_pos e1]
    have eS : tS (vQ Z) (vR Z 1) t a b = dRip (vR Z 1) b := by unfold tS; rw [if_neg (by omega), if_neg (by omega), if_neg (by omega), if_pos e1]
    have J158 : ∀ (g : Bool), g = (decide (a = 0) && pHasP (vQ Z) b && !sTorn (vR Z 1) b) → AW X G 158 [some (.ref (G.1 62)), some (.int (aI t)), some (.int (aI a)), some (.int (aI b)), none, none, some (.int (aI (aTr g)))] [] Z Y := by
      intro g hg
      refine a_iload hX rfl dX10_tryThing_158 (pc' := 160) rfl ?_
      refine a_ifb_eq hX dX10_tryThing_160 (pc' := 163) rfl (tgt := 169) (by decide) (fun c160 => ?_) (fun c160 => ?_)
      · refine a_iload hX rfl dX10_tryThing_169 (pc' := 171) rfl ?_
        refine a_zret hX (aTr_01 _) dX10_tryThing_171 (hE _ _ _ ?_)
        first
          | exact ⟨_, rfl, by rw [eT, hg], fun _ => by rw [eS]; exact ⟨g1, g2⟩, hTr, hB, rfl⟩
          | exact ⟨_, rfl, by rw [eT, hg], fun q => Bool.noConfusion (((q.symm.trans eT).trans hg.symm).trans c160), ⟨fun _ _ => rfl, fun _ _ => rfl⟩, hB, rfl⟩
      · have hgg : pHasP (vQ Z) b = true := by
          rw [c160] at hg
          have := hg.symm
          simp only [Bool.and_eq_true] at this
          exact this.1.2
        have hp1 := qHasP_no hgg
        refine a_aload_n hX rfl rfl dX10_tryThing_163 (pc' := 164) rfl ?_
        refine a_iconst hX dX10_tryThing_164 (pc' := 165) rfl ?_
        refine a_iload_n hX rfl rfl dX10_tryThing_165 (pc' := 166) rfl ?_
        refine a_cV2V hX cv_X10_185 (q_tearOn hp1 (by omega) hB hP hS hd) rfl (by decide) ⟨by decide, by decide⟩ (Nat.le_of_ble_eq_true rfl) dX10_tryThing_166 (pc' := 169) rfl (fun Z166 Y166 h166 => ?_)
        have hTr := rSp_tr h166
        obtain ⟨g1, g2, -, -, hB, rfl⟩ := h166
        refine a_iload hX rfl dX10_tryThing_169 (pc' := 171) rfl ?_
        refine a_zret hX (aTr_01 _) dX10_tryThing_171 (hE _ _ _ ?_)
        first
          | exact ⟨_, rfl, by rw [eT, hg], fun _ => by rw [eS]; exact ⟨g1, g2⟩, hTr, hB, rfl⟩
          | exact ⟨_, rfl, by rw [eT, hg], fun q => Bool.noConfusion (((q.symm.trans eT).trans hg.symm).trans c160), ⟨fun _ _ => rfl, fun _ _ => rfl⟩, hB, rfl⟩
    refine a_iload_n hX rfl rfl dX10_tryThing_125 (pc' := 126) rfl ?_
    refine a_if_ne hX (by omega) dX10_tryThing_126 (pc' := 129) rfl (tgt := 155) (by decide) (fun c126 => ?_) (fun c126 => ?_)
    · refine a_iconst hX dX10_tryThing_155 (pc' := 156) rfl ?_
      refine a_istore6 hX (by decide) rfl dX10_tryThing_156 (pc' := 158) rfl ?_
      first
        | exact J158 false (by rw [decide_eq_false (show ¬ a = 0 by omega)]; rfl)
        | exact J158 false (by rw [c134, Bool.and_false, Bool.false_and])
        | exact J158 true (by rw [c134, decide_eq_true (show a = 0 by omega)]; unfold sTorn; rw [vR_hi (by omega)]; exact (by rw [show (16 * 1 + 13 : Int) = 29 by rfl, c148]; rfl))
        | exact J158 false (by rw [c134, decide_eq_true (show a = 0 by omega)]; unfold sTorn; rw [vR_hi (by omega)]; exact (by rw [show (16 * 1 + 13 : Int) = 29 by rfl, c148]; rfl))
    · refine a_aload_n hX rfl rfl dX10_tryThing_129 (pc' := 130) rfl ?_
      refine a_iload_n hX rfl rfl dX10_tryThing_130 (pc' := 131) rfl ?_
      refine a_cV1i hX cv_X10_122 (q_isPaper (by omega) hB hP) rfl (by decide) ⟨by decide, by decide⟩ (Nat.le_of_ble_eq_true rfl) dX10_tryThing_131 (pc' := 134) rfl ?_
      refine a_ifb_eq hX dX10_tryThing_134 (pc' := 137) rfl (tgt := 155) (by decide) (fun c134 => ?_) (fun c134 => ?_)
      · refine a_iconst hX dX10_tryThing_155 (pc' := 156) rfl ?_
        refine a_istore6 hX (by decide) rfl dX10_tryThing_156 (pc' := 158) rfl ?_
        first
          | exact J158 false (by rw [decide_eq_false (show ¬ a = 0 by omega)]; rfl)
          | exact J158 false (by rw [c134, Bool.and_false, Bool.false_and])
          | exact J158 true (by rw [c134, decide_eq_true (show a = 0 by omega)]; unfold sTorn; rw [vR_hi (by omega)]; exact (by rw [show (16 * 1 + 13 : Int) = 29 by rfl, c148]; rfl))
          | exact J158 false (by rw [c134, decide_eq_true (show a = 0 by omega)]; unfold sTorn; rw [vR_hi (by omega)]; exact (by rw [show (16 * 1 + 13 : Int) = 29 by rfl, c148]; rfl))
      · have hp1 := qHasP_no c134
        refine a_aload_n hX rfl rfl dX10_tryThing_137 (pc' := 138) rfl ?_
        refine a_getfR hX (r := 69) fl_X10_28 rfl (by decide) rfl dX10_tryThing_138 (pc' := 141) rfl ?_
        refine a_bipush hX rfl dX10_tryThing_141 (pc' := 143) rfl ?_
        refine a_iald hX rfl (by decide) (by decide) (by omega) hB dX10_tryThing_143 (pc' := 144) rfl (fun hb => ?_)
        refine a_iload_n hX rfl rfl dX10_tryThing_144 (pc' := 145) rfl ?_
        refine a_cS2i hX cs_X10_114 (q_has (by omega) (by omega)) ⟨by decide, by decide⟩ (Nat.le_of_ble_eq_true rfl) dX10_tryThing_145 (pc' := 148) rfl ?_
        refine a_ifb_ne hX dX10_tryThing_148 (pc' := 151) rfl (tgt := 155) (by decide) (fun c148 => ?_) (fun c148 => ?_)
        · refine a_iconst hX dX10_tryThing_155 (pc' := 156) rfl ?_
          refine a_istore6 hX (by decide) rfl dX10_tryThing_156 (pc' := 158) rfl ?_
          first
            | exact J158 false (by rw [decide_eq_false (show ¬ a = 0 by omega)]; rfl)
            | exact J158 false (by rw [c134, Bool.and_false, Bool.false_and])
            | exact J158 true (by rw [c134, decide_eq_true (show a = 0 by omega)]; unfold sTorn; rw [vR_hi (by omega)]; exact (by rw [show (16 * 1 + 13 : Int) = 29 by rfl, c148]; rfl))
            | exact J158 false (by rw [c134, decide_eq_true (show a = 0 by omega)]; unfold sTorn; rw [vR_hi (by omega)]; exact (by rw [show (16 * 1 + 13 : Int) = 29 by rfl, c148]; rfl))
        · refine a_iconst hX dX10_tryThing_151 (pc' := 152) rfl ?_
          refine a_goto hX dX10_tryThing_152 (tgt := 156) (by decide) ?_
          refine a_istore6 hX (by decide) rfl dX10_tryThing_156 (pc' := 158) rfl ?_
          first
            | exact J158 false (by rw [decide_eq_false (show ¬ a = 0 by omega)]; rfl)
            | exact J158 false (by rw [c134, Bool.and_false, Bool.false_and])
            | exact J158 true (by rw [c134, decide_eq_true (show a = 0 by omega)]; unfold sTorn; rw [vR_hi (by omega)]; exact (by rw [show (16 * 1 + 13 : Int) = 29 by rfl, c148]; rfl))
            | exact J158 false (by rw [c134, decide_eq_true (show a = 0 by omega)]; unfold sTorn; rw [vR_hi (by omega)]; exact (by rw [show (16 * 1 + 13 : Int) = 29 by rfl, c148]; rfl))
  · refine a_tsIn hX dX10_tryThing_1 (by omega) (by omega) (by omega) (off := 171) (by rw [e1]; rfl) (tgt := 172) (by decide) ?_
    have eT : tB (vQ Z) (vR Z 1) t a b = (pHasP (vQ Z) a && decide (sOwed (vQ Z) (vR Z 1) a ≤ b)) := by unfold tB; rw [if_neg (by omega), if_neg (by omega), if_neg (by omega), if_neg (by omega), if_pos e1]
    have eS : tS (vQ Z) (vR Z 1) t a b = vR Z 1 := by unfold tS; rw [if_neg (by omega), if_neg (by omega), if_neg (by omega), if_neg (by omega)]
    refine a_aload_n hX rfl rfl dX10_tryThing_172 (pc' := 173) rfl ?_
    refine a_iload_n hX rfl rfl dX10_tryThing_173 (pc' := 174) rfl ?_
    refine a_cV1i hX cv_X10_122 (q_isPaper (by omega) hB hP) rfl (by decide) ⟨by decide, by decide⟩ (Nat.le_of_ble_eq_true rfl) dX10_tryThing_174 (pc' := 177) rfl ?_
    refine a_ifb_eq hX dX10_tryThing_177 (pc' := 180) rfl (tgt := 194) (by decide) (fun c177 => ?_) (fun c177 => ?_)
    · refine a_iconst hX dX10_tryThing_194 (pc' := 195) rfl ?_
      refine a_zret hX (by omega) dX10_tryThing_195 (hE _ _ _ ?_)
      first
        | exact ⟨_, rfl, by rw [eT, c177, decide_eq_true (by omega)]; rfl, fun _ => by rw [eS]; exact ⟨rfl, hS⟩, ⟨fun _ _ => rfl, fun _ _ => rfl⟩, hB, rfl⟩
        | exact ⟨_, rfl, by rw [eT, c177]; rfl, fun _ => by rw [eS]; exact ⟨rfl, hS⟩, ⟨fun _ _ => rfl, fun _ _ => rfl⟩, hB, rfl⟩
        | exact ⟨_, rfl, by rw [eT, c177, decide_eq_false (by omega)]; rfl, fun _ => by rw [eS]; exact ⟨rfl, hS⟩, ⟨fun _ _ => rfl, fun _ _ => rfl⟩, hB, rfl⟩
    · have hp4 := qHasP_no c177
      refine a_aload_n hX rfl rfl dX10_tryThing_180 (pc' := 181) rfl ?_
      refine a_iconst hX dX10_tryThing_181 (pc' := 182) rfl ?_
      refine a_iload_n hX rfl rfl dX10_tryThing_182 (pc' := 183) rfl ?_
      refine a_cV2i hX cv_X10_125 (q_owed (by omega) (by omega) hB hP hS hd) rfl (by decide) ⟨by decide, by decide⟩ (Nat.le_of_ble_eq_true rfl) dX10_tryThing_183 (pc' := 186) rfl ?_
      refine a_iload_n hX rfl rfl dX10_tryThing_186 (pc' := 187) rfl ?_
      have hw := sOwed_rng hP hS (p := a) (by omega)
      refine a_icmp_gt hX (by omega) (by omega) dX10_tryThing_187 (pc' := 190) rfl (tgt := 194) (by decide) (fun c187 => ?_) (fun c187 => ?_)
      · refine a_iconst hX dX10_tryThing_194 (pc' := 195) rfl ?_
        refine a_zret hX (by omega) dX10_tryThing_195 (hE _ _ _ ?_)
        first
          | exact ⟨_, rfl, by rw [eT, c177, decide_eq_true (by omega)]; rfl, fun _ => by rw [eS]; exact ⟨rfl, hS⟩, ⟨fun _ _ => rfl, fun _ _ => rfl⟩, hB, rfl⟩
          | exact ⟨_, rfl, by rw [eT, c177]; rfl, fun _ => by rw [eS]; exact ⟨rfl, hS⟩, ⟨fun _ _ => rfl, fun _ _ => rfl⟩, hB, rfl⟩
          | exact ⟨_, rfl, by rw [eT, c177, decide_eq_false (by omega)]; rfl, fun _ => by rw [eS]; exact ⟨rfl, hS⟩, ⟨fun _ _ => rfl, fun _ _ => rfl⟩, hB, rfl⟩
      · refine a_iconst hX dX10_tryThing_190 (pc' := 191) rfl ?_
        refine a_goto hX dX10_tryThing_191 (tgt := 195) (by decide) ?_
        refine a_zret hX (by omega) dX10_tryThing_195 (hE _ _ _ ?_)
        first
          | exact ⟨_, rfl, by rw [eT, c177, decide_eq_true (by omega)]; rfl, fun _ => by rw [eS]; exact ⟨rfl, hS⟩, ⟨fun _ _ => rfl, fun _ _ => rfl⟩, hB, rfl⟩
          | exact ⟨_, rfl, by rw [eT, c177]; rfl, fun _ => by rw [eS]; exact ⟨rfl, hS⟩, ⟨fun _ _ => rfl, fun _ _ => rfl⟩, hB, rfl⟩
          | exact ⟨_, rfl, by rw [eT, c177, decide_eq_false (by omega)]; rfl, fun _ => by rw [eS]; exact ⟨rfl, hS⟩, ⟨fun _ _ => rfl, fun _ _ => rfl⟩, hB, rfl⟩
  · refine a_tsOut hX dX10_tryThing_1 (by omega) e1 (tgt := 196) (by decide) ?_
    have eT : tB (vQ Z) (vR Z 1) t a b = false := by unfold tB; rw [if_neg (by omega), if_neg (by omega), if_neg (by omega), if_neg (by omega), if_neg (by omega)]
    refine a_iconst hX dX10_tryThing_196 (pc' := 197) rfl ?_
    refine a_zret hX (by omega) dX10_tryThing_197 (hE _ _ _ ?_)
    exact ⟨_, rfl, by rw [eT]; rfl, fun q => Bool.noConfusion (q.symm.trans eT), ⟨fun _ _ => rfl, fun _ _ => rfl⟩, hB, rfl⟩

def dPass (P : aP) (S : aSk) (b : Bool) : aSk := if b = true then dDay P S else dWait P S
theorem okS_pass {P : aP} {S : aSk} (hP : okP P) (h : okS P S) (b : Bool) : okS P (dPass P S b) := by
  cases b
  · exact okS_wait hP h
  · exact okS_day hP h
theorem dPass_15 (P : aP) (S : aSk) (b : Bool) : dPass P S b 15 = S 15 + 1 := by
  cases b
  · show dWait P S 15 = _
    unfold dWait; rw [if_pos rfl]
  · show dDay P S 15 = _
    unfold dDay; rw [if_pos rfl]
theorem vR_blow {Z Z1 : aZ} {l : Int} {b : Bool} (h4 : Z 62 1 ≤ 4) (hz : Z1 62 = Z 62) (hj : ∀ j : Int, Z1 69 j = if b = true ∧ 16 * l ≤ j ∧ j < 16 * l + Z 62 1 then (Z 69 j + pDrift (vQ Z) (Z 64 (j - 16 * l)) (Z 69 (16 * l + 15))) % 6 else Z 69 j) : vR Z1 l = fun j => if b = true ∧ 0 ≤ j ∧ j < Z 62 1 then (vR Z l j + pDrift (vQ Z) (Z 64 j) (vR Z l 15)) % 6 else vR Z l j := by
  funext j
  rw [vR_hi (Z := Z) (show 8 ≤ (15 : Int) ∧ (15 : Int) < 16 by omega)]
  by_cases e : b = true ∧ 0 ≤ j ∧ j < Z 62 1
  · rw [if_pos e, vR_yd (Z := Z) (by omega), vR_yd (Z := Z1) (by rw [hz]; omega), hj, if_pos ⟨e.1, by omega⟩, show 16 * l + j - 16 * l = j by omega]
  · rw [if_neg e]
    unfold vR
    rw [hz]
    by_cases a0 : j < 0
    · rw [if_pos a0, if_pos a0]
    rw [if_neg a0, if_neg a0]
    by_cases a1 : j < Z 62 1
    · have : ¬ b = true := fun q => e ⟨q, by omega, a1⟩
      have eb : ∀ i : Int, Z1 69 i = Z 69 i := fun i => by rw [hj, if_neg (fun q => this q.1)]
      simp only [eb]
    · by_cases a2 : j < 4
      · rw [if_pos a2, if_neg a1, if_pos a2, if_neg a1]
      · rw [if_neg a2, if_neg a2]
        rw [show Z1 69 (16 * l + j) = Z 69 (16 * l + j) by rw [hj, if_neg (fun q => by omega)]]
theorem dPass_of {P : aP} {S T : aSk} {b : Bool} {n : Int} (hn : P 0 1 = n) (h4 : n ≤ 4) (hT : T = fun j => if b = true ∧ 0 ≤ j ∧ j < n then (S j + pDrift P (P 4 j) (S 15)) % 6 else S j) : (fun j => if j = 14 then S 14 + sMore P S else (fun j => if j = 15 then S 15 + 1 else T j) j) = dPass P S b := by
  subst hT
  funext j
  try dsimp only
  unfold dPass
  cases b
  · rw [if_neg (show ¬ false = true by decide)]
    unfold dWait
    by_cases e1 : j = 14
    · rw [if_pos e1, if_neg (by omega), if_pos e1]
    · rw [if_neg e1]
      by_cases e2 : j = 15
      · rw [if_pos e2, if_pos e2]
      · rw [if_neg e2, if_neg e2, if_neg e1, if_neg (fun q => absurd q.1 (by decide))]
  · rw [if_pos rfl]
    unfold dDay
    rw [hn]
    by_cases e1 : j = 14
    · rw [if_pos e1, if_neg (by omega), if_pos e1]
    · rw [if_neg e1]
      by_cases e2 : j = 15
      · rw [if_pos e2, if_pos e2]
      · rw [if_neg e2, if_neg e2, if_neg e1]
        by_cases e3 : 0 ≤ j ∧ j < n
        · rw [if_pos ⟨rfl, e3⟩, if_pos e3]
        · rw [if_neg (fun q => e3 q.2), if_neg e3]
def dDays (P : aP) (S : aSk) : Nat → aSk
  | 0 => S
  | n + 1 => dDay P (dDays P S n)
theorem dDays_15 (P : aP) (S : aSk) : ∀ n : Nat, dDays P S n 15 = S 15 + n
  | 0 => by show S 15 = S 15 + 0; omega
  | n + 1 => by
    show dDay P (dDays P S n) 15 = _
    unfold dDay
    rw [if_pos rfl, dDays_15 P S n]
    omega

set_option maxHeartbeats 4000000 in
set_option maxRecDepth 100000 in
theorem q_passOn {G : aG} {Z : aZ} {Y : aY} {l : Int} {b : Bool} (hl : 0 ≤ l ∧ l ≤ 1) (hB : aB Z) (hP : okP (vQ Z)) (hS : okS (vQ Z) (vR Z l)) (hd : Z 69 (16 * l + 15) ≤ 5000) : aSI G yX10_passOn cX10_passOn 6 (some .int) 2 48 [.ref (G.1 62), .int (aI l), .int (aI (aTr b))] Z Y (fun x Z' Y' => x = sMore (vQ Z) (vR Z l) ∧ rSp Z Y l (dPass (vQ Z) (vR Z l) b) Z' Y') := by
  refine aS.of (own := RX10) (by decide +kernel) rfl 3 (Nat.le_of_ble_eq_true rfl) (fun X hX hE => ?_)
  show AW X G 0 [some (.ref (G.1 62)), some (.int (aI l)), some (.int (aI (aTr b))), none, none, none] [] Z Y
  have hfQ := fQ hP
  have hfR := fR hS
  refine a_bipush hX rfl dX10_passOn_0 (pc' := 2) rfl ?_
  refine a_iload_n hX rfl rfl dX10_passOn_2 (pc' := 3) rfl ?_
  refine a_imul hX dX10_passOn_3 (pc' := 4) rfl ?_
  refine a_istore3 hX rfl (by decide) rfl dX10_passOn_4 (pc' := 5) rfl ?_
  refine a_iconst hX dX10_passOn_5 (pc' := 6) rfl ?_
  refine a_istore4 hX (by decide) rfl dX10_passOn_6 (pc' := 8) rfl ?_
  refine a_iconst hX dX10_passOn_8 (pc' := 9) rfl ?_
  refine a_istore5 hX (by decide) rfl dX10_passOn_9 (pc' := 11) rfl ?_
  have L11 : ∀ (n : Nat) (i : Int), (0 ≤ i ∧ i ≤ Z 62 2) → (Z 62 2 - i).toNat < n → AW X G 11 [some (.ref (G.1 62)), some (.int (aI l)), some (.int (aI (aTr b))), some (.int (aI (16 * l))), some (.int (aI (aSum (fun p => if vQ Z 6 p = vR Z l 15 then sOwed (vQ Z) (vR Z l) p else 0) i.toNat))), some (.int (aI i))] [] Z Y := by
    intro n
    induction n with
    | zero =>
      intro i hi hn
      omega
    | succ n ih =>
      intro i hi hn
      refine a_iload hX rfl dX10_passOn_11 (pc' := 13) rfl ?_
      refine a_aload_n hX rfl rfl dX10_passOn_13 (pc' := 14) rfl ?_
      refine a_getfI hX (ji := 2) rfl hB fl_X10_108 rfl (by decide) rfl dX10_passOn_14 (pc' := 17) rfl (fun hb => ?_)
      refine a_icmp_ge hX (by omega) (by omega) dX10_passOn_17 (pc' := 20) rfl (tgt := 61) (by decide) (fun c17 => ?_) (fun c17 => ?_)
      · have J70 : ∀ (Z1 : aZ), aB Z1 → (∀ a : Nat, a ≠ 69 → Z1 a = Z a) → (∀ j : Int, Z1 69 j = if b = true ∧ 16 * l ≤ j ∧ j < 16 * l + Z 62 1 then (Z 69 j + pDrift (vQ Z) (Z 64 (j - 16 * l)) (Z 69 (16 * l + 15))) % 6 else Z 69 j) → AW X G 70 [some (.ref (G.1 62)), some (.int (aI l)), some (.int (aI (aTr b))), some (.int (aI (16 * l))), some (.int (aI (aSum (fun p => if vQ Z 6 p = vR Z l 15 then sOwed (vQ Z) (vR Z l) p else 0) i.toNat))), some (.int (aI i))] [] Z1 Y := by
          intro Z1 hB hz hj
          have hK : aSum (fun p => if vQ Z 6 p = vR Z l 15 then sOwed (vQ Z) (vR Z l) p else 0) i.toNat = sMore (vQ Z) (vR Z l) := by
            rw [sMore_eq, vQ_2, show i = Z 62 2 by omega]
          have hm := sMore_rng hP hS
          rw [hK]
          have e15 : Z1 69 (16 * l + 15) = Z 69 (16 * l + 15) := by rw [hj, if_neg (by omega)]
          have e14 : Z1 69 (16 * l + 14) = Z 69 (16 * l + 14) := by rw [hj, if_neg (by omega)]
          refine a_aload_n hX rfl rfl dX10_passOn_70 (pc' := 71) rfl ?_
          refine a_getfR hX (r := 69) fl_X10_28 rfl (by decide) rfl dX10_passOn_71 (pc' := 74) rfl ?_
          refine a_iload_n hX rfl rfl dX10_passOn_74 (pc' := 75) rfl ?_
          refine a_bipush hX rfl dX10_passOn_75 (pc' := 77) rfl ?_
          refine a_iadd hX dX10_passOn_77 (pc' := 78) rfl ?_
          refine a_dup2 hX rfl rfl dX10_passOn_78 (pc' := 79) rfl ?_
          refine a_iald hX rfl (by decide) (by decide) (by omega) hB dX10_passOn_79 (pc' := 80) rfl (fun hb => ?_)
          refine a_iconst hX dX10_passOn_80 (pc' := 81) rfl ?_
          refine a_iadd hX dX10_passOn_81 (pc' := 82) rfl ?_
          refine a_iastB hX rfl (by decide) (by decide) (by omega) hB (by omega) dX10_passOn_82 (pc' := 83) rfl (fun hB => ?_)
          refine a_aload_n hX rfl rfl dX10_passOn_83 (pc' := 84) rfl ?_
          refine a_getfR hX (r := 69) fl_X10_28 rfl (by decide) rfl dX10_passOn_84 (pc' := 87) rfl ?_
          refine a_iload_n hX rfl rfl dX10_passOn_87 (pc' := 88) rfl ?_
          refine a_bipush hX rfl dX10_passOn_88 (pc' := 90) rfl ?_
          refine a_iadd hX dX10_passOn_90 (pc' := 91) rfl ?_
          refine a_dup2 hX rfl rfl dX10_passOn_91 (pc' := 92) rfl ?_
          refine a_iald hX rfl (by decide) (by decide) (by omega) hB dX10_passOn_92 (pc' := 93) rfl (fun hb => ?_)
          rw [aU_nj (show 16 * l + 14 ≠ 16 * l + 15 by omega)]
          refine a_iload hX rfl dX10_passOn_93 (pc' := 95) rfl ?_
          refine a_iadd hX dX10_passOn_95 (pc' := 96) rfl ?_
          refine a_iastB hX rfl (by decide) (by decide) (by omega) hB (by omega) dX10_passOn_96 (pc' := 97) rfl (fun hB => ?_)
          refine a_iload hX rfl dX10_passOn_97 (pc' := 99) rfl ?_
          refine a_iret hX dX10_passOn_99 (hE _ _ _ ?_)
          refine ⟨_, rfl, rfl, ?_, okS_pass hP hS b, fun a ha => by rw [aU_row ha, aU_row ha, hz a ha], fun j hj9 => by rw [aU_nj (by omega), aU_nj (by omega), hj, if_neg (by omega)], hB, rfl⟩
          have f62 : Z1 62 = Z 62 := hz 62 (by omega)
          rw [vR_u (by omega) (fun _ => by omega) (fun _ => by omega), vR_u (by omega) (fun _ => by omega) (fun _ => by omega), e15, e14, ← vR_hi (Z := Z) (l := l) (j := 15) (by omega), ← vR_hi (Z := Z) (l := l) (j := 14) (by omega)]
          exact dPass_of vQ_1 (by omega) (vR_blow (by omega) f62 hj)
        refine a_iload_n hX rfl rfl dX10_passOn_61 (pc' := 62) rfl ?_
        refine a_ifb_eq hX dX10_passOn_62 (pc' := 65) rfl (tgt := 70) (by decide) (fun c62 => ?_) (fun c62 => ?_)
        · first
            | exact J70 Z67 hB h67a (fun j => by rw [h67 j, c62]; simp only [true_and])
            | exact J70 Z hB (fun _ _ => rfl) (fun j => by rw [c62, if_neg (fun q => absurd q.1 (by decide))])
        · refine a_aload_n hX rfl rfl dX10_passOn_65 (pc' := 66) rfl ?_
          refine a_iload_n hX rfl rfl dX10_passOn_66 (pc' := 67) rfl ?_
          refine a_cV1V hX cv_X10_142 (q_blow hl hB hP hS hd) rfl (by decide) ⟨by decide, by decide⟩ (Nat.le_of_ble_eq_true rfl) dX10_passOn_67 (pc' := 70) rfl (fun Z67 Y67 h67 => ?_)
          obtain ⟨h67, h67a, hB, rfl⟩ := h67
          first
            | exact J70 Z67 hB h67a (fun j => by rw [h67 j, c62]; simp only [true_and])
            | exact J70 Z hB (fun _ _ => rfl) (fun j => by rw [c62, if_neg (fun q => absurd q.1 (by decide))])
      · refine a_iload hX rfl dX10_passOn_20 (pc' := 22) rfl ?_
        refine a_aload_n hX rfl rfl dX10_passOn_22 (pc' := 23) rfl ?_
        refine a_getfR hX (r := 66) fl_X10_19 rfl (by decide) rfl dX10_passOn_23 (pc' := 26) rfl ?_
        refine a_iload hX rfl dX10_passOn_26 (pc' := 28) rfl ?_
        refine a_iald hX rfl (by decide) (by decide) (by omega) hB dX10_passOn_28 (pc' := 29) rfl (fun hb => ?_)
        refine a_aload_n hX rfl rfl dX10_passOn_29 (pc' := 30) rfl ?_
        refine a_getfR hX (r := 69) fl_X10_28 rfl (by decide) rfl dX10_passOn_30 (pc' := 33) rfl ?_
        refine a_iload_n hX rfl rfl dX10_passOn_33 (pc' := 34) rfl ?_
        refine a_bipush hX rfl dX10_passOn_34 (pc' := 36) rfl ?_
        refine a_iadd hX dX10_passOn_36 (pc' := 37) rfl ?_
        refine a_iald hX rfl (by decide) (by decide) (by omega) hB dX10_passOn_37 (pc' := 38) rfl (fun hb => ?_)
        refine a_icmp_ne hX (by omega) (by omega) dX10_passOn_38 (pc' := 41) rfl (tgt := 51) (by decide) (fun c38 => ?_) (fun c38 => ?_)
        · refine a_iconst hX dX10_passOn_51 (pc' := 52) rfl ?_
          refine a_iadd hX dX10_passOn_52 (pc' := 53) rfl ?_
          refine a_istore4 hX (by decide) rfl dX10_passOn_53 (pc' := 55) rfl ?_
          refine a_iinc5 hX (by decide) rfl dX10_passOn_55 (pc' := 58) rfl ?_
          refine a_goto hX dX10_passOn_58 (tgt := 11) (by decide) ?_
          have H := ih (i + 1) (by omega) (by omega)
          rw [aSum_s hi.1, vQ_d, vR_hi (show 8 ≤ (15 : Int) ∧ (15 : Int) < 16 by omega)] at H
          first | rw [if_pos c38] at H | rw [if_neg c38] at H
          exact H
        · refine a_aload_n hX rfl rfl dX10_passOn_41 (pc' := 42) rfl ?_
          refine a_iload_n hX rfl rfl dX10_passOn_42 (pc' := 43) rfl ?_
          refine a_iload hX rfl dX10_passOn_43 (pc' := 45) rfl ?_
          refine a_cV2i hX cv_X10_125 (q_owed (by omega) hl hB hP hS hd) rfl (by decide) ⟨by decide, by decide⟩ (Nat.le_of_ble_eq_true rfl) dX10_passOn_45 (pc' := 48) rfl ?_
          refine a_goto hX dX10_passOn_48 (tgt := 52) (by decide) ?_
          refine a_iadd hX dX10_passOn_52 (pc' := 53) rfl ?_
          refine a_istore4 hX (by decide) rfl dX10_passOn_53 (pc' := 55) rfl ?_
          refine a_iinc5 hX (by decide) rfl dX10_passOn_55 (pc' := 58) rfl ?_
          refine a_goto hX dX10_passOn_58 (tgt := 11) (by decide) ?_
          have H := ih (i + 1) (by omega) (by omega)
          rw [aSum_s hi.1, vQ_d, vR_hi (show 8 ≤ (15 : Int) ∧ (15 : Int) < 16 by omega)] at H
          first | rw [if_pos c38] at H | rw [if_neg c38] at H
          exact H
  exact L11 6 0 (by omega) (by omega)

set_option maxHeartbeats 4000000 in
set_option maxRecDepth 100000 in
theorem q_layTrial {G : aG} {Z : aZ} {Y : aY} (hB : aB Z) : aSV G yX10_layTrial cX10_layTrial 2 none 0 0 [.ref (G.1 62)] Z Y (fun Z' Y' => vR Z' 1 = vR Z 0 ∧ (∀ j : Int, Z' 69 j = if 16 ≤ j ∧ j < 32 then Z 69 (j - 16) else Z 69 j) ∧ (∀ a : Nat, a ≠ 69 → Z' a = Z a) ∧ aB Z' ∧ Y' = Y) := by
  refine aS.of (own := RX10) (by decide +kernel) rfl 1 (Nat.le_of_ble_eq_true rfl) (fun X hX hE => ?_)
  show AW X G 0 [some (.ref (G.1 62)), none] [] Z Y
  refine a_iconst hX dX10_layTrial_0 (pc' := 1) rfl ?_
  refine a_istore1 hX rfl (by decide) rfl dX10_layTrial_1 (pc' := 2) rfl ?_
  have L2 : ∀ (n : Nat) (i : Int) (Z1 : aZ), (0 ≤ i ∧ i ≤ 16) → aB Z1 → (∀ j : Int, Z1 69 j = if 16 ≤ j ∧ j < 16 + i then Z 69 (j - 16) else Z 69 j) → (∀ a : Nat, a ≠ 69 → Z1 a = Z a) → (16 - i).toNat < n → AW X G 2 [some (.ref (G.1 62)), some (.int (aI i))] [] Z1 Y := by
    intro n
    induction n with
    | zero =>
      intro i Z1 hi hB hj hz hn
      omega
    | succ n ih =>
      intro i Z1 hi hB hj hz hn
      refine a_iload_n hX rfl rfl dX10_layTrial_2 (pc' := 3) rfl ?_
      refine a_bipush hX rfl dX10_layTrial_3 (pc' := 5) rfl ?_
      refine a_icmp_ge hX (by omega) (by omega) dX10_layTrial_5 (pc' := 8) rfl (tgt := 29) (by decide) (fun c5 => ?_) (fun c5 => ?_)
      · refine a_vret hX dX10_layTrial_29 (hE _ _ _ ?_)
        obtain rfl : i = 16 := by omega
        refine ⟨rfl, ?_, hj, hz, hB, rfl⟩
        funext j
        unfold vR
        rw [hz 62 (by omega)]
        by_cases a0 : j < 0
        · simp only [if_pos a0]
        by_cases a1 : j < 16
        · have e : Z1 69 (16 * 1 + j) = Z 69 (16 * 0 + j) := by rw [hj, if_pos (by omega), show 16 * 1 + j - 16 = 16 * 0 + j by omega]
          rw [e]
        · simp only [if_neg a0, if_neg (show ¬ j < 4 by omega), if_neg (show ¬ j < 8 by omega), if_neg a1]
      · refine a_aload_n hX rfl rfl dX10_layTrial_8 (pc' := 9) rfl ?_
        refine a_getfR hX (r := 69) fl_X10_28 rfl (by decide) rfl dX10_layTrial_9 (pc' := 12) rfl ?_
        refine a_bipush hX rfl dX10_layTrial_12 (pc' := 14) rfl ?_
        refine a_iload_n hX rfl rfl dX10_layTrial_14 (pc' := 15) rfl ?_
        refine a_iadd hX dX10_layTrial_15 (pc' := 16) rfl ?_
        refine a_aload_n hX rfl rfl dX10_layTrial_16 (pc' := 17) rfl ?_
        refine a_getfR hX (r := 69) fl_X10_28 rfl (by decide) rfl dX10_layTrial_17 (pc' := 20) rfl ?_
        refine a_iload_n hX rfl rfl dX10_layTrial_20 (pc' := 21) rfl ?_
        refine a_iald hX rfl (by decide) (by decide) (by omega) hB dX10_layTrial_21 (pc' := 22) rfl (fun hb => ?_)
        refine a_iastB hX rfl (by decide) (by decide) (by omega) hB (by omega) dX10_layTrial_22 (pc' := 23) rfl (fun hB => ?_)
        refine a_iinc1 hX (by decide) rfl dX10_layTrial_23 (pc' := 26) rfl ?_
        refine a_goto hX dX10_layTrial_26 (tgt := 2) (by decide) ?_
        refine ih (i + 1) _ (by omega) hB (fun j => ?_) (fun a ha => by rw [aU_row ha]; exact hz a ha) (by omega)
        rw [aU_at]
        by_cases e : j = 16 + i
        · rw [if_pos e, if_pos (by omega), hj, if_neg (by omega), e, show 16 + i - 16 = i by omega]
        · rw [if_neg e, hj]
          by_cases e2 : 16 ≤ j ∧ j < 16 + i
          · rw [if_pos e2, if_pos (by omega)]
          · rw [if_neg e2, if_neg (by omega)]
  exact L2 17 0 Z (by omega) hB (fun j => by rw [if_neg (by omega)]) (fun _ _ => rfl) (by omega)

set_option maxHeartbeats 4000000 in
set_option maxRecDepth 100000 in
theorem q_goOn {G : aG} {Z : aZ} {Y : aY} {n : Int} (hB : aB Z) (hP : okP (vQ Z)) (hS : okS (vQ Z) (vR Z 1)) (hn : 0 ≤ n ∧ n ≤ 100) (hd : Z 69 31 ≤ 4000) : aSV G yX10_goOn cX10_goOn 3 none 3 73 [.ref (G.1 62), .int (aI n)] Z Y (rSp Z Y 1 (dDays (vQ Z) (vR Z 1) n.toNat)) := by
  refine aS.of (own := RX10) (by decide +kernel) rfl 1 (Nat.le_of_ble_eq_true rfl) (fun X hX hE => ?_)
  show AW X G 0 [some (.ref (G.1 62)), some (.int (aI n)), none] [] Z Y
  refine a_iconst hX dX10_goOn_0 (pc' := 1) rfl ?_
  refine a_istore2 hX rfl (by decide) rfl dX10_goOn_1 (pc' := 2) rfl ?_
  have L2 : ∀ (m : Nat) (i : Int) (Z1 : aZ), (0 ≤ i ∧ i ≤ n) → rSp Z Y 1 (dDays (vQ Z) (vR Z 1) i.toNat) Z1 Y → (n - i).toNat < m → AW X G 2 [some (.ref (G.1 62)), some (.int (aI n)), some (.int (aI i))] [] Z1 Y := by
    intro m
    induction m with
    | zero =>
      intro i Z1 hi hz hm
      omega
    | succ m ih =>
      intro i Z1 hi hz hm
      have eQ1 : vQ Z1 = vQ Z := rSp_P hz
      have hB := hz.2.2.2.2.1
      have hP1 : okP (vQ Z1) := by rw [eQ1]; exact hP
      have hS1 : okS (vQ Z1) (vR Z1 1) := by rw [eQ1, hz.1]; exact hz.2.1
      have hd1 : Z1 69 (16 * 1 + 15) ≤ 5000 := by
        have e := congrFun hz.1 15
        rw [dDays_15, vR_hi (by omega), vR_hi (by omega)] at e
        rw [e]
        have : Z 69 (16 * 1 + 15) = Z 69 31 := rfl
        omega
      refine a_iload_n hX rfl rfl dX10_goOn_2 (pc' := 3) rfl ?_
      refine a_iload_n hX rfl rfl dX10_goOn_3 (pc' := 4) rfl ?_
      refine a_icmp_ge hX (by omega) (by omega) dX10_goOn_4 (pc' := 7) rfl (tgt := 20) (by decide) (fun c4 => ?_) (fun c4 => ?_)
      · refine a_vret hX dX10_goOn_20 (hE _ _ _ ?_)
        obtain rfl : i = n := by omega
        exact ⟨rfl, hz⟩
      · refine a_aload_n hX rfl rfl dX10_goOn_7 (pc' := 8) rfl ?_
        refine a_iconst hX dX10_goOn_8 (pc' := 9) rfl ?_
        refine a_iconst hX dX10_goOn_9 (pc' := 10) rfl ?_
        refine a_cV2I hX cv_X10_173 (q_passOn (b := true) (by omega) hB hP1 hS1 hd1) rfl (by decide) ⟨by decide, by decide⟩ (Nat.le_of_ble_eq_true rfl) dX10_goOn_10 (pc' := 13) rfl (fun x10 Z10 Y10 h10 => ?_)
        have eY10 := h10.2.2.2.2.2.2
        have h10 := h10.2
        subst eY10
        refine a_pop hX rfl dX10_goOn_13 (pc' := 14) rfl ?_
        refine a_iinc2 hX (by decide) rfl dX10_goOn_14 (pc' := 17) rfl ?_
        refine a_goto hX dX10_goOn_17 (tgt := 2) (by decide) ?_
        refine ih (i + 1) Z10 (by omega) ?_ (by omega)
        obtain ⟨g1, g2, g3, g4, g5, -⟩ := h10
        refine ⟨?_, ?_, fun a ha => by rw [g3 a ha, hz.2.2.1 a ha], fun j hj => by rw [g4 j hj, hz.2.2.2.1 j hj], g5, rfl⟩
        · rw [g1, eQ1, hz.1, show (i + 1).toNat = i.toNat + 1 by omega]; rfl
        · rw [eQ1, hz.1] at g2
          rw [show (i + 1).toNat = i.toNat + 1 by omega]; exact g2
  exact L2 (n.toNat + 1) 0 Z (by omega) ⟨rfl, hS, fun _ _ => rfl, fun _ _ => rfl, hB, rfl⟩ (by omega)

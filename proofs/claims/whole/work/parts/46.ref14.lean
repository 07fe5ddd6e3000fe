/-- two skies that differ only in where the clouds are -/
def sHi (S T : aSk) : Prop := ∀ j : Int, 4 ≤ j → T j = S j
theorem sHi.has {S T : aSk} (h : sHi S T) (P : aP) {c : Int} (hc : 0 ≤ c) : sHas P T c = sHas P S c := by
  unfold sHas
  rw [h (4 + c) (by omega)]
theorem sHi.owed {S T : aSk} (h : sHi S T) (P : aP) {p : Int} (hp : 0 ≤ p) : sOwed P T p = sOwed P S p := by
  unfold sOwed sTorn
  rw [h 13 (by omega), h 15 (by omega), h (8 + p) (by omega)]
theorem sHi.serv {S T : aSk} (h : sHi S T) (P : aP) {c p : Int} (hc : 0 ≤ c) (hp : 0 ≤ p) (y : Int) : sServ P T c y p = sServ P S c y p := by
  rw [Bool.eq_iff_iff]
  unfold sServ
  rw [sServN_iff, sServN_iff]
  unfold sTakes
  simp only [h 15 (by omega), h.has P hc, h.owed P hp]
theorem sHi.servs {S T : aSk} (h : sHi S T) (P : aP) {c : Int} (hc : 0 ≤ c) (y : Int) : sServs P T c y = sServs P S c y := by
  unfold sServs
  exact aBits_congr _ (fun p hp => h.serv P hc hp.1 y)
theorem sHi.owedBy {S T : aSk} (h : sHi S T) (P : aP) (m : Int) : sOwedBy P T m = sOwedBy P S m := by
  unfold sOwedBy
  exact aSum_congr _ (fun p hp => by rw [h.owed P hp.1])
theorem sHi.owedAll {S T : aSk} (h : sHi S T) (P : aP) : sOwedAll P T = sOwedAll P S := by
  unfold sOwedAll
  exact aSum_congr _ (fun p hp => by rw [h.owed P hp.1])
/-- a cloud puffed as a choice says: 0 back, 1 on, 2 not -/
def dCh (S : aSk) (c m : Int) : aSk := if m < 2 then dPush S c (decide (m = 1)) else S
theorem dCh_hi {S : aSk} {c : Int} (hc : c < 4) (m : Int) : sHi S (dCh S c m) := fun j hj => by
  unfold dCh
  split
  · unfold dPush; rw [if_neg (by omega)]
  · rfl
theorem dCh_at {S : aSk} {c m : Int} (hm : 0 ≤ m ∧ m < 3) (hy : 0 ≤ S c ∧ S c ≤ 5) : dCh S c m c = rAt S c m := by
  unfold dCh rAt rStep
  by_cases h2 : m = 2
  · rw [if_neg (by omega), if_pos h2]; omega
  · rw [if_pos (by omega), if_neg h2]
    unfold dPush
    rw [if_pos rfl]
    by_cases h1 : m = 1
    · rw [decide_eq_true h1, if_pos rfl, if_pos h1]
    · rw [decide_eq_false h1, if_neg (by decide), if_neg h1]
theorem dCh_ne {S : aSk} {c d : Int} (h : d ≠ c) (m : Int) : dCh S c m d = S d := by
  unfold dCh
  split
  · unfold dPush; rw [if_neg h]
  · rfl
theorem okS_ch {P : aP} {S : aSk} (h : okS P S) {c : Int} (hc : 0 ≤ c ∧ c < 4) (m : Int) : okS P (dCh S c m) := by
  unfold dCh
  split
  · exact okS_push h hc
  · exact h
def rGain (P : aP) (S : aSk) (a b i j : Int) : Int := rAl P S a i + (if rAt S a i = rAt S b j then 0 else 2)
theorem rAt_dCh {S : aSk} {a b i : Int} (h : b ≠ a) (j : Int) : rAt (dCh S a i) b j = rAt S b j := by
  unfold rAt
  rw [dCh_ne h]
theorem rGain_rng {P : aP} {S : aSk} (hP : okP P) (hS : okS P S) {a : Int} (ha : 0 ≤ a ∧ a < 4) (b i j : Int) : -1 ≤ rGain P S a b i j ∧ rGain P S a b i j ≤ 50 := by
  unfold rGain rAl
  have h1 := sHas_rng hS ha
  have h2 := sOwedBy_rng hP hS (sServs P S a (rAt S a i))
  split <;> split <;> omega
theorem sRest_eq {P : aP} {S : aSk} {a b i j : Int} : ∀ n : Nat, rOkN (rAt S a) (rAt S b) (rAl P S a) (rAl P S b) i j (n + 1) = (rOkN (rAt S a) (rAt S b) (rAl P S a) (rAl P S b) i j n && decide (rGain P S a b n j ≤ rGain P S a b i j ∧ rGain P S b a n i ≤ rGain P S b a j i)) := fun n => by
  have e : ∀ x y : Int, (if rAt S b x = rAt S a y then (0 : Int) else 2) = rAp (rAt S a) (rAt S b) y x := fun x y => by
    unfold rAp
    by_cases q : rAt S b x = rAt S a y
    · rw [if_pos q, if_pos q.symm]
    · rw [if_neg q, if_neg (fun z => q z.symm)]
  unfold rGain
  rw [e, e]
  rfl

set_option maxHeartbeats 4000000 in
set_option maxRecDepth 100000 in
theorem q_choose {G : aG} {Z : aZ} {Y : aY} {c m : Int} (hc : 0 ≤ c ∧ c < Z 62 1) (hm : 0 ≤ m ∧ m < 3) (hB : aB Z) (hP : okP (vQ Z)) (hS : okS (vQ Z) (vR Z 1)) (hd : Z 69 31 ≤ 5000) : aSV G yX10_choose cX10_choose 3 none 1 23 [.ref (G.1 62), .int (aI c), .int (aI m)] Z Y (rSp Z Y 1 (dCh (vR Z 1) c m)) := by
  refine aS.of (own := RX10) (by decide +kernel) rfl 0 (Nat.le_of_ble_eq_true rfl) (fun X hX hE => ?_)
  show AW X G 0 [some (.ref (G.1 62)), some (.int (aI c)), some (.int (aI m))] [] Z Y
  have hfQ := fQ hP
  have hfR := fR hS
  refine a_iload_n hX rfl rfl dX10_choose_0 (pc' := 1) rfl ?_
  refine a_iconst hX dX10_choose_1 (pc' := 2) rfl ?_
  refine a_icmp_ge hX (by omega) (by omega) dX10_choose_2 (pc' := 5) rfl (tgt := 21) (by decide) (fun c2 => ?_) (fun c2 => ?_)
  · refine a_vret hX dX10_choose_21 (hE _ _ _ ?_)
    first
      | exact ⟨rfl, by unfold dCh; rw [if_pos (by omega)]; exact h18⟩
      | exact ⟨rfl, by unfold dCh; rw [if_neg (by omega)]; exact ⟨rfl, hS, fun _ _ => rfl, fun _ _ => rfl, hB, rfl⟩⟩
  · have J18 : ∀ (g : Bool), g = decide (m = 1) → AW X G 18 [some (.ref (G.1 62)), some (.int (aI c)), some (.int (aI m))] [.int (aI (aTr g)), .int (aI c), .int (aI 1), .ref (G.1 62)] Z Y := by
      intro g hg
      refine a_cV3V hX cv_X10_181 (q_puffOn (by omega) (by omega) hB hP hS (show Z 69 (16 * 1 + 15) ≤ 5000 from hd)) rfl (by decide) ⟨by decide, by decide⟩ (Nat.le_of_ble_eq_true rfl) dX10_choose_18 (pc' := 21) rfl (fun Z18 Y18 h18 => ?_)
      rw [hg] at h18
      refine a_vret hX dX10_choose_21 (hE _ _ _ ?_)
      first
        | exact ⟨rfl, by unfold dCh; rw [if_pos (by omega)]; exact h18⟩
        | exact ⟨rfl, by unfold dCh; rw [if_neg (by omega)]; exact ⟨rfl, hS, fun _ _ => rfl, fun _ _ => rfl, hB, rfl⟩⟩
    refine a_aload_n hX rfl rfl dX10_choose_5 (pc' := 6) rfl ?_
    refine a_iconst hX dX10_choose_6 (pc' := 7) rfl ?_
    refine a_iload_n hX rfl rfl dX10_choose_7 (pc' := 8) rfl ?_
    refine a_iload_n hX rfl rfl dX10_choose_8 (pc' := 9) rfl ?_
    refine a_iconst hX dX10_choose_9 (pc' := 10) rfl ?_
    refine a_icmp_ne hX (by omega) (by omega) dX10_choose_10 (pc' := 13) rfl (tgt := 17) (by decide) (fun c10 => ?_) (fun c10 => ?_)
    · refine a_iconst hX dX10_choose_17 (pc' := 18) rfl ?_
      first
        | exact J18 true (decide_eq_true (show m = 1 by omega)).symm
        | exact J18 false (decide_eq_false (show ¬ m = 1 by omega)).symm
    · refine a_iconst hX dX10_choose_13 (pc' := 14) rfl ?_
      refine a_goto hX dX10_choose_14 (tgt := 18) (by decide) ?_
      first
        | exact J18 true (decide_eq_true (show m = 1 by omega)).symm
        | exact J18 false (decide_eq_false (show ¬ m = 1 by omega)).symm

set_option maxHeartbeats 4000000 in
set_option maxRecDepth 100000 in
theorem q_gain {G : aG} {Z : aZ} {Y : aY} {a b i j : Int} (hab : a ≠ b) (ha : 0 ≤ a ∧ a < Z 62 1) (hb1 : 0 ≤ b ∧ b < Z 62 1) (hi : 0 ≤ i ∧ i < 3) (hj : 0 ≤ j ∧ j < 3) (hd4 : Z 69 15 ≤ 4000) (hB : aB Z) (hP : okP (vQ Z)) (hS : okS (vQ Z) (vR Z 0)) (hd : Z 69 15 ≤ 5000) : aSI G yX10_gain cX10_gain 6 (some .int) 4 95 [.ref (G.1 62), .int (aI a), .int (aI b), .int (aI i), .int (aI j)] Z Y (fun x Z' Y' => x = rGain (vQ Z) (vR Z 0) a b i j ∧ qTr Z Z' ∧ aB Z' ∧ Y' = Y) := by
  refine aS.of (own := RX10) (by decide +kernel) rfl 1 (Nat.le_of_ble_eq_true rfl) (fun X hX hE => ?_)
  show AW X G 0 [some (.ref (G.1 62)), some (.int (aI a)), some (.int (aI b)), some (.int (aI i)), some (.int (aI j)), none] [] Z Y
  have hfQ := fQ hP
  have hfR := fR hS
  have hfR1 : 0 ≤ Z 69 15 := hfR.2.2
  have hfR2 : 0 ≤ Z 69 13 ∧ Z 69 13 < 32 := hfR.1
  refine a_aload_n hX rfl rfl dX10_gain_0 (pc' := 1) rfl ?_
  refine a_cV0V hX cv_X10_191 (q_layTrial hB) rfl (by decide) ⟨by decide, by decide⟩ (Nat.le_of_ble_eq_true rfl) dX10_gain_1 (pc' := 4) rfl (fun Z1 Y1 h1 => ?_)
  obtain ⟨u1, u2, u3, hB, rfl⟩ := h1
  have eP : vQ Z1 = vQ Z := vQ_eq (fun a ha => u3 a (by omega))
  have hP1 : okP (vQ Z1) := by rw [eP]; exact hP
  have hS1 : okS (vQ Z1) (vR Z1 1) := by rw [eP, u1]; exact hS
  have hd1 : Z1 69 31 ≤ 4000 := by rw [u2, if_pos (by omega)]; exact hd4
  have t1 : qTr Z Z1 := ⟨u3, fun j hj => by rw [u2, if_neg (by omega)]⟩
  have f1 : Z1 62 1 = Z 62 1 := by rw [u3 62 (by decide)]
  refine a_aload_n hX rfl rfl dX10_gain_4 (pc' := 5) rfl ?_
  refine a_iload_n hX rfl rfl dX10_gain_5 (pc' := 6) rfl ?_
  refine a_iload_n hX rfl rfl dX10_gain_6 (pc' := 7) rfl ?_
  refine a_cV2V hX cv_X10_238 (q_choose (by rw [f1]; exact ha) hi hB hP1 hS1 (by omega)) rfl (by decide) ⟨by decide, by decide⟩ (Nat.le_of_ble_eq_true rfl) dX10_gain_7 (pc' := 10) rfl (fun Z7 Y7 h7 => ?_)
  have eP7 : vQ Z7 = vQ Z := by rw [rSp_P h7, eP]
  have hP7 : okP (vQ Z7) := by rw [eP7]; exact hP
  have t7 : qTr Z Z7 := ⟨fun a ha => by rw [h7.2.2.1 a ha, t1.1 a ha], fun j hj => by rw [h7.2.2.2.1 j (by omega), t1.2 j hj]⟩
  have hS7 : okS (vQ Z7) (vR Z7 1) := by rw [rSp_P h7, h7.1]; exact h7.2.1
  have hd7 : Z7 69 31 ≤ 5000 := by
    have e1 := congrFun h7.1 15
    rw [dCh_hi (by omega) _ 15 (by omega), vR_hi (by omega), vR_hi (by omega)] at e1
    have e2 : Z7 69 31 = Z1 69 31 := e1
    omega
  rw [u1] at h7
  have q7 := h7.1
  have hB := h7.2.2.2.2.1
  have eY7 := h7.2.2.2.2.2
  subst eY7
  refine a_aload_n hX rfl rfl dX10_gain_10 (pc' := 11) rfl ?_
  refine a_iload_n hX rfl rfl dX10_gain_11 (pc' := 12) rfl ?_
  refine a_iload hX rfl dX10_gain_12 (pc' := 14) rfl ?_
  refine a_cV2V hX cv_X10_238 (q_choose (by rw [t7.1 62 (by decide)]; exact hb1) hj hB hP7 hS7 hd7) rfl (by decide) ⟨by decide, by decide⟩ (Nat.le_of_ble_eq_true rfl) dX10_gain_14 (pc' := 17) rfl (fun Z14 Y14 h14 => ?_)
  have eP14 : vQ Z14 = vQ Z := by rw [rSp_P h14, eP7]
  have hP14 : okP (vQ Z14) := by rw [eP14]; exact hP
  have t14 : qTr Z Z14 := ⟨fun a ha => by rw [h14.2.2.1 a ha, t7.1 a ha], fun j hj => by rw [h14.2.2.2.1 j (by omega), t7.2 j hj]⟩
  have hS14 : okS (vQ Z14) (vR Z14 1) := by rw [rSp_P h14, h14.1]; exact h14.2.1
  have hd14 : Z14 69 31 ≤ 5000 := by
    have e1 := congrFun h14.1 15
    rw [dCh_hi (by omega) _ 15 (by omega), vR_hi (by omega), vR_hi (by omega)] at e1
    have e2 : Z14 69 31 = Z7 69 31 := e1
    omega
  rw [q7] at h14
  have q14 := h14.1
  have hB := h14.2.2.2.2.1
  have eY14 := h14.2.2.2.2.2
  subst eY14
  have hh : sHi (vR Z 0) (vR Z14 1) := fun j hj => by rw [q14, dCh_hi (by omega) _ j hj, dCh_hi (by omega) _ j hj]
  have hy := hS.1 a (by omega)
  have hyb := hS.1 b (by omega)
  have ea : vR Z14 1 a = rAt (vR Z 0) a i := by rw [q14, dCh_ne hab, dCh_at hi hy]
  have eb : vR Z14 1 b = rAt (vR Z 0) b j := by
    rw [q14, dCh_at hj (by rw [dCh_ne (fun q => hab q.symm)]; exact hyb), rAt_dCh (fun q => hab q.symm)]
  have f14 : Z14 62 1 = Z 62 1 := by rw [t14.1 62 (by decide)]
  have ea2 := ea
  have eb2 := eb
  rw [vR_yd (by rw [f14]; omega)] at ea2 eb2
  refine a_aload_n hX rfl rfl dX10_gain_17 (pc' := 18) rfl ?_
  refine a_iconst hX dX10_gain_18 (pc' := 19) rfl ?_
  refine a_iload_n hX rfl rfl dX10_gain_19 (pc' := 20) rfl ?_
  refine a_cV2i hX cv_X10_128 (q_holds (by rw [f14]; exact ha) (by omega) hB hP14 hS14 (show Z14 69 (16 * 1 + 15) ≤ 5000 from hd14)) rfl (by decide) ⟨by decide, by decide⟩ (Nat.le_of_ble_eq_true rfl) dX10_gain_20 (pc' := 23) rfl ?_
  rw [eP14, hh.has _ ha.1]
  refine a_aload_n hX rfl rfl dX10_gain_23 (pc' := 24) rfl ?_
  refine a_iconst hX dX10_gain_24 (pc' := 25) rfl ?_
  refine a_aload_n hX rfl rfl dX10_gain_25 (pc' := 26) rfl ?_
  refine a_iconst hX dX10_gain_26 (pc' := 27) rfl ?_
  refine a_iload_n hX rfl rfl dX10_gain_27 (pc' := 28) rfl ?_
  refine a_cV2i hX cv_X10_152 (q_serves (by rw [f14]; exact ha) (by omega) hB hP14 hS14 (show Z14 69 (16 * 1 + 15) ≤ 5000 from hd14)) rfl (by decide) ⟨by decide, by decide⟩ (Nat.le_of_ble_eq_true rfl) dX10_gain_28 (pc' := 31) rfl ?_
  rw [eP14, hh.servs _ ha.1, ea]
  refine a_cV2i hX cv_X10_158 (q_owedBy (by have := sServs_rng hP (vR Z 0) a (rAt (vR Z 0) a i); omega) (by omega) hB hP14 hS14 (show Z14 69 (16 * 1 + 15) ≤ 5000 from hd14)) rfl (by decide) ⟨by decide, by decide⟩ (Nat.le_of_ble_eq_true rfl) dX10_gain_31 (pc' := 34) rfl ?_
  rw [eP14, hh.owedBy]
  refine a_cS2i hX cs_X10_161 (q_lesser (by have := sHas_rng hS (c := a) (by omega); omega) (by have := sOwedBy_rng hP hS (sServs (vQ Z) (vR Z 0) a (rAt (vR Z 0) a i)); omega)) ⟨by decide, by decide⟩ (Nat.le_of_ble_eq_true rfl) dX10_gain_34 (pc' := 37) rfl ?_
  refine a_istore5 hX (by decide) rfl dX10_gain_37 (pc' := 39) rfl ?_
  refine a_iload hX rfl dX10_gain_39 (pc' := 41) rfl ?_
  refine a_aload_n hX rfl rfl dX10_gain_41 (pc' := 42) rfl ?_
  refine a_getfR hX (r := 69) fl_X10_28 rfl (by decide) rfl dX10_gain_42 (pc' := 45) rfl ?_
  refine a_bipush hX rfl dX10_gain_45 (pc' := 47) rfl ?_
  refine a_iload_n hX rfl rfl dX10_gain_47 (pc' := 48) rfl ?_
  refine a_iadd hX dX10_gain_48 (pc' := 49) rfl ?_
  refine a_iald hX rfl (by decide) (by decide) (by omega) hB dX10_gain_49 (pc' := 50) rfl (fun hb => ?_)
  rw [show 16 + a = 16 * 1 + a by omega, ea2]
  refine a_aload_n hX rfl rfl dX10_gain_50 (pc' := 51) rfl ?_
  refine a_getfR hX (r := 69) fl_X10_28 rfl (by decide) rfl dX10_gain_51 (pc' := 54) rfl ?_
  refine a_bipush hX rfl dX10_gain_54 (pc' := 56) rfl ?_
  refine a_iload_n hX rfl rfl dX10_gain_56 (pc' := 57) rfl ?_
  refine a_iadd hX dX10_gain_57 (pc' := 58) rfl ?_
  
  refine a_iald hX rfl (by decide) (by decide) (by omega) hB dX10_gain_58 (pc' := 59) rfl (fun hb => ?_)
  rw [show 16 + b = 16 * 1 + b by omega, eb2]
  have k1 := Int.emod_nonneg (vR Z 0 a + rStep i) (show (6 : Int) ≠ 0 by omega)
  have k2 := Int.emod_lt_of_pos (vR Z 0 a + rStep i) (show (0 : Int) < 6 by omega)
  have k3 := Int.emod_nonneg (vR Z 0 b + rStep j) (show (6 : Int) ≠ 0 by omega)
  have k4 := Int.emod_lt_of_pos (vR Z 0 b + rStep j) (show (0 : Int) < 6 by omega)
  have k5 : 0 ≤ rAt (vR Z 0) a i ∧ rAt (vR Z 0) a i < 6 := ⟨k1, k2⟩
  have k6 : 0 ≤ rAt (vR Z 0) b j ∧ rAt (vR Z 0) b j < 6 := ⟨k3, k4⟩
  refine a_icmp_ne hX (by omega) (by omega) dX10_gain_59 (pc' := 62) rfl (tgt := 66) (by decide) (fun c59 => ?_) (fun c59 => ?_)
  · refine a_iconst hX dX10_gain_66 (pc' := 67) rfl ?_
    refine a_iadd hX dX10_gain_67 (pc' := 68) rfl ?_
    refine a_iload_n hX rfl rfl dX10_gain_68 (pc' := 69) rfl ?_
    refine a_iconst hX dX10_gain_69 (pc' := 70) rfl ?_
    refine a_icmp_ge hX (by omega) (by omega) dX10_gain_70 (pc' := 73) rfl (tgt := 77) (by decide) (fun c70 => ?_) (fun c70 => ?_)
    · refine a_iconst hX dX10_gain_77 (pc' := 78) rfl ?_
      refine a_isub hX dX10_gain_78 (pc' := 79) rfl ?_
      refine a_iret hX dX10_gain_79 (hE _ _ _ ?_)
      refine ⟨_, rfl, ?_, t14, hB, rfl⟩
      unfold rGain rAl
      first | rw [if_pos c59] | rw [if_neg c59]
      first | rw [if_pos (show i = 2 by omega)] | rw [if_neg (show ¬ i = 2 by omega)]
      try omega
    · refine a_iconst hX dX10_gain_73 (pc' := 74) rfl ?_
      refine a_goto hX dX10_gain_74 (tgt := 78) (by decide) ?_
      refine a_isub hX dX10_gain_78 (pc' := 79) rfl ?_
      refine a_iret hX dX10_gain_79 (hE _ _ _ ?_)
      refine ⟨_, rfl, ?_, t14, hB, rfl⟩
      unfold rGain rAl
      first | rw [if_pos c59] | rw [if_neg c59]
      first | rw [if_pos (show i = 2 by omega)] | rw [if_neg (show ¬ i = 2 by omega)]
      try omega
  · refine a_iconst hX dX10_gain_62 (pc' := 63) rfl ?_
    refine a_goto hX dX10_gain_63 (tgt := 67) (by decide) ?_
    refine a_iadd hX dX10_gain_67 (pc' := 68) rfl ?_
    refine a_iload_n hX rfl rfl dX10_gain_68 (pc' := 69) rfl ?_
    refine a_iconst hX dX10_gain_69 (pc' := 70) rfl ?_
    refine a_icmp_ge hX (by omega) (by omega) dX10_gain_70 (pc' := 73) rfl (tgt := 77) (by decide) (fun c70 => ?_) (fun c70 => ?_)
    · refine a_iconst hX dX10_gain_77 (pc' := 78) rfl ?_
      refine a_isub hX dX10_gain_78 (pc' := 79) rfl ?_
      refine a_iret hX dX10_gain_79 (hE _ _ _ ?_)
      refine ⟨_, rfl, ?_, t14, hB, rfl⟩
      unfold rGain rAl
      first | rw [if_pos c59] | rw [if_neg c59]
      first | rw [if_pos (show i = 2 by omega)] | rw [if_neg (show ¬ i = 2 by omega)]
      try omega
    · refine a_iconst hX dX10_gain_73 (pc' := 74) rfl ?_
      refine a_goto hX dX10_gain_74 (tgt := 78) (by decide) ?_
      refine a_isub hX dX10_gain_78 (pc' := 79) rfl ?_
      refine a_iret hX dX10_gain_79 (hE _ _ _ ?_)
      refine ⟨_, rfl, ?_, t14, hB, rfl⟩
      unfold rGain rAl
      first | rw [if_pos c59] | rw [if_neg c59]
      first | rw [if_pos (show i = 2 by omega)] | rw [if_neg (show ¬ i = 2 by omega)]
      try omega

/-- what remembering an act does -/
def aRem (Z Z' : aZ) : Prop := Z' 20 2 = (if Z 20 2 = 14 then 14 else Z 20 2 + 1) ∧ Z' 20 1 = (if Z 20 2 = 14 then (Z 20 1 + 1) % 14 else Z 20 1) ∧ vRow Z' (aRw Z' (Z' 20 2 - 1)) = vS Z 12 ∧ ∀ a : Nat, a ≠ 20 → a ≠ aRw Z' (Z' 20 2 - 1) → Z' a = Z a
/-- an act done: the sky becomes S' -/
def aDid (Z : aZ) (S' : aSk) (Z' : aZ) : Prop := vS Z' 12 = S' ∧ okS (vP Z) S' ∧ Z' 20 2 = (if Z 20 2 = 14 then 14 else Z 20 2 + 1) ∧ Z' 20 1 = (if Z 20 2 = 14 then (Z 20 1 + 1) % 14 else Z 20 1) ∧ vRow Z' (aRw Z' (Z' 20 2 - 1)) = vS Z 12 ∧ ∀ a : Nat, a ≠ 20 → a ≠ aRw Z' (Z' 20 2 - 1) → ¬ (12 ≤ a ∧ a ≤ 15) → Z' a = Z a
theorem aTwo4 {n : Nat} (h : n ≤ 4) : (2 : Int) ^ n ≤ 16 := by
  have : ∀ n : Nat, n ≤ 4 → (2 : Int) ^ n ≤ 16 := by decide
  exact this n h
theorem aRem.lo {Z Z' : aZ} (h : aRem Z Z') : ∀ a : Nat, a < 20 → Z' a = Z a := fun a ha => h.2.2.2 a (by omega) (by have := aRw_rng Z' (Z' 20 2 - 1); omega)
theorem aRem.P {Z Z' : aZ} (h : aRem Z Z') : vP Z' = vP Z := vP_eq (fun a ha => h.lo a (by omega))
theorem aRem.S {Z Z' : aZ} (h : aRem Z Z') : vS Z' 12 = vS Z 12 := vS_frame (h.lo 3 (by omega)) (h.lo 12 (by omega)) (h.lo 13 (by omega)) (h.lo 14 (by omega)) (h.lo 15 (by omega))
theorem aRem.did {Z Z1 Z2 : aZ} {Y Y' : aY} {S' : aSk} (h : aRem Z Z1) (g : aSp Z1 Y 12 S' Z2 Y') : aDid Z S' Z2 := by
  obtain ⟨g1, g2, g3, g4, g5⟩ := g
  have e : Z2 20 = Z1 20 := g3 20 (by omega)
  have er : aRw Z2 (Z2 20 2 - 1) = aRw Z1 (Z1 20 2 - 1) := by unfold aRw; rw [e]
  obtain ⟨h1, h2, h3, h4⟩ := id h
  refine ⟨g1, ?_, by rw [e]; exact h1, by rw [e]; exact h2, ?_, fun a ha hb hc => ?_⟩
  · rw [← h.P]; exact g2
  · rw [er, ← h3]
    have := aRw_rng Z1 (Z1 20 2 - 1)
    exact vRow_eq (g3 3 (by omega)) (g3 _ (by omega))
  · rw [er] at hb
    rw [g3 a (by omega), h4 a ha hb]

set_option maxHeartbeats 4000000 in
set_option maxRecDepth 100000 in
theorem x_day {G : aG} {Z : aZ} {Y : aY} (hA : okA Z) (hB : aB Z) (hP : okP (vP Z)) (hS : okS (vP Z) (vS Z 12)) (hd : Z 12 6 ≤ 5000) : aSI G yX9_day cX9_day 1 (some .int) 4 106 [.ref (G.1 0)] Z Y (fun x Z' Y' => x = sMore (vP Z) (vS Z 12) ∧ aDid Z (dDay (vP Z) (vS Z 12)) Z' ∧ aB Z' ∧ Y' = Y) := by
  refine aS.of (own := RX9) (by decide +kernel) rfl 0 (Nat.le_of_ble_eq_true rfl) (fun X hX hE => ?_)
  show AW X G 0 [some (.ref (G.1 0))] [] Z Y
  have hfP := fP hP
  have hfS := fS hS
  refine a_aload_n hX rfl rfl dX9_day_0 (pc' := 1) rfl ?_
  refine a_getfR hX (r := 20) fl_X9_38 rfl (by decide) rfl dX9_day_1 (pc' := 4) rfl ?_
  refine a_aload_n hX rfl rfl dX9_day_4 (pc' := 5) rfl ?_
  refine a_getfR hX (r := 12) fl_X9_28 rfl (by decide) rfl dX9_day_5 (pc' := 8) rfl ?_
  refine a_cV1V hX cv_X9_165 (c_remember hB hA) rfl (by decide) ⟨by decide, by decide⟩ (Nat.le_of_ble_eq_true rfl) dX9_day_8 (pc' := 11) rfl (fun Z8 Y8 h8 => ?_)
  obtain ⟨q1, q2, q3, q4, hB, rfl⟩ := h8
  have hR8 : aRem Z Z8 := ⟨q1, q2, q3, q4⟩
  have eP : vP Z8 = vP Z := hR8.P
  have eS : vS Z8 12 = vS Z 12 := hR8.S
  have hP1 : okP (vP Z8) := by rw [eP]; exact hP
  have hS1 : okS (vP Z8) (vS Z8 12) := by rw [eP, eS]; exact hS
  have hd1 : Z8 12 6 ≤ 5000 := by rw [hR8.lo 12 (by omega)]; exact hd
  have e39 : Z8 3 = Z 3 := hR8.lo 3 (by omega)
  refine a_aload_n hX rfl rfl dX9_day_11 (pc' := 12) rfl ?_
  refine a_getfR hX (r := 12) fl_X9_28 rfl (by decide) rfl dX9_day_12 (pc' := 15) rfl ?_
  refine a_cV0I hX cv_X9_169 (c_goDay sky12 hB hP1 hS1 hd1) rfl (by decide) ⟨by decide, by decide⟩ (Nat.le_of_ble_eq_true rfl) dX9_day_15 (pc' := 18) rfl (fun x15 Z15 Y15 h15 => ?_)
  obtain ⟨e15, g15⟩ := h15
  rw [eP, eS] at e15 g15
  have hB := g15.2.2.2.1
  have D15 := hR8.did g15
  obtain ⟨-, -, -, -, rfl⟩ := g15
  refine a_iret hX dX9_day_18 (hE _ _ _ ?_)
  exact ⟨_, rfl, e15, D15, hB, rfl⟩

set_option maxHeartbeats 4000000 in
set_option maxRecDepth 100000 in
theorem x_fall {G : aG} {Z : aZ} {Y : aY} {c p : Int} (hc : -2147483648 ≤ c ∧ c < 2147483648) (hp : -2147483648 ≤ p ∧ p < 2147483648) (hA : okA Z) (hB : aB Z) (hP : okP (vP Z)) (hS : okS (vP Z) (vS Z 12)) (hd : Z 12 6 ≤ 5000) : aSI G yX9_fall cX9_fall 3 (some .int) 4 106 [.ref (G.1 0), .int (aI c), .int (aI p)] Z Y (fun x Z' Y' => x = (if (pHasC (vP Z) c && pHasP (vP Z) p) = true then (if sCan (vP Z) (vS Z 12) c p = true then sOwed (vP Z) (dDrop (vP Z) (vS Z 12) c p) p else -3) else -1) ∧ (if ((pHasC (vP Z) c && pHasP (vP Z) p) && sCan (vP Z) (vS Z 12) c p) = true then aDid Z (dDrop (vP Z) (vS Z 12) c p) Z' else Z' = Z) ∧ aB Z' ∧ Y' = Y) := by
  refine aS.of (own := RX9) (by decide +kernel) rfl 0 (Nat.le_of_ble_eq_true rfl) (fun X hX hE => ?_)
  show AW X G 0 [some (.ref (G.1 0)), some (.int (aI c)), some (.int (aI p))] [] Z Y
  have hfP := fP hP
  have hfS := fS hS
  refine a_aload_n hX rfl rfl dX9_fall_0 (pc' := 1) rfl ?_
  refine a_getfR hX (r := 3) fl_X9_19 rfl (by decide) rfl dX9_fall_1 (pc' := 4) rfl ?_
  refine a_iload_n hX rfl rfl dX9_fall_4 (pc' := 5) rfl ?_
  refine a_cV1i hX cv_X9_121 (c_hasCloud (by omega) hB hP) rfl (by decide) ⟨by decide, by decide⟩ (Nat.le_of_ble_eq_true rfl) dX9_fall_5 (pc' := 8) rfl ?_
  refine a_ifb_eq hX dX9_fall_8 (pc' := 11) rfl (tgt := 22) (by decide) (fun c8 => ?_) (fun c8 => ?_)
  · refine a_iconst hX dX9_fall_22 (pc' := 23) rfl ?_
    refine a_iret hX dX9_fall_23 (hE _ _ _ ?_)
    first
      | exact ⟨_, rfl, by rw [c8]; rfl, by rw [c8]; exact rfl, hB, rfl⟩
      | exact ⟨_, rfl, by rw [c8, c19]; rfl, by rw [c8, c19]; exact rfl, hB, rfl⟩
  · have hc1 := pHasC_no c8
    refine a_aload_n hX rfl rfl dX9_fall_11 (pc' := 12) rfl ?_
    refine a_getfR hX (r := 3) fl_X9_19 rfl (by decide) rfl dX9_fall_12 (pc' := 15) rfl ?_
    refine a_iload_n hX rfl rfl dX9_fall_15 (pc' := 16) rfl ?_
    refine a_cV1i hX cv_X9_144 (c_hasPaper (by omega) hB hP) rfl (by decide) ⟨by decide, by decide⟩ (Nat.le_of_ble_eq_true rfl) dX9_fall_16 (pc' := 19) rfl ?_
    refine a_ifb_ne hX dX9_fall_19 (pc' := 22) rfl (tgt := 24) (by decide) (fun c19 => ?_) (fun c19 => ?_)
    · have hp1 := pHasP_no c19
      refine a_aload_n hX rfl rfl dX9_fall_24 (pc' := 25) rfl ?_
      refine a_getfR hX (r := 12) fl_X9_28 rfl (by decide) rfl dX9_fall_25 (pc' := 28) rfl ?_
      refine a_iload_n hX rfl rfl dX9_fall_28 (pc' := 29) rfl ?_
      refine a_iload_n hX rfl rfl dX9_fall_29 (pc' := 30) rfl ?_
      refine a_cV2i hX cv_X9_172 (c_canDrop (by omega) (by omega) sky12 hB hP hS hd) rfl (by decide) ⟨by decide, by decide⟩ (Nat.le_of_ble_eq_true rfl) dX9_fall_30 (pc' := 33) rfl ?_
      refine a_ifb_ne hX dX9_fall_33 (pc' := 36) rfl (tgt := 39) (by decide) (fun c33 => ?_) (fun c33 => ?_)
      · simp only [c8, c19, Bool.true_and] at c33
        refine a_aload_n hX rfl rfl dX9_fall_39 (pc' := 40) rfl ?_
        refine a_getfR hX (r := 20) fl_X9_38 rfl (by decide) rfl dX9_fall_40 (pc' := 43) rfl ?_
        refine a_aload_n hX rfl rfl dX9_fall_43 (pc' := 44) rfl ?_
        refine a_getfR hX (r := 12) fl_X9_28 rfl (by decide) rfl dX9_fall_44 (pc' := 47) rfl ?_
        refine a_cV1V hX cv_X9_165 (c_remember hB hA) rfl (by decide) ⟨by decide, by decide⟩ (Nat.le_of_ble_eq_true rfl) dX9_fall_47 (pc' := 50) rfl (fun Z47 Y47 h47 => ?_)
        obtain ⟨q1, q2, q3, q4, hB, rfl⟩ := h47
        have hR47 : aRem Z Z47 := ⟨q1, q2, q3, q4⟩
        have eP : vP Z47 = vP Z := hR47.P
        have eS : vS Z47 12 = vS Z 12 := hR47.S
        have hP1 : okP (vP Z47) := by rw [eP]; exact hP
        have hS1 : okS (vP Z47) (vS Z47 12) := by rw [eP, eS]; exact hS
        have hd1 : Z47 12 6 ≤ 5000 := by rw [hR47.lo 12 (by omega)]; exact hd
        have e39 : Z47 3 = Z 3 := hR47.lo 3 (by omega)
        refine a_aload_n hX rfl rfl dX9_fall_50 (pc' := 51) rfl ?_
        refine a_getfR hX (r := 12) fl_X9_28 rfl (by decide) rfl dX9_fall_51 (pc' := 54) rfl ?_
        refine a_iload_n hX rfl rfl dX9_fall_54 (pc' := 55) rfl ?_
        refine a_iload_n hX rfl rfl dX9_fall_55 (pc' := 56) rfl ?_
        refine a_cV2V hX cv_X9_176 (c_drop (by rw [e39]; exact hc1) (by rw [e39]; exact hp1) (by rw [eP, eS]; exact (sCan_takes c33).1) (by rw [eP, eS]; exact (sCan_takes c33).2) sky12 hB hP1 hS1 hd1) rfl (by decide) ⟨by decide, by decide⟩ (Nat.le_of_ble_eq_true rfl) dX9_fall_56 (pc' := 59) rfl (fun Z56 Y56 h56 => ?_)
        rw [eP, eS] at h56
        have D56 := hR47.did h56
        have eP6 : vP Z56 = vP Z := by rw [h56.2.2.1.P (by decide), eP]
        have hP6 : okP (vP Z56) := by rw [eP6]; exact hP
        have hS6 : okS (vP Z56) (vS Z56 12) := by rw [eP6, h56.1]; exact D56.2.1
        have e396 : Z56 3 = Z 3 := by rw [h56.2.2.1 3 (by omega), e39]
        have hd6 : Z56 12 6 ≤ 5000 := by
          have e : vS Z56 12 15 = vS Z 12 15 := by rw [h56.1]; unfold dDrop; rw [if_neg (by omega), if_neg (by omega)]
          rw [vS_15, vS_15] at e
          rw [e]; exact hd
        obtain ⟨e56, -, -, hB, rfl⟩ := h56
        refine a_aload_n hX rfl rfl dX9_fall_59 (pc' := 60) rfl ?_
        refine a_getfR hX (r := 12) fl_X9_28 rfl (by decide) rfl dX9_fall_60 (pc' := 63) rfl ?_
        refine a_iload_n hX rfl rfl dX9_fall_63 (pc' := 64) rfl ?_
        refine a_cV1i hX cv_X9_159 (c_owed (by rw [e396]; exact hp1) sky12 hB hP6 hS6 hd6) rfl (by decide) ⟨by decide, by decide⟩ (Nat.le_of_ble_eq_true rfl) dX9_fall_64 (pc' := 67) rfl ?_
        refine a_iret hX dX9_fall_67 (hE _ _ _ ?_)
        exact ⟨_, rfl, by rw [c8, c19, c33, eP6, e56]; rfl, by rw [c8, c19, c33]; exact D56, hB, rfl⟩
      · simp only [c8, c19, Bool.true_and] at c33
        refine a_bipush hX rfl dX9_fall_36 (pc' := 38) rfl ?_
        refine a_iret hX dX9_fall_38 (hE _ _ _ ?_)
        exact ⟨_, rfl, by rw [c8, c19, c33]; rfl, by rw [c8, c19, c33]; exact rfl, hB, rfl⟩
    · refine a_iconst hX dX9_fall_22 (pc' := 23) rfl ?_
      refine a_iret hX dX9_fall_23 (hE _ _ _ ?_)
      first
        | exact ⟨_, rfl, by rw [c8]; rfl, by rw [c8]; exact rfl, hB, rfl⟩
        | exact ⟨_, rfl, by rw [c8, c19]; rfl, by rw [c8, c19]; exact rfl, hB, rfl⟩

set_option maxHeartbeats 4000000 in
set_option maxRecDepth 100000 in
theorem x_puff {G : aG} {Z : aZ} {Y : aY} {c : Int} {on : Bool} (hc : -2147483648 ≤ c ∧ c < 2147483648) (hA : okA Z) (hB : aB Z) (hP : okP (vP Z)) (hS : okS (vP Z) (vS Z 12)) (hd : Z 12 6 ≤ 5000) : aSI G yX9_puff cX9_puff 3 (some .int) 3 106 [.ref (G.1 0), .int (aI c), .int (aI (aTr on))] Z Y (fun x Z' Y' => x = (if pHasC (vP Z) c = true then dPush (vS Z 12) c on c else -1) ∧ (if pHasC (vP Z) c = true then aDid Z (dPush (vS Z 12) c on) Z' else Z' = Z) ∧ aB Z' ∧ Y' = Y) := by
  refine aS.of (own := RX9) (by decide +kernel) rfl 0 (Nat.le_of_ble_eq_true rfl) (fun X hX hE => ?_)
  show AW X G 0 [some (.ref (G.1 0)), some (.int (aI c)), some (.int (aI (aTr on)))] [] Z Y
  have hfP := fP hP
  have hfS := fS hS
  refine a_aload_n hX rfl rfl dX9_puff_0 (pc' := 1) rfl ?_
  refine a_getfR hX (r := 3) fl_X9_19 rfl (by decide) rfl dX9_puff_1 (pc' := 4) rfl ?_
  refine a_iload_n hX rfl rfl dX9_puff_4 (pc' := 5) rfl ?_
  refine a_cV1i hX cv_X9_121 (c_hasCloud (by omega) hB hP) rfl (by decide) ⟨by decide, by decide⟩ (Nat.le_of_ble_eq_true rfl) dX9_puff_5 (pc' := 8) rfl ?_
  refine a_ifb_ne hX dX9_puff_8 (pc' := 11) rfl (tgt := 13) (by decide) (fun c8 => ?_) (fun c8 => ?_)
  · have hc1 := pHasC_no c8
    refine a_aload_n hX rfl rfl dX9_puff_13 (pc' := 14) rfl ?_
    refine a_getfR hX (r := 20) fl_X9_38 rfl (by decide) rfl dX9_puff_14 (pc' := 17) rfl ?_
    refine a_aload_n hX rfl rfl dX9_puff_17 (pc' := 18) rfl ?_
    refine a_getfR hX (r := 12) fl_X9_28 rfl (by decide) rfl dX9_puff_18 (pc' := 21) rfl ?_
    refine a_cV1V hX cv_X9_165 (c_remember hB hA) rfl (by decide) ⟨by decide, by decide⟩ (Nat.le_of_ble_eq_true rfl) dX9_puff_21 (pc' := 24) rfl (fun Z21 Y21 h21 => ?_)
    obtain ⟨q1, q2, q3, q4, hB, rfl⟩ := h21
    have hR21 : aRem Z Z21 := ⟨q1, q2, q3, q4⟩
    have eP : vP Z21 = vP Z := hR21.P
    have eS : vS Z21 12 = vS Z 12 := hR21.S
    have hP1 : okP (vP Z21) := by rw [eP]; exact hP
    have hS1 : okS (vP Z21) (vS Z21 12) := by rw [eP, eS]; exact hS
    have hd1 : Z21 12 6 ≤ 5000 := by rw [hR21.lo 12 (by omega)]; exact hd
    have e39 : Z21 3 = Z 3 := hR21.lo 3 (by omega)
    refine a_aload_n hX rfl rfl dX9_puff_24 (pc' := 25) rfl ?_
    refine a_getfR hX (r := 12) fl_X9_28 rfl (by decide) rfl dX9_puff_25 (pc' := 28) rfl ?_
    refine a_iload_n hX rfl rfl dX9_puff_28 (pc' := 29) rfl ?_
    refine a_iload_n hX rfl rfl dX9_puff_29 (pc' := 30) rfl ?_
    refine a_cV2V hX cv_X9_180 (c_push (by rw [e39]; exact hc1) sky12 hB hP1 hS1 hd1) rfl (by decide) ⟨by decide, by decide⟩ (Nat.le_of_ble_eq_true rfl) dX9_puff_30 (pc' := 33) rfl (fun Z30 Y30 h30 => ?_)
    rw [eS] at h30
    rw [eP] at hP1
    have D30 := hR21.did h30
    have e396 : Z30 3 = Z 3 := by rw [h30.2.2.1 3 (by omega), e39]
    obtain ⟨e30, -, -, hB, rfl⟩ := h30
    refine a_aload_n hX rfl rfl dX9_puff_33 (pc' := 34) rfl ?_
    refine a_getfR hX (r := 12) fl_X9_28 rfl (by decide) rfl dX9_puff_34 (pc' := 37) rfl ?_
    refine a_getfR hX (r := 13) fl_X9_124 rfl (by decide) rfl dX9_puff_37 (pc' := 40) rfl ?_
    refine a_iload_n hX rfl rfl dX9_puff_40 (pc' := 41) rfl ?_
    refine a_iald hX rfl (by decide) (by decide) (by omega) hB dX9_puff_41 (pc' := 42) rfl (fun hb => ?_)
    refine a_iret hX dX9_puff_42 (hE _ _ _ ?_)
    refine ⟨_, rfl, ?_, by rw [c8]; exact D30, hB, rfl⟩
    rw [c8, if_pos rfl, ← e30, vS_yd (c := c) (by rw [e396]; omega)]
  · refine a_iconst hX dX9_puff_11 (pc' := 12) rfl ?_
    refine a_iret hX dX9_puff_12 (hE _ _ _ ?_)
    exact ⟨_, rfl, by rw [c8]; rfl, by rw [c8]; exact rfl, hB, rfl⟩

set_option maxHeartbeats 4000000 in
set_option maxRecDepth 100000 in
theorem x_tear {G : aG} {Z : aZ} {Y : aY} {p : Int} (hp : -2147483648 ≤ p ∧ p < 2147483648) (hA : okA Z) (hB : aB Z) (hP : okP (vP Z)) (hS : okS (vP Z) (vS Z 12)) (hd : Z 12 6 ≤ 5000) : aSI G yX9_tear cX9_tear 3 (some .int) 3 106 [.ref (G.1 0), .int (aI p)] Z Y (fun x Z' Y' => x = (if pHasP (vP Z) p = true then (if sTorn (vS Z 12) p = true then -3 else sOwed (vP Z) (vS Z 12) p) else -1) ∧ (if pHasP (vP Z) p = true ∧ sTorn (vS Z 12) p = false then aDid Z (dRip (vS Z 12) p) Z' else Z' = Z) ∧ aB Z' ∧ Y' = Y) := by
  refine aS.of (own := RX9) (by decide +kernel) rfl 1 (Nat.le_of_ble_eq_true rfl) (fun X hX hE => ?_)
  show AW X G 0 [some (.ref (G.1 0)), some (.int (aI p)), none] [] Z Y
  have hfP := fP hP
  have hfS := fS hS
  refine a_aload_n hX rfl rfl dX9_tear_0 (pc' := 1) rfl ?_
  refine a_getfR hX (r := 3) fl_X9_19 rfl (by decide) rfl dX9_tear_1 (pc' := 4) rfl ?_
  refine a_iload_n hX rfl rfl dX9_tear_4 (pc' := 5) rfl ?_
  refine a_cV1i hX cv_X9_144 (c_hasPaper (by omega) hB hP) rfl (by decide) ⟨by decide, by decide⟩ (Nat.le_of_ble_eq_true rfl) dX9_tear_5 (pc' := 8) rfl ?_
  refine a_ifb_ne hX dX9_tear_8 (pc' := 11) rfl (tgt := 13) (by decide) (fun c8 => ?_) (fun c8 => ?_)
  · have hp1 := pHasP_no c8
    refine a_aload_n hX rfl rfl dX9_tear_13 (pc' := 14) rfl ?_
    refine a_getfR hX (r := 12) fl_X9_28 rfl (by decide) rfl dX9_tear_14 (pc' := 17) rfl ?_
    refine a_iload_n hX rfl rfl dX9_tear_17 (pc' := 18) rfl ?_
    refine a_cV1i hX cv_X9_162 (c_isTorn (by omega) sky12 hB hP hS hd) rfl (by decide) ⟨by decide, by decide⟩ (Nat.le_of_ble_eq_true rfl) dX9_tear_18 (pc' := 21) rfl ?_
    refine a_ifb_eq hX dX9_tear_21 (pc' := 24) rfl (tgt := 27) (by decide) (fun c21 => ?_) (fun c21 => ?_)
    · refine a_aload_n hX rfl rfl dX9_tear_27 (pc' := 28) rfl ?_
      refine a_getfR hX (r := 12) fl_X9_28 rfl (by decide) rfl dX9_tear_28 (pc' := 31) rfl ?_
      refine a_iload_n hX rfl rfl dX9_tear_31 (pc' := 32) rfl ?_
      refine a_cV1i hX cv_X9_159 (c_owed (by omega) sky12 hB hP hS hd) rfl (by decide) ⟨by decide, by decide⟩ (Nat.le_of_ble_eq_true rfl) dX9_tear_32 (pc' := 35) rfl ?_
      refine a_istore2 hX rfl (by decide) rfl dX9_tear_35 (pc' := 36) rfl ?_
      refine a_aload_n hX rfl rfl dX9_tear_36 (pc' := 37) rfl ?_
      refine a_getfR hX (r := 20) fl_X9_38 rfl (by decide) rfl dX9_tear_37 (pc' := 40) rfl ?_
      refine a_aload_n hX rfl rfl dX9_tear_40 (pc' := 41) rfl ?_
      refine a_getfR hX (r := 12) fl_X9_28 rfl (by decide) rfl dX9_tear_41 (pc' := 44) rfl ?_
      refine a_cV1V hX cv_X9_165 (c_remember hB hA) rfl (by decide) ⟨by decide, by decide⟩ (Nat.le_of_ble_eq_true rfl) dX9_tear_44 (pc' := 47) rfl (fun Z44 Y44 h44 => ?_)
      obtain ⟨q1, q2, q3, q4, hB, rfl⟩ := h44
      have hR44 : aRem Z Z44 := ⟨q1, q2, q3, q4⟩
      have eP : vP Z44 = vP Z := hR44.P
      have eS : vS Z44 12 = vS Z 12 := hR44.S
      have hP1 : okP (vP Z44) := by rw [eP]; exact hP
      have hS1 : okS (vP Z44) (vS Z44 12) := by rw [eP, eS]; exact hS
      have hd1 : Z44 12 6 ≤ 5000 := by rw [hR44.lo 12 (by omega)]; exact hd
      have e39 : Z44 3 = Z 3 := hR44.lo 3 (by omega)
      refine a_aload_n hX rfl rfl dX9_tear_47 (pc' := 48) rfl ?_
      refine a_getfR hX (r := 12) fl_X9_28 rfl (by decide) rfl dX9_tear_48 (pc' := 51) rfl ?_
      refine a_iload_n hX rfl rfl dX9_tear_51 (pc' := 52) rfl ?_
      refine a_cV1V hX cv_X9_184 (c_rip (by rw [e39]; exact hp1) sky12 hB hP1 hS1 hd1) rfl (by decide) ⟨by decide, by decide⟩ (Nat.le_of_ble_eq_true rfl) dX9_tear_52 (pc' := 55) rfl (fun Z52 Y52 h52 => ?_)
      rw [eS] at h52
      have D52 := hR44.did h52
      obtain ⟨-, -, -, hB, rfl⟩ := h52
      refine a_iload_n hX rfl rfl dX9_tear_55 (pc' := 56) rfl ?_
      refine a_iret hX dX9_tear_56 (hE _ _ _ ?_)
      exact ⟨_, rfl, by rw [c8, c21]; rfl, by rw [c8, c21]; exact D52, hB, rfl⟩
    · refine a_bipush hX rfl dX9_tear_24 (pc' := 26) rfl ?_
      refine a_iret hX dX9_tear_26 (hE _ _ _ ?_)
      exact ⟨_, rfl, by rw [c8, c21]; rfl, by rw [c8, c21]; exact rfl, hB, rfl⟩
  · refine a_iconst hX dX9_tear_11 (pc' := 12) rfl ?_
    refine a_iret hX dX9_tear_12 (hE _ _ _ ?_)
    exact ⟨_, rfl, by rw [c8]; rfl, by rw [c8]; exact rfl, hB, rfl⟩

set_option maxHeartbeats 4000000 in
set_option maxRecDepth 100000 in
theorem x_undo {G : aG} {Z : aZ} {Y : aY} (hA : okA Z) (hR : 0 < Z 20 2 → okS (vP Z) (vRow Z (aRw Z (Z 20 2 - 1)))) (hB : aB Z) (hP : okP (vP Z)) (hS : okS (vP Z) (vS Z 12)) (hd : Z 12 6 ≤ 5000) : aSI G yX9_undo cX9_undo 1 (some .int) 3 106 [.ref (G.1 0)] Z Y (fun x Z' Y' => x = (if 0 < Z 20 2 then Z 20 2 - 1 else -3) ∧ Z' 20 2 = (if 0 < Z 20 2 then Z 20 2 - 1 else Z 20 2) ∧ Z' 20 1 = Z 20 1 ∧ vS Z' 12 = (if 0 < Z 20 2 then vRow Z (aRw Z (Z 20 2 - 1)) else vS Z 12) ∧ (∀ a : Nat, a ≠ 20 → ¬ (12 ≤ a ∧ a ≤ 15) → Z' a = Z a) ∧ aB Z' ∧ Y' = Y) := by
  refine aS.of (own := RX9) (by decide +kernel) rfl 0 (Nat.le_of_ble_eq_true rfl) (fun X hX hE => ?_)
  show AW X G 0 [some (.ref (G.1 0))] [] Z Y
  have hfP := fP hP
  have hfS := fS hS
  refine a_aload_n hX rfl rfl dX9_undo_0 (pc' := 1) rfl ?_
  refine a_getfR hX (r := 20) fl_X9_38 rfl (by decide) rfl dX9_undo_1 (pc' := 4) rfl ?_
  refine a_aload_n hX rfl rfl dX9_undo_4 (pc' := 5) rfl ?_
  refine a_getfR hX (r := 12) fl_X9_28 rfl (by decide) rfl dX9_undo_5 (pc' := 8) rfl ?_
  refine a_cV1I hX cv_X9_188 (c_takeBack hB hA hR) rfl (by decide) ⟨by decide, by decide⟩ (Nat.le_of_ble_eq_true rfl) dX9_undo_8 (pc' := 11) rfl (fun x8 Z8 Y8 h8 => ?_)
  obtain ⟨e8, q1, q2, q3, q4, hB, rfl⟩ := h8
  rw [e8]
  refine a_ifb_eq hX dX9_undo_11 (pc' := 14) rfl (tgt := 24) (by decide) (fun c11 => ?_) (fun c11 => ?_)
  · have c11 := of_decide_eq_false c11
    refine a_bipush hX rfl dX9_undo_24 (pc' := 26) rfl ?_
    refine a_iret hX dX9_undo_26 (hE _ _ _ ?_)
    first
      | exact ⟨_, rfl, by rw [q1, if_pos c11, if_pos c11], q1, q2, q3, q4, hB, rfl⟩
      | exact ⟨_, rfl, by rw [if_neg c11], q1, q2, q3, q4, hB, rfl⟩
  · have c11 := of_decide_eq_true c11
    refine a_aload_n hX rfl rfl dX9_undo_14 (pc' := 15) rfl ?_
    refine a_getfR hX (r := 20) fl_X9_38 rfl (by decide) rfl dX9_undo_15 (pc' := 18) rfl ?_
    refine a_getfI hX (ji := 2) rfl hB fl_X9_192 rfl (by decide) rfl dX9_undo_18 (pc' := 21) rfl (fun hb => ?_)
    refine a_goto hX dX9_undo_21 (tgt := 26) (by decide) ?_
    refine a_iret hX dX9_undo_26 (hE _ _ _ ?_)
    first
      | exact ⟨_, rfl, by rw [q1, if_pos c11, if_pos c11], q1, q2, q3, q4, hB, rfl⟩
      | exact ⟨_, rfl, by rw [if_neg c11], q1, q2, q3, q4, hB, rfl⟩

def sMost (P : aP) (S : aSk) : Int := vFill (P 0 1).toNat (P 0 2).toNat (sHas P S) (fun c => sServs P S c (S c)) (sOwed P S) (2 ^ (P 0 1).toNat - 1)
def sLacks (P : aP) (S : aSk) (p : Int) : Int := max 0 (sOwed P S p - aSum (fun c => if aBit (sServs P S c (S c)) p = true then sHas P S c else 0) (P 0 1).toNat)

set_option maxHeartbeats 4000000 in
set_option maxRecDepth 100000 in
theorem x_most {G : aG} {Z : aZ} {Y : aY} (hB : aB Z) (hP : okP (vP Z)) (hS : okS (vP Z) (vS Z 12)) (hd : Z 12 6 ≤ 5000) : aSI G yX9_most cX9_most 1 (some .int) 5 114 [.ref (G.1 0)] Z Y (fun x Z' Y' => x = sMost (vP Z) (vS Z 12) ∧ (∀ a : Nat, ¬ (39 ≤ a ∧ a ≤ 42) → Z' a = Z a) ∧ aB Z' ∧ Y' = Y) := by
  refine aS.of (own := RX9) (by decide +kernel) rfl 0 (Nat.le_of_ble_eq_true rfl) (fun X hX hE => ?_)
  show AW X G 0 [some (.ref (G.1 0))] [] Z Y
  have hfP := fP hP
  have hfS := fS hS
  refine a_aload_n hX rfl rfl dX9_most_0 (pc' := 1) rfl ?_
  refine a_getfR hX (r := 39) fl_X9_52 rfl (by decide) rfl dX9_most_1 (pc' := 4) rfl ?_
  refine a_aload_n hX rfl rfl dX9_most_4 (pc' := 5) rfl ?_
  refine a_getfR hX (r := 12) fl_X9_28 rfl (by decide) rfl dX9_most_5 (pc' := 8) rfl ?_
  refine a_aload_n hX rfl rfl dX9_most_8 (pc' := 9) rfl ?_
  refine a_getfR hX (r := 3) fl_X9_19 rfl (by decide) rfl dX9_most_9 (pc' := 12) rfl ?_
  refine a_cV2V hX cv_X9_205 (c_look hB hP hS hd) rfl (by decide) ⟨by decide, by decide⟩ (Nat.le_of_ble_eq_true rfl) dX9_most_12 (pc' := 15) rfl (fun Z12 Y12 h12 => ?_)
  obtain ⟨v1, v2, v3, v4, hV, hz, hB, rfl⟩ := h12
  have two1 : (2 : Int) ^ (Z 3 9).toNat ≤ 16 := aTwo4 (by omega)
  have two0 := aPow_pos (Z 3 9).toNat
  refine a_aload_n hX rfl rfl dX9_most_15 (pc' := 16) rfl ?_
  refine a_getfR hX (r := 39) fl_X9_52 rfl (by decide) rfl dX9_most_16 (pc' := 19) rfl ?_
  refine a_aload_n hX rfl rfl dX9_most_19 (pc' := 20) rfl ?_
  refine a_getfR hX (r := 39) fl_X9_52 rfl (by decide) rfl dX9_most_20 (pc' := 23) rfl ?_
  refine a_cV0i hX cv_X9_209 (c_everyone hB hV) rfl (by decide) ⟨by decide, by decide⟩ (Nat.le_of_ble_eq_true rfl) dX9_most_23 (pc' := 26) rfl ?_
  refine a_cV1i hX cv_X9_212 (c_fillable (by rw [v1]; omega) hB hV) rfl (by decide) ⟨by decide, by decide⟩ (Nat.le_of_ble_eq_true rfl) dX9_most_26 (pc' := 29) rfl ?_
  refine a_iret hX dX9_most_29 (hE _ _ _ ?_)
  refine ⟨_, rfl, ?_, hz, hB, rfl⟩
  unfold sMost
  rw [v1, v2, vP_1, vP_2]
  refine vFill_congr (fun c hc => ?_) (fun p hp => v4 p (by omega)) _
  exact v3 c (by omega)

set_option maxHeartbeats 4000000 in
set_option maxRecDepth 100000 in
theorem x_lacks {G : aG} {Z : aZ} {Y : aY} {p : Int} (hp : -2147483648 ≤ p ∧ p < 2147483648) (hB : aB Z) (hP : okP (vP Z)) (hS : okS (vP Z) (vS Z 12)) (hd : Z 12 6 ≤ 5000) : aSI G yX9_lacks cX9_lacks 2 (some .int) 5 114 [.ref (G.1 0), .int (aI p)] Z Y (fun x Z' Y' => x = (if pHasP (vP Z) p = true then sLacks (vP Z) (vS Z 12) p else -1) ∧ (∀ a : Nat, ¬ (39 ≤ a ∧ a ≤ 42) → Z' a = Z a) ∧ aB Z' ∧ Y' = Y) := by
  refine aS.of (own := RX9) (by decide +kernel) rfl 0 (Nat.le_of_ble_eq_true rfl) (fun X hX hE => ?_)
  show AW X G 0 [some (.ref (G.1 0)), some (.int (aI p))] [] Z Y
  have hfP := fP hP
  have hfS := fS hS
  refine a_aload_n hX rfl rfl dX9_lacks_0 (pc' := 1) rfl ?_
  refine a_getfR hX (r := 3) fl_X9_19 rfl (by decide) rfl dX9_lacks_1 (pc' := 4) rfl ?_
  refine a_iload_n hX rfl rfl dX9_lacks_4 (pc' := 5) rfl ?_
  refine a_cV1i hX cv_X9_144 (c_hasPaper (by omega) hB hP) rfl (by decide) ⟨by decide, by decide⟩ (Nat.le_of_ble_eq_true rfl) dX9_lacks_5 (pc' := 8) rfl ?_
  refine a_ifb_ne hX dX9_lacks_8 (pc' := 11) rfl (tgt := 13) (by decide) (fun c8 => ?_) (fun c8 => ?_)
  · have hp1 := pHasP_no c8
    refine a_aload_n hX rfl rfl dX9_lacks_13 (pc' := 14) rfl ?_
    refine a_getfR hX (r := 39) fl_X9_52 rfl (by decide) rfl dX9_lacks_14 (pc' := 17) rfl ?_
    refine a_aload_n hX rfl rfl dX9_lacks_17 (pc' := 18) rfl ?_
    refine a_getfR hX (r := 12) fl_X9_28 rfl (by decide) rfl dX9_lacks_18 (pc' := 21) rfl ?_
    refine a_aload_n hX rfl rfl dX9_lacks_21 (pc' := 22) rfl ?_
    refine a_getfR hX (r := 3) fl_X9_19 rfl (by decide) rfl dX9_lacks_22 (pc' := 25) rfl ?_
    refine a_cV2V hX cv_X9_205 (c_look hB hP hS hd) rfl (by decide) ⟨by decide, by decide⟩ (Nat.le_of_ble_eq_true rfl) dX9_lacks_25 (pc' := 28) rfl (fun Z25 Y25 h25 => ?_)
    obtain ⟨v1, v2, v3, v4, hV, hz, hB, rfl⟩ := h25
    have two1 : (2 : Int) ^ (Z 3 9).toNat ≤ 16 := aTwo4 (by omega)
    have two0 := aPow_pos (Z 3 9).toNat
    refine a_aload_n hX rfl rfl dX9_lacks_28 (pc' := 29) rfl ?_
    refine a_getfR hX (r := 39) fl_X9_52 rfl (by decide) rfl dX9_lacks_29 (pc' := 32) rfl ?_
    refine a_iload_n hX rfl rfl dX9_lacks_32 (pc' := 33) rfl ?_
    refine a_cV1i hX cv_X9_215 (c_shortOf (by omega) hB hV) rfl (by decide) ⟨by decide, by decide⟩ (Nat.le_of_ble_eq_true rfl) dX9_lacks_33 (pc' := 36) rfl ?_
    refine a_iret hX dX9_lacks_36 (hE _ _ _ ?_)
    refine ⟨_, rfl, ?_, hz, hB, rfl⟩
    rw [c8, if_pos rfl]
    unfold sLacks
    rw [v4 p hp1, v1, vP_1]
    congr 2
    refine aSum_congr _ (fun c hc => ?_)
    obtain ⟨w1, w2⟩ := v3 c (by omega)
    rw [w1, w2]
  · refine a_iconst hX dX9_lacks_11 (pc' := 12) rfl ?_
    refine a_iret hX dX9_lacks_12 (hE _ _ _ ?_)
    exact ⟨_, rfl, by rw [c8]; rfl, fun _ _ => rfl, hB, rfl⟩

set_option maxHeartbeats 4000000 in
set_option maxRecDepth 100000 in
theorem x_puffs {G : aG} {Z : aZ} {Y : aY} (hB : aB Z) (hP : okP (vP Z)) (hS : okS (vP Z) (vS Z 12)) (hd : Z 12 6 ≤ 5000) : aSI G yX9_puffs cX9_puffs 1 (some .int) 5 114 [.ref (G.1 0)] Z Y (fun x Z' Y' => x = sPuffs (vP Z) (vS Z 12) ∧ (∀ a : Nat, ¬ (39 ≤ a ∧ a ≤ 47) → Z' a = Z a) ∧ aB Z' ∧ Y' = Y) := by
  refine aS.of (own := RX9) (by decide +kernel) rfl 0 (Nat.le_of_ble_eq_true rfl) (fun X hX hE => ?_)
  show AW X G 0 [some (.ref (G.1 0))] [] Z Y
  have hfP := fP hP
  have hfS := fS hS
  refine a_aload_n hX rfl rfl dX9_puffs_0 (pc' := 1) rfl ?_
  refine a_getfR hX (r := 39) fl_X9_52 rfl (by decide) rfl dX9_puffs_1 (pc' := 4) rfl ?_
  refine a_aload_n hX rfl rfl dX9_puffs_4 (pc' := 5) rfl ?_
  refine a_getfR hX (r := 12) fl_X9_28 rfl (by decide) rfl dX9_puffs_5 (pc' := 8) rfl ?_
  refine a_aload_n hX rfl rfl dX9_puffs_8 (pc' := 9) rfl ?_
  refine a_getfR hX (r := 3) fl_X9_19 rfl (by decide) rfl dX9_puffs_9 (pc' := 12) rfl ?_
  refine a_cV2V hX cv_X9_205 (c_look hB hP hS hd) rfl (by decide) ⟨by decide, by decide⟩ (Nat.le_of_ble_eq_true rfl) dX9_puffs_12 (pc' := 15) rfl (fun Z12 Y12 h12 => ?_)
  obtain ⟨v1, v2, v3, v4, hV, hz, hB, rfl⟩ := h12
  have two1 : (2 : Int) ^ (Z 3 9).toNat ≤ 16 := aTwo4 (by omega)
  have two0 := aPow_pos (Z 3 9).toNat
  have eP2 : vP Z12 = vP Z := vP_eq (fun a ha => hz a (by omega))
  have eS2 : vS Z12 12 = vS Z 12 := vS_frame (hz 3 (by omega)) (hz 12 (by omega)) (hz 13 (by omega)) (hz 14 (by omega)) (hz 15 (by omega))
  have hP2 : okP (vP Z12) := by rw [eP2]; exact hP
  have hS2 : okS (vP Z12) (vS Z12 12) := by rw [eP2, eS2]; exact hS
  have hd2 : Z12 12 6 ≤ 5000 := by rw [hz 12 (by omega)]; exact hd
  refine a_aload_n hX rfl rfl dX9_puffs_15 (pc' := 16) rfl ?_
  refine a_getfR hX (r := 39) fl_X9_52 rfl (by decide) rfl dX9_puffs_16 (pc' := 19) rfl ?_
  refine a_aload_n hX rfl rfl dX9_puffs_19 (pc' := 20) rfl ?_
  refine a_getfR hX (r := 12) fl_X9_28 rfl (by decide) rfl dX9_puffs_20 (pc' := 23) rfl ?_
  refine a_cV1V hX cv_X9_218 (c_lookAround (by rw [v1, hz 3 (by omega)]) hB hP2 hS2 hd2) rfl (by decide) ⟨by decide, by decide⟩ (Nat.le_of_ble_eq_true rfl) dX9_puffs_23 (pc' := 26) rfl (fun Z23 Y23 h23 => ?_)
  obtain ⟨u1, hz3, hB, rfl⟩ := h23
  have eP3 : vP Z23 = vP Z := by rw [vP_eq (Z := Z12) (fun a ha => hz3 a (by omega)), eP2]
  have eS3 : vS Z23 12 = vS Z 12 := by rw [vS_frame (Z := Z12) (hz3 3 (by omega)) (hz3 12 (by omega)) (hz3 13 (by omega)) (hz3 14 (by omega)) (hz3 15 (by omega)), eS2]
  have hP3 : okP (vP Z23) := by rw [eP3]; exact hP
  have hS3 : okS (vP Z23) (vS Z23 12) := by rw [eP3, eS3]; exact hS
  have hd3 : Z23 12 6 ≤ 5000 := by rw [hz3 12 (by omega)]; exact hd2
  have hV3 : okV Z23 := by unfold okV; rw [hz3 39 (by omega), hz3 40 (by omega), hz3 41 (by omega), hz3 42 (by omega)]; exact hV
  have f3 : Z23 3 = Z 3 := by rw [hz3 3 (by omega), hz 3 (by omega)]
  rw [hz 3 (by omega)] at u1
  refine a_aload_n hX rfl rfl dX9_puffs_26 (pc' := 27) rfl ?_
  refine a_getfR hX (r := 39) fl_X9_52 rfl (by decide) rfl dX9_puffs_27 (pc' := 30) rfl ?_
  refine a_aload_n hX rfl rfl dX9_puffs_30 (pc' := 31) rfl ?_
  refine a_getfR hX (r := 12) fl_X9_28 rfl (by decide) rfl dX9_puffs_31 (pc' := 34) rfl ?_
  refine a_cV1I hX cv_X9_221 (c_fewestPuffs (by rw [f3, hz3 39 (by omega)]; exact v1) (by rw [f3, hz3 39 (by omega)]; exact v2) (by rw [f3, hz3 40 (by omega), eP3, eS3]; exact fun c hc => (v3 c hc).1) (by rw [f3, eP3, eS3]; exact fun c y h1 h2 h3 => (u1 c y h1 h2 h3).trans (by rw [eP2, eS2])) (by rw [f3, hz3 42 (by omega), eP3, eS3]; exact v4) hV3 hB hP3 hS3 hd3) rfl (by decide) ⟨by decide, by decide⟩ (Nat.le_of_ble_eq_true rfl) dX9_puffs_34 (pc' := 37) rfl (fun x34 Z34 Y34 h34 => ?_)
  obtain ⟨e34, z34, hB, rfl⟩ := h34
  rw [eP3, eS3] at e34
  refine a_iret hX dX9_puffs_37 (hE _ _ _ ?_)
  exact ⟨_, rfl, e34, fun a ha => by rw [z34 a (by omega), hz3 a (by omega), hz a (by omega)], hB, rfl⟩

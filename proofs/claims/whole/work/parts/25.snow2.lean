/-- what remembering an act does -/
def aRem (Z Z' : aZ) : Prop := Z' 20 2 = (if Z 20 2 = 14 then 14 else Z 20 2 + 1) ∧ Z' 20 1 = (if Z 20 2 = 14 then (Z 20 1 + 1) % 14 else Z 20 1) ∧ vRow Z' (aRw Z' (Z' 20 2 - 1)) = vS Z 12 ∧ ∀ a : Nat, a ≠ 20 → a ≠ aRw Z' (Z' 20 2 - 1) → Z' a = Z a
/-- an act done: the sky becomes S' -/
def aDid (Z : aZ) (S' : aSk) (Z' : aZ) : Prop := vS Z' 12 = S' ∧ okS (vP Z) S' ∧ Z' 20 2 = (if Z 20 2 = 14 then 14 else Z 20 2 + 1) ∧ Z' 20 1 = (if Z 20 2 = 14 then (Z 20 1 + 1) % 14 else Z 20 1) ∧ vRow Z' (aRw Z' (Z' 20 2 - 1)) = vS Z 12 ∧ ∀ a : Nat, a ≠ 20 → a ≠ aRw Z' (Z' 20 2 - 1) → ¬ (12 ≤ a ∧ a ≤ 15) → Z' a = Z a
theorem aRem.lo {Z Z' : aZ} (h : aRem Z Z') : ∀ a : Nat, a < 20 → Z' a = Z a := fun a ha => h.2.2.2 a (by omega) (by have := aRw_rng Z' (Z' 20 2 - 1); omega)
theorem aRem.P {Z Z' : aZ} (h : aRem Z Z') : vP Z' = vP Z := vP_eq (fun a ha => h.lo a (by omega))
theorem aRem.S {Z Z' : aZ} (h : aRem Z Z') : vS Z' 12 = vS Z 12 := vS_frame (h.lo 3 (by omega)) (h.lo 12 (by omega)) (h.lo 13 (by omega)) (h.lo 14 (by omega)) (h.lo 15 (by omega))
theorem aRem.did {Z Z1 Z2 : aZ} {Y Y' : aY} {S' : aSk} (h : aRem Z Z1) (g : aSp Z1 Y 12 S' Z2 Y') : aDid Z S' Z2 := by
  obtain ⟨g1, g2, g3, g4, g5⟩ := g
  have e : Z2 20 = Z1 20 := g3 20 (by omega)
  have er : aRw Z2 (Z2 20 2 - 1) = aRw Z1 (Z1 20 2 - 1) := by unfold aRw; rw [e]
  obtain ⟨h1, h2, h3, h4⟩ := id h
  refine ⟨g1, ?_, by rw [e]; exact h1, by rw [e]; exact h2, ?_, fun a ha hb hc => ?_⟩
  · rw [← h.P]; exact g2
  · rw [er, ← h3]
    have := aRw_rng Z1 (Z1 20 2 - 1)
    exact vRow_eq (g3 3 (by omega)) (g3 _ (by omega))
  · rw [er] at hb
    rw [g3 a (by omega), h4 a ha hb]

set_option maxHeartbeats 4000000 in
set_option maxRecDepth 100000 in
theorem x_day {G : aG} {Z : aZ} {Y : aY} (hA : okA Z) (hB : aB Z) (hP : okP (vP Z)) (hS : okS (vP Z) (vS Z 12)) (hd : Z 12 6 ≤ 5000) : aSI G yX9_day cX9_day 1 (some .int) 4 106 [.ref (G.1 0)] Z Y (fun x Z' Y' => x = sMore (vP Z) (vS Z 12) ∧ aDid Z (dDay (vP Z) (vS Z 12)) Z' ∧ aB Z' ∧ Y' = Y) := by
  refine aS.of (own := RX9) (by decide +kernel) rfl 0 (Nat.le_of_ble_eq_true rfl) (fun X hX hE => ?_)
  show AW X G 0 [some (.ref (G.1 0))] [] Z Y
  have hfP := fP hP
  have hfS := fS hS
  refine a_aload_n hX rfl rfl dX9_day_0 (pc' := 1) rfl ?_
  refine a_getfR hX (r := 20) fl_X9_38 rfl (by decide) rfl dX9_day_1 (pc' := 4) rfl ?_
  refine a_aload_n hX rfl rfl dX9_day_4 (pc' := 5) rfl ?_
  refine a_getfR hX (r := 12) fl_X9_28 rfl (by decide) rfl dX9_day_5 (pc' := 8) rfl ?_
  refine a_cV1V hX cv_X9_165 (c_remember hB hA) rfl (by decide) ⟨by decide, by decide⟩ (Nat.le_of_ble_eq_true rfl) dX9_day_8 (pc' := 11) rfl (fun Z8 Y8 h8 => ?_)
  obtain ⟨q1, q2, q3, q4, hB, rfl⟩ := h8
  have hR8 : aRem Z Z8 := ⟨q1, q2, q3, q4⟩
  have eP : vP Z8 = vP Z := hR8.P
  have eS : vS Z8 12 = vS Z 12 := hR8.S
  have hP1 : okP (vP Z8) := by rw [eP]; exact hP
  have hS1 : okS (vP Z8) (vS Z8 12) := by rw [eP, eS]; exact hS
  have hd1 : Z8 12 6 ≤ 5000 := by rw [hR8.lo 12 (by omega)]; exact hd
  have e39 : Z8 3 = Z 3 := hR8.lo 3 (by omega)
  refine a_aload_n hX rfl rfl dX9_day_11 (pc' := 12) rfl ?_
  refine a_getfR hX (r := 12) fl_X9_28 rfl (by decide) rfl dX9_day_12 (pc' := 15) rfl ?_
  refine a_cV0I hX cv_X9_169 (c_goDay sky12 hB hP1 hS1 hd1) rfl (by decide) ⟨by decide, by decide⟩ (Nat.le_of_ble_eq_true rfl) dX9_day_15 (pc' := 18) rfl (fun x15 Z15 Y15 h15 => ?_)
  obtain ⟨e15, g15⟩ := h15
  rw [eP, eS] at e15 g15
  have hB := g15.2.2.2.1
  have D15 := hR8.did g15
  obtain ⟨-, -, -, -, rfl⟩ := g15
  refine a_iret hX dX9_day_18 (hE _ _ _ ?_)
  exact ⟨_, rfl, e15, D15, hB, rfl⟩

set_option maxHeartbeats 4000000 in
set_option maxRecDepth 100000 in
theorem x_fall {G : aG} {Z : aZ} {Y : aY} {c p : Int} (hc : -2147483648 ≤ c ∧ c < 2147483648) (hp : -2147483648 ≤ p ∧ p < 2147483648) (hA : okA Z) (hB : aB Z) (hP : okP (vP Z)) (hS : okS (vP Z) (vS Z 12)) (hd : Z 12 6 ≤ 5000) : aSI G yX9_fall cX9_fall 3 (some .int) 4 106 [.ref (G.1 0), .int (aI c), .int (aI p)] Z Y (fun x Z' Y' => x = (if (pHasC (vP Z) c && pHasP (vP Z) p) = true then (if sCan (vP Z) (vS Z 12) c p = true then sOwed (vP Z) (dDrop (vP Z) (vS Z 12) c p) p else -3) else -1) ∧ (if ((pHasC (vP Z) c && pHasP (vP Z) p) && sCan (vP Z) (vS Z 12) c p) = true then aDid Z (dDrop (vP Z) (vS Z 12) c p) Z' else Z' = Z) ∧ aB Z' ∧ Y' = Y) := by
  refine aS.of (own := RX9) (by decide +kernel) rfl 0 (Nat.le_of_ble_eq_true rfl) (fun X hX hE => ?_)
  show AW X G 0 [some (.ref (G.1 0)), some (.int (aI c)), some (.int (aI p))] [] Z Y
  have hfP := fP hP
  have hfS := fS hS
  refine a_aload_n hX rfl rfl dX9_fall_0 (pc' := 1) rfl ?_
  refine a_getfR hX (r := 3) fl_X9_19 rfl (by decide) rfl dX9_fall_1 (pc' := 4) rfl ?_
  refine a_iload_n hX rfl rfl dX9_fall_4 (pc' := 5) rfl ?_
  refine a_cV1i hX cv_X9_121 (c_hasCloud (by omega) hB hP) rfl (by decide) ⟨by decide, by decide⟩ (Nat.le_of_ble_eq_true rfl) dX9_fall_5 (pc' := 8) rfl ?_
  refine a_ifb_eq hX dX9_fall_8 (pc' := 11) rfl (tgt := 22) (by decide) (fun c8 => ?_) (fun c8 => ?_)
  · refine a_iconst hX dX9_fall_22 (pc' := 23) rfl ?_
    refine a_iret hX dX9_fall_23 (hE _ _ _ ?_)
    first
      | exact ⟨_, rfl, by rw [c8]; rfl, by rw [c8]; exact rfl, hB, rfl⟩
      | exact ⟨_, rfl, by rw [c8, c19]; rfl, by rw [c8, c19]; exact rfl, hB, rfl⟩
  · have hc1 := pHasC_no c8
    refine a_aload_n hX rfl rfl dX9_fall_11 (pc' := 12) rfl ?_
    refine a_getfR hX (r := 3) fl_X9_19 rfl (by decide) rfl dX9_fall_12 (pc' := 15) rfl ?_
    refine a_iload_n hX rfl rfl dX9_fall_15 (pc' := 16) rfl ?_
    refine a_cV1i hX cv_X9_144 (c_hasPaper (by omega) hB hP) rfl (by decide) ⟨by decide, by decide⟩ (Nat.le_of_ble_eq_true rfl) dX9_fall_16 (pc' := 19) rfl ?_
    refine a_ifb_ne hX dX9_fall_19 (pc' := 22) rfl (tgt := 24) (by decide) (fun c19 => ?_) (fun c19 => ?_)
    · have hp1 := pHasP_no c19
      refine a_aload_n hX rfl rfl dX9_fall_24 (pc' := 25) rfl ?_
      refine a_getfR hX (r := 12) fl_X9_28 rfl (by decide) rfl dX9_fall_25 (pc' := 28) rfl ?_
      refine a_iload_n hX rfl rfl dX9_fall_28 (pc' := 29) rfl ?_
      refine a_iload_n hX rfl rfl dX9_fall_29 (pc' := 30) rfl ?_
      refine a_cV2i hX cv_X9_172 (c_canDrop (by omega) (by omega) sky12 hB hP hS hd) rfl (by decide) ⟨by decide, by decide⟩ (Nat.le_of_ble_eq_true rfl) dX9_fall_30 (pc' := 33) rfl ?_
      refine a_ifb_ne hX dX9_fall_33 (pc' := 36) rfl (tgt := 39) (by decide) (fun c33 => ?_) (fun c33 => ?_)
      · simp only [c8, c19, Bool.true_and] at c33
        refine a_aload_n hX rfl rfl dX9_fall_39 (pc' := 40) rfl ?_
        refine a_getfR hX (r := 20) fl_X9_38 rfl (by decide) rfl dX9_fall_40 (pc' := 43) rfl ?_
        refine a_aload_n hX rfl rfl dX9_fall_43 (pc' := 44) rfl ?_
        refine a_getfR hX (r := 12) fl_X9_28 rfl (by decide) rfl dX9_fall_44 (pc' := 47) rfl ?_
        refine a_cV1V hX cv_X9_165 (c_remember hB hA) rfl (by decide) ⟨by decide, by decide⟩ (Nat.le_of_ble_eq_true rfl) dX9_fall_47 (pc' := 50) rfl (fun Z47 Y47 h47 => ?_)
        obtain ⟨q1, q2, q3, q4, hB, rfl⟩ := h47
        have hR47 : aRem Z Z47 := ⟨q1, q2, q3, q4⟩
        have eP : vP Z47 = vP Z := hR47.P
        have eS : vS Z47 12 = vS Z 12 := hR47.S
        have hP1 : okP (vP Z47) := by rw [eP]; exact hP
        have hS1 : okS (vP Z47) (vS Z47 12) := by rw [eP, eS]; exact hS
        have hd1 : Z47 12 6 ≤ 5000 := by rw [hR47.lo 12 (by omega)]; exact hd
        have e39 : Z47 3 = Z 3 := hR47.lo 3 (by omega)
        refine a_aload_n hX rfl rfl dX9_fall_50 (pc' := 51) rfl ?_
        refine a_getfR hX (r := 12) fl_X9_28 rfl (by decide) rfl dX9_fall_51 (pc' := 54) rfl ?_
        refine a_iload_n hX rfl rfl dX9_fall_54 (pc' := 55) rfl ?_
        refine a_iload_n hX rfl rfl dX9_fall_55 (pc' := 56) rfl ?_
        refine a_cV2V hX cv_X9_176 (c_drop (by rw [e39]; exact hc1) (by rw [e39]; exact hp1) (by rw [eP, eS]; exact (sCan_takes c33).1) (by rw [eP, eS]; exact (sCan_takes c33).2) sky12 hB hP1 hS1 hd1) rfl (by decide) ⟨by decide, by decide⟩ (Nat.le_of_ble_eq_true rfl) dX9_fall_56 (pc' := 59) rfl (fun Z56 Y56 h56 => ?_)
        rw [eP, eS] at h56
        have D56 := hR47.did h56
        have eP6 : vP Z56 = vP Z := by rw [h56.2.2.1.P (by decide), eP]
        have hP6 : okP (vP Z56) := by rw [eP6]; exact hP
        have hS6 : okS (vP Z56) (vS Z56 12) := by rw [eP6, h56.1]; exact D56.2.1
        have e396 : Z56 3 = Z 3 := by rw [h56.2.2.1 3 (by omega), e39]
        have hd6 : Z56 12 6 ≤ 5000 := by
          have e : vS Z56 12 15 = vS Z 12 15 := by rw [h56.1]; unfold dDrop; rw [if_neg (by omega), if_neg (by omega)]
          rw [vS_15, vS_15] at e
          rw [e]; exact hd
        obtain ⟨e56, -, -, hB, rfl⟩ := h56
        refine a_aload_n hX rfl rfl dX9_fall_59 (pc' := 60) rfl ?_
        refine a_getfR hX (r := 12) fl_X9_28 rfl (by decide) rfl dX9_fall_60 (pc' := 63) rfl ?_
        refine a_iload_n hX rfl rfl dX9_fall_63 (pc' := 64) rfl ?_
        refine a_cV1i hX cv_X9_159 (c_owed (by rw [e396]; exact hp1) sky12 hB hP6 hS6 hd6) rfl (by decide) ⟨by decide, by decide⟩ (Nat.le_of_ble_eq_true rfl) dX9_fall_64 (pc' := 67) rfl ?_
        refine a_iret hX dX9_fall_67 (hE _ _ _ ?_)
        exact ⟨_, rfl, by rw [c8, c19, c33, eP6, e56]; rfl, by rw [c8, c19, c33]; exact D56, hB, rfl⟩
      · simp only [c8, c19, Bool.true_and] at c33
        refine a_bipush hX rfl dX9_fall_36 (pc' := 38) rfl ?_
        refine a_iret hX dX9_fall_38 (hE _ _ _ ?_)
        exact ⟨_, rfl, by rw [c8, c19, c33]; rfl, by rw [c8, c19, c33]; exact rfl, hB, rfl⟩
    · refine a_iconst hX dX9_fall_22 (pc' := 23) rfl ?_
      refine a_iret hX dX9_fall_23 (hE _ _ _ ?_)
      first
        | exact ⟨_, rfl, by rw [c8]; rfl, by rw [c8]; exact rfl, hB, rfl⟩
        | exact ⟨_, rfl, by rw [c8, c19]; rfl, by rw [c8, c19]; exact rfl, hB, rfl⟩

theorem aSh_row {r : Nat} (h : 22 ≤ r ∧ r < 36) : aSh r = (1, 0, [16]) := by
  have : ∀ r, r < 36 → 22 ≤ r → aSh r = (1, 0, [16]) := by decide
  exact this r h.2 h.1
def sky12 : aSky 12 := Or.inl rfl
def sky16 : aSky 16 := Or.inr rfl
/-- ACTS: the row of the i-th one -/
def aRw (Z : aZ) (i : Int) : Nat := 22 + ((Z 20 1 + i) % 14).toNat
def okA (Z : aZ) : Prop := (0 ≤ Z 20 1 ∧ Z 20 1 < 14) ∧ (0 ≤ Z 20 2 ∧ Z 20 2 ≤ 14)
theorem aRw_rng (Z : aZ) (i : Int) : 22 ≤ aRw Z i ∧ aRw Z i < 36 := by
  unfold aRw
  have := Int.emod_nonneg (Z 20 1 + i) (show (14 : Int) ≠ 0 by omega)
  have := Int.emod_lt_of_pos (Z 20 1 + i) (show (0 : Int) < 14 by omega)
  omega

set_option maxHeartbeats 4000000 in
set_option maxRecDepth 100000 in
theorem c_remember {G : aG} {Z : aZ} {Y : aY} (hB : aB Z) (hA : okA Z) : aSV G yX0_remember cX0_remember 2 none 2 85 [.ref (G.1 20), .ref (G.1 12)] Z Y (fun Z' Y' => Z' 20 2 = (if Z 20 2 = 14 then 14 else Z 20 2 + 1) ∧ Z' 20 1 = (if Z 20 2 = 14 then (Z 20 1 + 1) % 14 else Z 20 1) ∧ vRow Z' (aRw Z' (Z' 20 2 - 1)) = vS Z 12 ∧ (∀ a : Nat, a ≠ 20 → a ≠ aRw Z' (Z' 20 2 - 1) → Z' a = Z a) ∧ aB Z' ∧ Y' = Y) := by
  refine aS.of (own := RX0) (by decide +kernel) rfl 0 (Nat.le_of_ble_eq_true rfl) (fun X hX hE => ?_)
  show AW X G 0 [some (.ref (G.1 20)), some (.ref (G.1 12))] [] Z Y
  obtain ⟨hA1, hA2⟩ := id hA
  refine a_aload_n hX rfl rfl dX0_remember_0 (pc' := 1) rfl ?_
  refine a_getfI hX (ji := 2) rfl hB fl_X0_22 rfl (by decide) rfl dX0_remember_1 (pc' := 4) rfl (fun hb => ?_)
  refine a_bipush hX rfl dX0_remember_4 (pc' := 6) rfl ?_
  have J28 : ∀ (Z1 : aZ), aB Z1 → (0 ≤ Z1 20 2 ∧ Z1 20 2 ≤ 13) → (0 ≤ Z1 20 1 ∧ Z1 20 1 < 14) → Z1 20 2 + 1 = (if Z 20 2 = 14 then 14 else Z 20 2 + 1) → Z1 20 1 = (if Z 20 2 = 14 then (Z 20 1 + 1) % 14 else Z 20 1) → (∀ a : Nat, a ≠ 20 → Z1 a = Z a) → AW X G 28 [some (.ref (G.1 20)), some (.ref (G.1 12))] [] Z1 Y := by
    intro Z1 hB hn hf e1 e2 hz
    have q1 := Int.emod_nonneg (Z1 20 1 + Z1 20 2) (show (14 : Int) ≠ 0 by omega)
    have q2 := Int.emod_lt_of_pos (Z1 20 1 + Z1 20 2) (show (0 : Int) < 14 by omega)
    have hr : aSh (22 + ((Z1 20 1 + Z1 20 2) % 14).toNat) = (1, 0, [16]) := aSh_row (by omega)
    refine a_aload_n hX rfl rfl dX0_remember_28 (pc' := 29) rfl ?_
    refine a_aload_n hX rfl rfl dX0_remember_29 (pc' := 30) rfl ?_
    refine a_getfR hX (r := 21) fl_X0_13 rfl (by decide) rfl dX0_remember_30 (pc' := 33) rfl ?_
    refine a_aload_n hX rfl rfl dX0_remember_33 (pc' := 34) rfl ?_
    refine a_getfI hX (ji := 1) rfl hB fl_X0_18 rfl (by decide) rfl dX0_remember_34 (pc' := 37) rfl (fun hb => ?_)
    refine a_aload_n hX rfl rfl dX0_remember_37 (pc' := 38) rfl ?_
    refine a_getfI hX (ji := 2) rfl hB fl_X0_22 rfl (by decide) rfl dX0_remember_38 (pc' := 41) rfl (fun hb => ?_)
    refine a_iadd hX dX0_remember_41 (pc' := 42) rfl ?_
    refine a_bipush hX rfl dX0_remember_42 (pc' := 44) rfl ?_
    refine a_irem hX (by omega) (by omega) dX0_remember_44 (pc' := 45) rfl ?_
    refine a_aald hX rfl (by decide) (by decide) (by omega) dX0_remember_45 (pc' := 46) rfl ?_
    refine a_cV1V hX cv_X0_25 (c_store hr (by omega) sky12 hB) rfl (by decide) ⟨by decide, by decide⟩ (Nat.le_of_ble_eq_true rfl) dX0_remember_46 (pc' := 49) rfl (fun Z46 Y46 h46 => ?_)
    obtain ⟨g1, g2, hB, rfl⟩ := h46
    have eN : Z46 20 2 = Z1 20 2 := by rw [g2 20 (by omega)]
    have eF : Z46 20 1 = Z1 20 1 := by rw [g2 20 (by omega)]
    refine a_aload_n hX rfl rfl dX0_remember_49 (pc' := 50) rfl ?_
    refine a_dup hX rfl dX0_remember_50 (pc' := 51) rfl ?_
    refine a_getfI hX (ji := 2) rfl hB fl_X0_22 rfl (by decide) rfl dX0_remember_51 (pc' := 54) rfl (fun hb => ?_)
    refine a_iconst hX dX0_remember_54 (pc' := 55) rfl ?_
    refine a_iadd hX dX0_remember_55 (pc' := 56) rfl ?_
    refine a_putfIB hX fl_X0_22 nf_0_2 (ji := 2) rfl rfl (by decide) rfl hB (by omega) dX0_remember_56 (pc' := 59) rfl (fun hB => ?_)
    refine a_vret hX dX0_remember_59 (hE _ _ _ ?_)
    have er : aRw (aU Z46 20 2 (Z46 20 2 + 1)) (Z46 20 2 + 1 - 1) = (22 + ((Z1 20 1 + Z1 20 2) % 14).toNat) := by
      unfold aRw
      rw [aU_nj (by decide), eF, eN, show Z1 20 2 + 1 - 1 = Z1 20 2 by omega]
    have g3 : ∀ a : Nat, a ≠ 20 → a ≠ (22 + ((Z1 20 1 + Z1 20 2) % 14).toNat) → (aU Z46 20 2 (Z46 20 2 + 1)) a = Z a := fun a h1 h2 => by rw [aU_row h1, g2 a h2, hz a h1]
    refine ⟨rfl, by rw [aU_eq, eN]; exact e1, by rw [aU_nj (by decide), eF]; exact e2, ?_, by rw [aU_eq, er]; exact g3, hB, rfl⟩
    rw [aU_eq, er, ← vS_frame (Z := Z) (hz 3 (by omega)) (hz 12 (by omega)) (hz 13 (by omega)) (hz 14 (by omega)) (hz 15 (by omega)), ← g1]
    exact vRow_eq (aU_row (by omega)) (aU_row (by omega))
  refine a_icmp_lt hX (by omega) (by omega) dX0_remember_6 (pc' := 9) rfl (tgt := 28) (by decide) (fun c6 => ?_) (fun c6 => ?_)
  · first
      | exact J28 _ hB (by rw [aU_eq]; omega) (by rw [aU_nj (by decide), aU_eq]; omega) (by rw [aU_eq, if_pos (by omega)]; omega) (by rw [aU_nj (by decide), aU_eq, if_pos (by omega)]) (fun a ha => by rw [aU_row ha, aU_row ha])
      | exact J28 Z hB (by omega) (by omega) (by rw [if_neg (by omega)]) (by rw [if_neg (by omega)]) (fun _ _ => rfl)
  · refine a_aload_n hX rfl rfl dX0_remember_9 (pc' := 10) rfl ?_
    refine a_aload_n hX rfl rfl dX0_remember_10 (pc' := 11) rfl ?_
    refine a_getfI hX (ji := 1) rfl hB fl_X0_18 rfl (by decide) rfl dX0_remember_11 (pc' := 14) rfl (fun hb => ?_)
    refine a_iconst hX dX0_remember_14 (pc' := 15) rfl ?_
    refine a_iadd hX dX0_remember_15 (pc' := 16) rfl ?_
    have q1 := Int.emod_nonneg (Z 20 1 + 1) (show (14 : Int) ≠ 0 by omega)
    have q2 := Int.emod_lt_of_pos (Z 20 1 + 1) (show (0 : Int) < 14 by omega)
    refine a_bipush hX rfl dX0_remember_16 (pc' := 18) rfl ?_
    refine a_irem hX (by omega) (by omega) dX0_remember_18 (pc' := 19) rfl ?_
    refine a_putfIB hX fl_X0_18 nf_0_1 (ji := 1) rfl rfl (by decide) rfl hB (by omega) dX0_remember_19 (pc' := 22) rfl (fun hB => ?_)
    refine a_aload_n hX rfl rfl dX0_remember_22 (pc' := 23) rfl ?_
    refine a_bipush hX rfl dX0_remember_23 (pc' := 25) rfl ?_
    refine a_putfIB hX fl_X0_22 nf_0_2 (ji := 2) rfl rfl (by decide) rfl hB (by omega) dX0_remember_25 (pc' := 28) rfl (fun hB => ?_)
    first
      | exact J28 _ hB (by rw [aU_eq]; omega) (by rw [aU_nj (by decide), aU_eq]; omega) (by rw [aU_eq, if_pos (by omega)]; omega) (by rw [aU_nj (by decide), aU_eq, if_pos (by omega)]) (fun a ha => by rw [aU_row ha, aU_row ha])
      | exact J28 Z hB (by omega) (by omega) (by rw [if_neg (by omega)]) (by rw [if_neg (by omega)]) (fun _ _ => rfl)

set_option maxHeartbeats 4000000 in
set_option maxRecDepth 100000 in
theorem c_takeBack {G : aG} {Z : aZ} {Y : aY} (hB : aB Z) (hA : okA Z) (hR : 0 < Z 20 2 → okS (vP Z) (vRow Z (aRw Z (Z 20 2 - 1)))) : aSI G yX0_takeBack cX0_takeBack 2 (some .boolean) 2 85 [.ref (G.1 20), .ref (G.1 12)] Z Y (fun x Z' Y' => x = aTr (decide (0 < Z 20 2)) ∧ Z' 20 2 = (if 0 < Z 20 2 then Z 20 2 - 1 else Z 20 2) ∧ Z' 20 1 = Z 20 1 ∧ vS Z' 12 = (if 0 < Z 20 2 then vRow Z (aRw Z (Z 20 2 - 1)) else vS Z 12) ∧ (∀ a : Nat, a ≠ 20 → ¬ (12 ≤ a ∧ a ≤ 15) → Z' a = Z a) ∧ aB Z' ∧ Y' = Y) := by
  refine aS.of (own := RX0) (by decide +kernel) rfl 0 (Nat.le_of_ble_eq_true rfl) (fun X hX hE => ?_)
  show AW X G 0 [some (.ref (G.1 20)), some (.ref (G.1 12))] [] Z Y
  obtain ⟨hA1, hA2⟩ := id hA
  refine a_aload_n hX rfl rfl dX0_takeBack_0 (pc' := 1) rfl ?_
  refine a_getfI hX (ji := 2) rfl hB fl_X0_22 rfl (by decide) rfl dX0_takeBack_1 (pc' := 4) rfl (fun hb => ?_)
  refine a_if_gt hX (by omega) dX0_takeBack_4 (pc' := 7) rfl (tgt := 9) (by decide) (fun c4 => ?_) (fun c4 => ?_)
  · refine a_aload_n hX rfl rfl dX0_takeBack_9 (pc' := 10) rfl ?_
    refine a_dup hX rfl dX0_takeBack_10 (pc' := 11) rfl ?_
    refine a_getfI hX (ji := 2) rfl hB fl_X0_22 rfl (by decide) rfl dX0_takeBack_11 (pc' := 14) rfl (fun hb => ?_)
    refine a_iconst hX dX0_takeBack_14 (pc' := 15) rfl ?_
    refine a_isub hX dX0_takeBack_15 (pc' := 16) rfl ?_
    refine a_putfIB hX fl_X0_22 nf_0_2 (ji := 2) rfl rfl (by decide) rfl hB (by omega) dX0_takeBack_16 (pc' := 19) rfl (fun hB => ?_)
    refine a_aload_n hX rfl rfl dX0_takeBack_19 (pc' := 20) rfl ?_
    refine a_aload_n hX rfl rfl dX0_takeBack_20 (pc' := 21) rfl ?_
    refine a_getfR hX (r := 21) fl_X0_13 rfl (by decide) rfl dX0_takeBack_21 (pc' := 24) rfl ?_
    refine a_aload_n hX rfl rfl dX0_takeBack_24 (pc' := 25) rfl ?_
    refine a_getfI hX (ji := 1) rfl hB fl_X0_18 rfl (by decide) rfl dX0_takeBack_25 (pc' := 28) rfl (fun hb => ?_)
    refine a_aload_n hX rfl rfl dX0_takeBack_28 (pc' := 29) rfl ?_
    refine a_getfI hX (ji := 2) rfl hB fl_X0_22 rfl (by decide) rfl dX0_takeBack_29 (pc' := 32) rfl (fun hb => ?_)
    rw [aU_nj (show (1 : Int) ≠ 2 by decide), aU_eq]
    refine a_iadd hX dX0_takeBack_32 (pc' := 33) rfl ?_
    refine a_bipush hX rfl dX0_takeBack_33 (pc' := 35) rfl ?_
    refine a_irem hX (by omega) (by omega) dX0_takeBack_35 (pc' := 36) rfl ?_
    have q1 := Int.emod_nonneg (Z 20 1 + (Z 20 2 - 1)) (show (14 : Int) ≠ 0 by omega)
    have q2 := Int.emod_lt_of_pos (Z 20 1 + (Z 20 2 - 1)) (show (0 : Int) < 14 by omega)
    have hr : aSh (22 + ((Z 20 1 + (Z 20 2 - 1)) % 14).toNat) = (1, 0, [16]) := aSh_row (by omega)
    have h3 : aU Z 20 2 (Z 20 2 - 1) 3 = Z 3 := aU_row (by omega)
    have hR1 : okS (vP (aU Z 20 2 (Z 20 2 - 1))) (vRow (aU Z 20 2 (Z 20 2 - 1)) (22 + ((Z 20 1 + (Z 20 2 - 1)) % 14).toNat)) := by
      rw [vP_eq (fun a ha => aU_row (by omega)), vRow_eq h3 (aU_row (by omega))]
      exact hR (by omega)
    refine a_aald hX rfl (by decide) (by decide) (by omega) dX0_takeBack_36 (pc' := 37) rfl ?_
    refine a_cV1V hX cv_X0_29 (c_load hr (by omega) hR1 sky12 hB) rfl (by decide) ⟨by decide, by decide⟩ (Nat.le_of_ble_eq_true rfl) dX0_takeBack_37 (pc' := 40) rfl (fun Z37 Y37 h37 => ?_)
    obtain ⟨g1, g0, g2, hB, rfl⟩ := h37
    refine a_iconst hX dX0_takeBack_40 (pc' := 41) rfl ?_
    refine a_zret hX (by omega) dX0_takeBack_41 (hE _ _ _ ?_)
    refine ⟨_, rfl, (aTr_pos (by omega)).symm, ?_, ?_, ?_, fun a h1 h2 => ?_, hB, rfl⟩
    · rw [g2 20 (by omega), aU_eq, if_pos (by omega)]
    · rw [g2 20 (by omega), aU_nj (by decide)]
    · rw [g1, if_pos (by omega), vRow_eq h3 (aU_row (by omega))]
      rfl
    · rw [g2 a (by omega), aU_row h1]
  · refine a_iconst hX dX0_takeBack_7 (pc' := 8) rfl ?_
    refine a_zret hX (by omega) dX0_takeBack_8 (hE _ _ _ ?_)
    exact ⟨_, rfl, (aTr_neg (by omega)).symm, by rw [if_neg (by omega)], rfl, by rw [if_neg (by omega)], fun _ _ _ => rfl, hB, rfl⟩

set_option maxHeartbeats 4000000 in
set_option maxRecDepth 100000 in
theorem c_forget {G : aG} {Z : aZ} {Y : aY} (hB : aB Z) : aSV G yX0_forget cX0_forget 1 none 0 0 [.ref (G.1 20)] Z Y (fun Z' Y' => Z' = aU (aU Z 20 1 0) 20 2 0 ∧ aB Z' ∧ Y' = Y) := by
  refine aS.of (own := RX0) (by decide +kernel) rfl 0 (Nat.le_of_ble_eq_true rfl) (fun X hX hE => ?_)
  show AW X G 0 [some (.ref (G.1 20))] [] Z Y
  refine a_aload_n hX rfl rfl dX0_forget_0 (pc' := 1) rfl ?_
  refine a_iconst hX dX0_forget_1 (pc' := 2) rfl ?_
  refine a_putfIB hX fl_X0_18 nf_0_1 (ji := 1) rfl rfl (by decide) rfl hB (by omega) dX0_forget_2 (pc' := 5) rfl (fun hB => ?_)
  refine a_aload_n hX rfl rfl dX0_forget_5 (pc' := 6) rfl ?_
  refine a_iconst hX dX0_forget_6 (pc' := 7) rfl ?_
  refine a_putfIB hX fl_X0_22 nf_0_2 (ji := 2) rfl rfl (by decide) rfl hB (by omega) dX0_forget_7 (pc' := 10) rfl (fun hB => ?_)
  refine a_vret hX dX0_forget_10 (hE _ _ _ ?_)
  exact ⟨rfl, rfl, hB, rfl⟩

set_option maxHeartbeats 4000000 in
set_option maxRecDepth 100000 in
theorem c_seeAdd {G : aG} {Z : aZ} {Y : aY} {y n : Int} (hB : aB Z) (hn : 0 ≤ Z 36 2 ∧ Z 36 2 ≤ 6) (hy : 0 ≤ y ∧ y ≤ 5) (hn2 : 0 ≤ n ∧ n ≤ 9) : aSI G yX7_add cX7_add 3 (some .boolean) 0 0 [.ref (G.1 36), .int (aI y), .int (aI n)] Z Y (fun x Z' Y' => x = aTr (decide (Z 36 2 < 6)) ∧ Z' = (if Z 36 2 < 6 then aU (aU (aU Z 37 (Z 36 2) y) 38 (Z 36 2) n) 36 2 (Z 36 2 + 1) else Z) ∧ aB Z' ∧ Y' = Y) := by
  refine aS.of (own := RX7) (by decide +kernel) rfl 0 (Nat.le_of_ble_eq_true rfl) (fun X hX hE => ?_)
  show AW X G 0 [some (.ref (G.1 36)), some (.int (aI y)), some (.int (aI n))] [] Z Y
  refine a_aload_n hX rfl rfl dX7_add_0 (pc' := 1) rfl ?_
  refine a_getfI hX (ji := 2) rfl hB fl_X7_18 rfl (by decide) rfl dX7_add_1 (pc' := 4) rfl (fun hb => ?_)
  refine a_if_lt hX (by omega) dX7_add_4 (pc' := 7) rfl (tgt := 16) (by decide) (fun c4 => ?_) (fun c4 => ?_)
  · omega
  · refine a_aload_n hX rfl rfl dX7_add_7 (pc' := 8) rfl ?_
    refine a_getfI hX (ji := 2) rfl hB fl_X7_18 rfl (by decide) rfl dX7_add_8 (pc' := 11) rfl (fun hb => ?_)
    refine a_bipush hX rfl dX7_add_11 (pc' := 13) rfl ?_
    refine a_icmp_lt hX (by omega) (by omega) dX7_add_13 (pc' := 16) rfl (tgt := 18) (by decide) (fun c13 => ?_) (fun c13 => ?_)
    · refine a_aload_n hX rfl rfl dX7_add_18 (pc' := 19) rfl ?_
      refine a_getfR hX (r := 37) fl_X7_9 rfl (by decide) rfl dX7_add_19 (pc' := 22) rfl ?_
      refine a_aload_n hX rfl rfl dX7_add_22 (pc' := 23) rfl ?_
      refine a_getfI hX (ji := 2) rfl hB fl_X7_18 rfl (by decide) rfl dX7_add_23 (pc' := 26) rfl (fun hb => ?_)
      refine a_iload_n hX rfl rfl dX7_add_26 (pc' := 27) rfl ?_
      refine a_iastB hX rfl (by decide) (by decide) (by omega) hB (by omega) dX7_add_27 (pc' := 28) rfl (fun hB => ?_)
      refine a_aload_n hX rfl rfl dX7_add_28 (pc' := 29) rfl ?_
      refine a_getfR hX (r := 38) fl_X7_15 rfl (by decide) rfl dX7_add_29 (pc' := 32) rfl ?_
      refine a_aload_n hX rfl rfl dX7_add_32 (pc' := 33) rfl ?_
      refine a_getfI hX (ji := 2) rfl hB fl_X7_18 rfl (by decide) rfl dX7_add_33 (pc' := 36) rfl (fun hb => ?_)
      rw [aU_ne (show 36 ≠ 37 by decide)]
      refine a_iload_n hX rfl rfl dX7_add_36 (pc' := 37) rfl ?_
      refine a_iastB hX rfl (by decide) (by decide) (by omega) hB (by omega) dX7_add_37 (pc' := 38) rfl (fun hB => ?_)
      refine a_aload_n hX rfl rfl dX7_add_38 (pc' := 39) rfl ?_
      refine a_dup hX rfl dX7_add_39 (pc' := 40) rfl ?_
      refine a_getfI hX (ji := 2) rfl hB fl_X7_18 rfl (by decide) rfl dX7_add_40 (pc' := 43) rfl (fun hb => ?_)
      refine a_iconst hX dX7_add_43 (pc' := 44) rfl ?_
      rw [aU_ne (show 36 ≠ 38 by decide), aU_ne (show 36 ≠ 37 by decide)]
      refine a_iadd hX dX7_add_44 (pc' := 45) rfl ?_
      refine a_putfIB hX fl_X7_18 nf_6_2 (ji := 2) rfl rfl (by decide) rfl hB (by omega) dX7_add_45 (pc' := 48) rfl (fun hB => ?_)
      refine a_iconst hX dX7_add_48 (pc' := 49) rfl ?_
      refine a_zret hX (by omega) dX7_add_49 (hE _ _ _ ?_)
      exact ⟨_, rfl, (aTr_pos (by omega)).symm, (if_pos (by omega)).symm, hB, rfl⟩
    · refine a_iconst hX dX7_add_16 (pc' := 17) rfl ?_
      refine a_zret hX (by omega) dX7_add_17 (hE _ _ _ ?_)
      exact ⟨_, rfl, (aTr_neg (by omega)).symm, (if_neg (by omega)).symm, hB, rfl⟩

/-- all that is SEEN is so for a cloud of a kind that began over y -/
def sAgN (P : aP) (f g : Int → Int) (k y : Int) : Nat → Bool
  | 0 => true
  | n + 1 => sAgN P f g k y n && decide (pCarry P k y 0 (g n).toNat = f n)
theorem sAgN_f {P : aP} {f g : Int → Int} {k y : Int} {n : Nat} (h : sAgN P f g k y n = false) : ∀ m : Nat, n ≤ m → sAgN P f g k y m = false := by
  intro m hm
  obtain ⟨d, rfl⟩ := Nat.exists_eq_add_of_le hm
  induction d with
  | zero => exact h
  | succ d ih =>
    show (sAgN P f g k y (n + d) && _) = false
    rw [ih (by omega), Bool.false_and]
def okSee (Z : aZ) : Prop := (0 ≤ Z 36 2 ∧ Z 36 2 ≤ 6) ∧ (∀ j, 0 ≤ Z 37 j ∧ Z 37 j ≤ 5) ∧ ∀ j, 0 ≤ Z 38 j ∧ Z 38 j ≤ 9

set_option maxHeartbeats 4000000 in
set_option maxRecDepth 100000 in
theorem c_agrees {G : aG} {Z : aZ} {Y : aY} {k y : Int} (hk : 0 ≤ k ∧ k ≤ 3) (hy : 0 ≤ y ∧ y ≤ 5) (hB : aB Z) (hP : okP (vP Z)) (hW : okSee Z) : aSi G yX7_agrees cX7_agrees 5 (some .boolean) 3 72 [.ref (G.1 36), .int (aI k), .int (aI y), .ref (G.1 3)] Z Y (aTr (sAgN (vP Z) (Z 37) (Z 38) k y (Z 36 2).toNat)) := by
  refine aS.of (own := RX7) (by decide +kernel) rfl 1 (Nat.le_of_ble_eq_true rfl) (fun X hX hE => ?_)
  show AW X G 0 [some (.ref (G.1 36)), some (.int (aI k)), some (.int (aI y)), some (.ref (G.1 3)), none] [] Z Y
  have hW0 := hW.1
  refine a_iconst hX dX7_agrees_0 (pc' := 1) rfl ?_
  refine a_istore4 hX (by decide) rfl dX7_agrees_1 (pc' := 3) rfl ?_
  have L3 : ∀ (n : Nat) (i : Int), (0 ≤ i ∧ i ≤ Z 36 2) → sAgN (vP Z) (Z 37) (Z 38) k y i.toNat = true → (Z 36 2 - i).toNat < n → AW X G 3 [some (.ref (G.1 36)), some (.int (aI k)), some (.int (aI y)), some (.ref (G.1 3)), some (.int (aI i))] [] Z Y := by
    intro n
    induction n with
    | zero =>
      intro i hi hs hn
      omega
    | succ n ih =>
      intro i hi hs hn
      have hz := hW.2.2 i
      have hs2 : sAgN (vP Z) (Z 37) (Z 38) k y (i.toNat + 1) = (sAgN (vP Z) (Z 37) (Z 38) k y i.toNat && decide (pCarry (vP Z) k y 0 (Z 38 (i.toNat : Int)).toNat = Z 37 (i.toNat : Int))) := rfl
      rw [Int.toNat_of_nonneg hi.1, hs, Bool.true_and] at hs2
      refine a_iload hX rfl dX7_agrees_3 (pc' := 5) rfl ?_
      refine a_aload_n hX rfl rfl dX7_agrees_5 (pc' := 6) rfl ?_
      refine a_getfI hX (ji := 2) rfl hB fl_X7_18 rfl (by decide) rfl dX7_agrees_6 (pc' := 9) rfl (fun hb => ?_)
      refine a_icmp_ge hX (by have := pCarry_rng (P := vP Z) (k := k) (y := y) (d := 0) hy (Z 38 i).toNat; omega) (by have := pCarry_rng (P := vP Z) (k := k) (y := y) (d := 0) hy (Z 38 i).toNat; omega) dX7_agrees_9 (pc' := 12) rfl (tgt := 51) (by decide) (fun c9 => ?_) (fun c9 => ?_)
      · refine a_iconst hX dX7_agrees_51 (pc' := 52) rfl ?_
        refine a_zret hX (by omega) dX7_agrees_52 (hE _ _ _ ?_)
        refine ⟨aLf ?_, rfl, rfl⟩
        rw [show (Z 36 2).toNat = i.toNat by omega]
        exact (aTr_true hs).symm
      · refine a_iload hX rfl dX7_agrees_12 (pc' := 14) rfl ?_
        refine a_bipush hX rfl dX7_agrees_14 (pc' := 16) rfl ?_
        refine a_icmp_ge hX (by have := pCarry_rng (P := vP Z) (k := k) (y := y) (d := 0) hy (Z 38 i).toNat; omega) (by have := pCarry_rng (P := vP Z) (k := k) (y := y) (d := 0) hy (Z 38 i).toNat; omega) dX7_agrees_16 (pc' := 19) rfl (tgt := 51) (by decide) (fun c16 => ?_) (fun c16 => ?_)
        · refine a_iconst hX dX7_agrees_51 (pc' := 52) rfl ?_
          refine a_zret hX (by omega) dX7_agrees_52 (hE _ _ _ ?_)
          refine ⟨aLf ?_, rfl, rfl⟩
          rw [show (Z 36 2).toNat = i.toNat by omega]
          exact (aTr_true hs).symm
        · refine a_aload_n hX rfl rfl dX7_agrees_19 (pc' := 20) rfl ?_
          refine a_iload_n hX rfl rfl dX7_agrees_20 (pc' := 21) rfl ?_
          refine a_iload_n hX rfl rfl dX7_agrees_21 (pc' := 22) rfl ?_
          refine a_iconst hX dX7_agrees_22 (pc' := 23) rfl ?_
          refine a_aload_n hX rfl rfl dX7_agrees_23 (pc' := 24) rfl ?_
          refine a_getfR hX (r := 38) fl_X7_15 rfl (by decide) rfl dX7_agrees_24 (pc' := 27) rfl ?_
          refine a_iload hX rfl dX7_agrees_27 (pc' := 29) rfl ?_
          refine a_iald hX rfl (by decide) (by decide) (by have := pCarry_rng (P := vP Z) (k := k) (y := y) (d := 0) hy (Z 38 i).toNat; omega) hB dX7_agrees_29 (pc' := 30) rfl (fun hb => ?_)
          refine a_cV4i hX cv_X7_26 (c_carried (by omega) (by omega) (by omega) (by omega) hB hP) rfl (by decide) ⟨by decide, by decide⟩ (Nat.le_of_ble_eq_true rfl) dX7_agrees_30 (pc' := 33) rfl ?_
          refine a_aload_n hX rfl rfl dX7_agrees_33 (pc' := 34) rfl ?_
          refine a_getfR hX (r := 37) fl_X7_9 rfl (by decide) rfl dX7_agrees_34 (pc' := 37) rfl ?_
          refine a_iload hX rfl dX7_agrees_37 (pc' := 39) rfl ?_
          refine a_iald hX rfl (by decide) (by decide) (by have := pCarry_rng (P := vP Z) (k := k) (y := y) (d := 0) hy (Z 38 i).toNat; omega) hB dX7_agrees_39 (pc' := 40) rfl (fun hb => ?_)
          refine a_icmp_eq hX (by have := pCarry_rng (P := vP Z) (k := k) (y := y) (d := 0) hy (Z 38 i).toNat; omega) (by have := pCarry_rng (P := vP Z) (k := k) (y := y) (d := 0) hy (Z 38 i).toNat; omega) dX7_agrees_40 (pc' := 43) rfl (tgt := 45) (by decide) (fun c40 => ?_) (fun c40 => ?_)
          · refine a_iinc4 hX (by decide) rfl dX7_agrees_45 (pc' := 48) rfl ?_
            refine a_goto hX dX7_agrees_48 (tgt := 3) (by decide) ?_
            exact ih (i + 1) (by omega) (by rw [show (i + 1).toNat = i.toNat + 1 by omega, hs2]; exact decide_eq_true c40) (by omega)
          · refine a_iconst hX dX7_agrees_43 (pc' := 44) rfl ?_
            refine a_zret hX (by omega) dX7_agrees_44 (hE _ _ _ ?_)
            refine ⟨aLf ?_, rfl, rfl⟩
            exact (aTr_false (sAgN_f (n := i.toNat + 1) (by rw [hs2]; exact decide_eq_false c40) _ (by omega))).symm
  exact L3 ((Z 36 2 - 0).toNat + 1) 0 (by omega) rfl (by omega)

set_option maxHeartbeats 4000000 in
set_option maxRecDepth 100000 in
theorem c_beginnings {G : aG} {Z : aZ} {Y : aY} {k : Int} (hk : 0 ≤ k ∧ k ≤ 3) (hB : aB Z) (hP : okP (vP Z)) (hW : okSee Z) : aSi G yX7_beginnings cX7_beginnings 5 (some .int) 4 96 [.ref (G.1 36), .int (aI k), .ref (G.1 3)] Z Y (aBits (fun y => sAgN (vP Z) (Z 37) (Z 38) k y (Z 36 2).toNat) 6) := by
  refine aS.of (own := RX7) (by decide +kernel) rfl 2 (Nat.le_of_ble_eq_true rfl) (fun X hX hE => ?_)
  show AW X G 0 [some (.ref (G.1 36)), some (.int (aI k)), some (.ref (G.1 3)), none, none] [] Z Y
  refine a_iconst hX dX7_beginnings_0 (pc' := 1) rfl ?_
  refine a_istore3 hX rfl (by decide) rfl dX7_beginnings_1 (pc' := 2) rfl ?_
  refine a_iconst hX dX7_beginnings_2 (pc' := 3) rfl ?_
  refine a_istore4 hX (by decide) rfl dX7_beginnings_3 (pc' := 5) rfl ?_
  have L5 : ∀ (n : Nat) (i : Int), (0 ≤ i ∧ i ≤ 6) → (6 - i).toNat < n → AW X G 5 [some (.ref (G.1 36)), some (.int (aI k)), some (.ref (G.1 3)), some (.int (aI (aBits (fun y => sAgN (vP Z) (Z 37) (Z 38) k y (Z 36 2).toNat) i.toNat))), some (.int (aI i))] [] Z Y := by
    intro n
    induction n with
    | zero =>
      intro i hi hn
      omega
    | succ n ih =>
      intro i hi hn
      have hz := aBits_rng (fun y => sAgN (vP Z) (Z 37) (Z 38) k y (Z 36 2).toNat) i.toNat
      refine a_iload hX rfl dX7_beginnings_5 (pc' := 7) rfl ?_
      refine a_bipush hX rfl dX7_beginnings_7 (pc' := 9) rfl ?_
      refine a_icmp_ge hX (by omega) (by omega) dX7_beginnings_9 (pc' := 12) rfl (tgt := 36) (by decide) (fun c9 => ?_) (fun c9 => ?_)
      · refine a_iload_n hX rfl rfl dX7_beginnings_36 (pc' := 37) rfl ?_
        refine a_iret hX dX7_beginnings_37 (hE _ _ _ ?_)
        refine ⟨aLf ?_, rfl, rfl⟩
        rw [show i = 6 by omega]
        rfl
      · refine a_aload_n hX rfl rfl dX7_beginnings_12 (pc' := 13) rfl ?_
        refine a_iload_n hX rfl rfl dX7_beginnings_13 (pc' := 14) rfl ?_
        refine a_iload hX rfl dX7_beginnings_14 (pc' := 16) rfl ?_
        refine a_aload_n hX rfl rfl dX7_beginnings_16 (pc' := 17) rfl ?_
        refine a_cV3i hX cv_X7_22 (c_agrees (by omega) (by omega) hB hP hW) rfl (by decide) ⟨by decide, by decide⟩ (Nat.le_of_ble_eq_true rfl) dX7_beginnings_17 (pc' := 20) rfl ?_
        refine a_ifb_eq hX dX7_beginnings_20 (pc' := 23) rfl (tgt := 30) (by decide) (fun c20 => ?_) (fun c20 => ?_)
        · refine a_iinc4 hX (by decide) rfl dX7_beginnings_30 (pc' := 33) rfl ?_
          refine a_goto hX dX7_beginnings_33 (tgt := 5) (by decide) ?_
          have e0 := aBits_s (f := (fun y => sAgN (vP Z) (Z 37) (Z 38) k y (Z 36 2).toNat)) hi.1
          first | rw [if_pos c20] at e0 | rw [if_neg (by rw [c20]; decide)] at e0
          first | rw [← e0] | (rw [aTwo, ← e0])
          exact ih (i + 1) (by omega) (by omega)
        · refine a_iload_n hX rfl rfl dX7_beginnings_23 (pc' := 24) rfl ?_
          refine a_iconst hX dX7_beginnings_24 (pc' := 25) rfl ?_
          refine a_iload hX rfl dX7_beginnings_25 (pc' := 27) rfl ?_
          have hw : (2 : Int) ^ i.toNat ≤ 32 ∧ 0 < (2 : Int) ^ i.toNat := by
            rcases (show i = 0 ∨ i = 1 ∨ i = 2 ∨ i = 3 ∨ i = 4 ∨ i = 5 by omega) with rfl | rfl | rfl | rfl | rfl | rfl <;> decide
          refine a_ishl hX (by omega) (by omega) (by omega) dX7_beginnings_27 (pc' := 28) rfl ?_
          refine a_ior hX (by omega) (by omega) dX7_beginnings_28 (pc' := 29) rfl ?_
          refine a_istore3 hX rfl (by decide) rfl dX7_beginnings_29 (pc' := 30) rfl ?_
          refine a_iinc4 hX (by decide) rfl dX7_beginnings_30 (pc' := 33) rfl ?_
          refine a_goto hX dX7_beginnings_33 (tgt := 5) (by decide) ?_
          have e0 := aBits_s (f := (fun y => sAgN (vP Z) (Z 37) (Z 38) k y (Z 36 2).toNat)) hi.1
          first | rw [if_pos c20] at e0 | rw [if_neg (by rw [c20]; decide)] at e0
          first | rw [← e0] | (rw [aTwo, ← e0])
          exact ih (i + 1) (by omega) (by omega)
  exact L5 7 0 (by omega) (by omega)

theorem sky_same {Z Z1 : aZ} (h : ∀ a : Nat, 3 ≤ a ∧ a ≤ 19 → Z1 a = Z a) (hP : okP (vP Z)) (hS : okS (vP Z) (vS Z 12)) (hd : Z 12 6 ≤ 5000) : vP Z1 = vP Z ∧ vS Z1 12 = vS Z 12 ∧ okP (vP Z1) ∧ okS (vP Z1) (vS Z1 12) ∧ Z1 12 6 ≤ 5000 := by
  have e1 : vP Z1 = vP Z := vP_eq (fun a ha => h a (by omega))
  have e2 : vS Z1 12 = vS Z 12 := vS_frame (h 3 (by omega)) (h 12 (by omega)) (h 13 (by omega)) (h 14 (by omega)) (h 15 (by omega))
  exact ⟨e1, e2, by rw [e1]; exact hP, by rw [e1, e2]; exact hS, by rw [h 12 (by omega)]; exact hd⟩

set_option maxHeartbeats 4000000 in
set_option maxRecDepth 100000 in
theorem c_look {G : aG} {Z : aZ} {Y : aY} (hB : aB Z) (hP : okP (vP Z)) (hS : okS (vP Z) (vS Z 12)) (hd : Z 12 6 ≤ 5000) : aSV G yX6_look cX6_look 4 none 4 91 [.ref (G.1 39), .ref (G.1 12), .ref (G.1 3)] Z Y (fun Z' Y' => Z' 39 4 = Z 3 9 ∧ Z' 39 5 = Z 3 10 ∧ (∀ c : Int, 0 ≤ c ∧ c < Z 3 9 → Z' 40 c = sHas (vP Z) (vS Z 12) c ∧ Z' 41 c = sServs (vP Z) (vS Z 12) c (vS Z 12 c)) ∧ (∀ p : Int, 0 ≤ p ∧ p < Z 3 10 → Z' 42 p = sOwed (vP Z) (vS Z 12) p) ∧ okV Z' ∧ (∀ a : Nat, ¬ (39 ≤ a ∧ a ≤ 42) → Z' a = Z a) ∧ aB Z' ∧ Y' = Y) := by
  refine aS.of (own := RX6) (by decide +kernel) rfl 1 (Nat.le_of_ble_eq_true rfl) (fun X hX hE => ?_)
  show AW X G 0 [some (.ref (G.1 39)), some (.ref (G.1 12)), some (.ref (G.1 3)), none] [] Z Y
  have hfP := fP hP
  refine a_aload_n hX rfl rfl dX6_look_0 (pc' := 1) rfl ?_
  refine a_aload_n hX rfl rfl dX6_look_1 (pc' := 2) rfl ?_
  refine a_getfI hX (ji := 9) rfl hB fl_X6_33 rfl (by decide) rfl dX6_look_2 (pc' := 5) rfl (fun hb => ?_)
  refine a_iconst hX dX6_look_5 (pc' := 6) rfl ?_
  refine a_min hX cs_X6_36 (by omega) (by omega) (by decide) (Nat.le_of_ble_eq_true rfl) dX6_look_6 (pc' := 9) rfl ?_
  refine a_putfIB hX fl_X6_26 nf_5_4 (ji := 4) rfl rfl (by decide) rfl hB (by omega) dX6_look_9 (pc' := 12) rfl (fun hB => ?_)
  refine a_aload_n hX rfl rfl dX6_look_12 (pc' := 13) rfl ?_
  refine a_aload_n hX rfl rfl dX6_look_13 (pc' := 14) rfl ?_
  
  refine a_getfI hX (ji := 10) rfl hB fl_X6_42 rfl (by decide) rfl dX6_look_14 (pc' := 17) rfl (fun hb => ?_)
  refine a_iconst hX dX6_look_17 (pc' := 18) rfl ?_
  rw [aU_ne (show 3 ≠ 39 by decide)]
  refine a_min hX cs_X6_36 (by omega) (by omega) (by decide) (Nat.le_of_ble_eq_true rfl) dX6_look_18 (pc' := 21) rfl ?_
  refine a_putfIB hX fl_X6_30 nf_5_5 (ji := 5) rfl rfl (by decide) rfl hB (by omega) dX6_look_21 (pc' := 24) rfl (fun hB => ?_)
  refine a_iconst hX dX6_look_24 (pc' := 25) rfl ?_
  refine a_istore3 hX rfl (by decide) rfl dX6_look_25 (pc' := 26) rfl ?_
  have L26 : ∀ (n : Nat) (i : Int) (Z1 : aZ), (0 ≤ i ∧ i ≤ Z 3 9) → aB Z1 → Z1 39 4 = Z 3 9 → Z1 39 5 = Z 3 10 → (∀ c : Int, 0 ≤ c ∧ c < i → Z1 40 c = sHas (vP Z) (vS Z 12) c ∧ Z1 41 c = sServs (vP Z) (vS Z 12) c (vS Z 12 c)) → (∀ a : Nat, ¬ (39 ≤ a ∧ a ≤ 42) → Z1 a = Z a) → (Z 3 9 - i).toNat < n → AW X G 26 [some (.ref (G.1 39)), some (.ref (G.1 12)), some (.ref (G.1 3)), some (.int (aI i))] [] Z1 Y := by
    intro n
    induction n with
    | zero =>
      intro i Z1 hi hB h4 h5 hc hz hn
      omega
    | succ n ih =>
      intro i Z1 hi hB h4 h5 hc hz hn
      obtain ⟨hvP, hvS, hP1, hS1, hd1⟩ := sky_same (fun a ha => hz a (by omega)) hP hS hd
      have e39 : Z1 3 9 = Z 3 9 := by rw [hz 3 (by omega)]
      refine a_iload_n hX rfl rfl dX6_look_26 (pc' := 27) rfl ?_
      refine a_aload_n hX rfl rfl dX6_look_27 (pc' := 28) rfl ?_
      refine a_getfI hX (ji := 4) rfl hB fl_X6_26 rfl (by decide) rfl dX6_look_28 (pc' := 31) rfl (fun hb => ?_)
      refine a_icmp_ge hX (by omega) (by omega) dX6_look_31 (pc' := 34) rfl (tgt := 68) (by decide) (fun c31 => ?_) (fun c31 => ?_)
      · refine a_iconst hX dX6_look_68 (pc' := 69) rfl ?_
        refine a_istore3 hX rfl (by decide) rfl dX6_look_69 (pc' := 70) rfl ?_
        have L70 : ∀ (m : Nat) (j : Int) (Z3 : aZ), (0 ≤ j ∧ j ≤ Z 3 10) → aB Z3 → (∀ a : Nat, a ≠ 42 → Z3 a = Z1 a) → (∀ p : Int, 0 ≤ p ∧ p < j → Z3 42 p = sOwed (vP Z) (vS Z 12) p) → (Z 3 10 - j).toNat < m → AW X G 70 [some (.ref (G.1 39)), some (.ref (G.1 12)), some (.ref (G.1 3)), some (.int (aI j))] [] Z3 Y := by
          intro m
          induction m with
          | zero =>
            intro j Z3 hj hB hz3 ho hm
            omega
          | succ m ih2 =>
            intro j Z3 hj hB hz3 ho hm
            obtain ⟨hvP3, hvS3, hP3, hS3, hd3⟩ := sky_same (Z := Z) (Z1 := Z3) (fun a ha => by rw [hz3 a (by omega)]; exact hz a (by omega)) hP hS hd
            have e310 : Z3 3 10 = Z 3 10 := by rw [hz3 3 (by omega), hz 3 (by omega)]
            have e35 : Z3 39 5 = Z 3 10 := by rw [hz3 39 (by omega)]; exact h5
            have e34 : Z3 39 4 = Z 3 9 := by rw [hz3 39 (by omega)]; exact h4
            refine a_iload_n hX rfl rfl dX6_look_70 (pc' := 71) rfl ?_
            refine a_aload_n hX rfl rfl dX6_look_71 (pc' := 72) rfl ?_
            refine a_getfI hX (ji := 5) rfl hB fl_X6_30 rfl (by decide) rfl dX6_look_72 (pc' := 75) rfl (fun hb => ?_)
            refine a_icmp_ge hX (by omega) (by omega) dX6_look_75 (pc' := 78) rfl (tgt := 95) (by decide) (fun c75 => ?_) (fun c75 => ?_)
            · refine a_vret hX dX6_look_95 (hE _ _ _ ?_)
              refine ⟨rfl, e34, e35, fun c hc9 => ?_, fun p hp9 => ho p (by omega), ⟨by omega, by omega, fun c hc9 => ?_, fun c hc9 => ?_, fun p hp9 => ?_⟩, fun a ha => by rw [hz3 a (by omega)]; exact hz a ha, hB, rfl⟩
              · rw [hz3 40 (by decide), hz3 41 (by decide)]
                exact hc c (by omega)
              · rw [hz3 40 (by decide), (hc c (by omega)).1]
                exact sHas_rng hS (by omega)
              · rw [hz3 41 (by decide), (hc c (by omega)).2]
                exact sServs_rng hP _ _ _
              · rw [ho p (by omega)]
                exact sOwed_rng hP hS (by omega)
            · refine a_aload_n hX rfl rfl dX6_look_78 (pc' := 79) rfl ?_
              refine a_getfR hX (r := 42) fl_X6_18 rfl (by decide) rfl dX6_look_79 (pc' := 82) rfl ?_
              refine a_iload_n hX rfl rfl dX6_look_82 (pc' := 83) rfl ?_
              refine a_aload_n hX rfl rfl dX6_look_83 (pc' := 84) rfl ?_
              refine a_iload_n hX rfl rfl dX6_look_84 (pc' := 85) rfl ?_
              refine a_cV1i hX cv_X6_54 (c_owed (by omega) sky12 hB hP3 hS3 hd3) rfl (by decide) ⟨by decide, by decide⟩ (Nat.le_of_ble_eq_true rfl) dX6_look_85 (pc' := 88) rfl ?_
              refine a_iastB hX rfl (by decide) (by decide) (by omega) hB (by have := sOwed_rng hP3 hS3 (p := j) (by omega); omega) dX6_look_88 (pc' := 89) rfl (fun hB => ?_)
              refine a_iinc3 hX (by decide) rfl dX6_look_89 (pc' := 92) rfl ?_
              refine a_goto hX dX6_look_92 (tgt := 70) (by decide) ?_
              refine ih2 (j + 1) _ (by omega) hB (fun a ha => by rw [aU_row ha]; exact hz3 a ha) (fun p hp9 => ?_) (by omega)
              rw [aU_at]
              by_cases e : p = j
              · subst e; rw [if_pos rfl, hvP3, hvS3]
              · rw [if_neg e]; exact ho p (by omega)
        exact L70 ((Z 3 10 - 0).toNat + 1) 0 Z1 (by omega) hB (fun _ _ => rfl) (fun p hp => by omega) (by omega)
      · refine a_aload_n hX rfl rfl dX6_look_34 (pc' := 35) rfl ?_
        refine a_getfR hX (r := 40) fl_X6_9 rfl (by decide) rfl dX6_look_35 (pc' := 38) rfl ?_
        refine a_iload_n hX rfl rfl dX6_look_38 (pc' := 39) rfl ?_
        refine a_aload_n hX rfl rfl dX6_look_39 (pc' := 40) rfl ?_
        refine a_iload_n hX rfl rfl dX6_look_40 (pc' := 41) rfl ?_
        refine a_cV1i hX cv_X6_43 (c_has (by omega) sky12 hB hP1 hS1 hd1) rfl (by decide) ⟨by decide, by decide⟩ (Nat.le_of_ble_eq_true rfl) dX6_look_41 (pc' := 44) rfl ?_
        refine a_iastB hX rfl (by decide) (by decide) (by omega) hB (by have := sHas_rng hS1 (c := i) (by omega); omega) dX6_look_44 (pc' := 45) rfl (fun hB => ?_)
        have hr1 := sHas_rng hS (c := i) (by omega)
        have h40n : ∀ c : Int, c ≠ i → aU Z1 40 i (sHas (vP Z1) (vS Z1 12) i) 40 c = Z1 40 c := fun c hc => aU_nj hc
        have h40 : aU Z1 40 i (sHas (vP Z1) (vS Z1 12) i) 40 i = sHas (vP Z) (vS Z 12) i := by rw [aU_eq, hvP, hvS]
        generalize hZ2 : aU Z1 40 i (sHas (vP Z1) (vS Z1 12) i) = Z2 at hB h40 h40n ⊢
        have hz2 : ∀ a : Nat, a ≠ 40 → Z2 a = Z1 a := fun a ha => by rw [← hZ2]; exact aU_row ha
        obtain ⟨hvP2, hvS2, hP2, hS2, hd2⟩ := sky_same (Z := Z) (Z1 := Z2) (fun a ha => by rw [hz2 a (by omega)]; exact hz a (by omega)) hP hS hd
        have e39b : Z2 3 9 = Z 3 9 := by rw [hz2 3 (by omega)]; exact e39
        have e13 : Z2 13 i = Z 13 i := by rw [hz2 13 (by omega), hz 13 (by omega)]
        have hyr : 0 ≤ Z 13 i ∧ Z 13 i ≤ 5 := fSy hS (c := i) (by omega)
        refine a_aload_n hX rfl rfl dX6_look_45 (pc' := 46) rfl ?_
        refine a_getfR hX (r := 41) fl_X6_15 rfl (by decide) rfl dX6_look_46 (pc' := 49) rfl ?_
        refine a_iload_n hX rfl rfl dX6_look_49 (pc' := 50) rfl ?_
        refine a_aload_n hX rfl rfl dX6_look_50 (pc' := 51) rfl ?_
        refine a_iload_n hX rfl rfl dX6_look_51 (pc' := 52) rfl ?_
        refine a_aload_n hX rfl rfl dX6_look_52 (pc' := 53) rfl ?_
        refine a_getfR hX (r := 13) fl_X6_48 rfl (by decide) rfl dX6_look_53 (pc' := 56) rfl ?_
        refine a_iload_n hX rfl rfl dX6_look_56 (pc' := 57) rfl ?_
        refine a_iald hX rfl (by decide) (by decide) (by omega) hB dX6_look_57 (pc' := 58) rfl (fun hb => ?_)
        rw [e13]
        refine a_cV2i hX cv_X6_51 (c_servable (by omega) (by omega) sky12 hB hP2 hS2 hd2) rfl (by decide) ⟨by decide, by decide⟩ (Nat.le_of_ble_eq_true rfl) dX6_look_58 (pc' := 61) rfl ?_
        refine a_iastB hX rfl (by decide) (by decide) (by omega) hB (by have := sServs_rng hP2 (vS Z2 12) i (Z 13 i); omega) dX6_look_61 (pc' := 62) rfl (fun hB => ?_)
        refine a_iinc3 hX (by decide) rfl dX6_look_62 (pc' := 65) rfl ?_
        refine a_goto hX dX6_look_65 (tgt := 26) (by decide) ?_
        refine ih (i + 1) _ (by omega) hB (by rw [aU_ne (by decide), hz2 39 (by decide)]; exact h4) (by rw [aU_ne (by decide), hz2 39 (by decide)]; exact h5) (fun c hc9 => ?_) (fun a ha => by rw [aU_row (by omega), hz2 a (by omega)]; exact hz a ha) (by omega)
        by_cases e : c = i
        · subst e
          rw [aU_ne (by decide), h40, aU_eq, hvP2, hvS2, show Z 13 c = vS Z 12 c from (vS_yd (Z := Z) (k := 12) (c := c) (by omega)).symm]
          exact ⟨rfl, rfl⟩
        · rw [aU_ne (by decide), aU_nj e, hz2 41 (by decide), h40n c e]
          exact hc c (by omega)
  exact L26 ((Z 3 9 - 0).toNat + 1) 0 _ (by omega) hB (by rw [aU_nj (by decide), aU_eq]; omega) (by rw [aU_eq]; omega) (fun c hc => by omega) (fun a ha => by rw [aU_row (by omega), aU_row (by omega)]) (by omega)

set_option maxHeartbeats 4000000 in
set_option maxRecDepth 100000 in
theorem c_lookAround {G : aG} {Z : aZ} {Y : aY} (hnc : Z 39 4 = Z 3 9) (hB : aB Z) (hP : okP (vP Z)) (hS : okS (vP Z) (vS Z 12)) (hd : Z 12 6 ≤ 5000) : aSV G yX6_lookAround cX6_lookAround 4 none 4 91 [.ref (G.1 39), .ref (G.1 12)] Z Y (fun Z' Y' => (∀ c y : Int, 0 ≤ c → 0 ≤ y ∧ y < 6 → c < Z 3 9 → Z' (44 + c.toNat) y = sServs (vP Z) (vS Z 12) c y) ∧ (∀ a : Nat, ¬ (44 ≤ a ∧ a ≤ 47) → Z' a = Z a) ∧ aB Z' ∧ Y' = Y) := by
  refine aS.of (own := RX6) (by decide +kernel) rfl 2 (Nat.le_of_ble_eq_true rfl) (fun X hX hE => ?_)
  show AW X G 0 [some (.ref (G.1 39)), some (.ref (G.1 12)), none, none] [] Z Y
  have hfP := fP hP
  refine a_iconst hX dX6_lookAround_0 (pc' := 1) rfl ?_
  refine a_istore2 hX rfl (by decide) rfl dX6_lookAround_1 (pc' := 2) rfl ?_
  have L2 : ∀ (n : Nat) (i : Int) (Z1 : aZ), (0 ≤ i ∧ i ≤ Z 3 9) → aB Z1 → (∀ a : Nat, ¬ (44 ≤ a ∧ a ≤ 47) → Z1 a = Z a) → (∀ c y : Int, 0 ≤ c → 0 ≤ y ∧ y < 6 → c < i → Z1 (44 + c.toNat) y = sServs (vP Z) (vS Z 12) c y) → (Z 3 9 - i).toNat < n → AW X G 2 [some (.ref (G.1 39)), some (.ref (G.1 12)), some (.int (aI i)), none] [] Z1 Y := by
    intro n
    induction n with
    | zero =>
      intro i Z1 hi hB hz hc hn
      omega
    | succ n ih =>
      intro i Z1 hi hB hz hc hn
      have e4 : Z1 39 4 = Z 3 9 := by rw [hz 39 (by omega)]; exact hnc
      refine a_iload_n hX rfl rfl dX6_lookAround_2 (pc' := 3) rfl ?_
      refine a_aload_n hX rfl rfl dX6_lookAround_3 (pc' := 4) rfl ?_
      refine a_getfI hX (ji := 4) rfl hB fl_X6_26 rfl (by decide) rfl dX6_lookAround_4 (pc' := 7) rfl (fun hb => ?_)
      refine a_icmp_ge hX (by omega) (by omega) dX6_lookAround_7 (pc' := 10) rfl (tgt := 44) (by decide) (fun c7 => ?_) (fun c7 => ?_)
      · refine a_vret hX dX6_lookAround_44 (hE _ _ _ ?_)
        exact ⟨rfl, fun c y h1 h2 h3 => hc c y h1 h2 (by omega), hz, hB, rfl⟩
      · refine a_iconst hX dX6_lookAround_10 (pc' := 11) rfl ?_
        refine a_istore3 hX rfl (by decide) rfl dX6_lookAround_11 (pc' := 12) rfl ?_
        have L12 : ∀ (m : Nat) (j : Int) (Z2 : aZ), (0 ≤ j ∧ j ≤ 6) → aB Z2 → (∀ a : Nat, ¬ (44 ≤ a ∧ a ≤ 47) → Z2 a = Z a) → (∀ c y : Int, 0 ≤ c → 0 ≤ y ∧ y < 6 → (c < i ∨ (c = i ∧ y < j)) → Z2 (44 + c.toNat) y = sServs (vP Z) (vS Z 12) c y) → (6 - j).toNat < m → AW X G 12 [some (.ref (G.1 39)), some (.ref (G.1 12)), some (.int (aI i)), some (.int (aI j))] [] Z2 Y := by
          intro m
          induction m with
          | zero =>
            intro j Z2 hj hB hz2 hc2 hm
            omega
          | succ m ih2 =>
            intro j Z2 hj hB hz2 hc2 hm
            obtain ⟨hvP2, hvS2, hP2, hS2, hd2⟩ := sky_same (Z := Z) (Z1 := Z2) (fun a ha => hz2 a (by omega)) hP hS hd
            have e39 : Z2 3 9 = Z 3 9 := by rw [hz2 3 (by omega)]
            have hr : aSh (44 + i.toNat) = (1, 0, [6]) ∨ Z 3 9 ≤ i := by
              rcases (show i = 0 ∨ i = 1 ∨ i = 2 ∨ i = 3 ∨ Z 3 9 ≤ i by omega) with rfl | rfl | rfl | rfl | q
              · exact Or.inl rfl
              · exact Or.inl rfl
              · exact Or.inl rfl
              · exact Or.inl rfl
              · exact Or.inr q
            have hr := hr.resolve_right (by omega)
            refine a_iload_n hX rfl rfl dX6_lookAround_12 (pc' := 13) rfl ?_
            refine a_bipush hX rfl dX6_lookAround_13 (pc' := 15) rfl ?_
            refine a_icmp_ge hX (by omega) (by omega) dX6_lookAround_15 (pc' := 18) rfl (tgt := 38) (by decide) (fun c15 => ?_) (fun c15 => ?_)
            · refine a_iinc2 hX (by decide) rfl dX6_lookAround_38 (pc' := 41) rfl ?_
              refine a_goto hX dX6_lookAround_41 (tgt := 2) (by decide) ?_
              refine AW.le ?_ (ih (i + 1) Z2 (by omega) hB hz2 (fun c y h1 h2 h3 => hc2 c y h1 h2 (by omega)) (by omega))
              exact ⟨rfl, rfl, rfl, trivial⟩
            · refine a_aload_n hX rfl rfl dX6_lookAround_18 (pc' := 19) rfl ?_
              refine a_getfR hX (r := 43) fl_X6_23 rfl (by decide) rfl dX6_lookAround_19 (pc' := 22) rfl ?_
              refine a_iload_n hX rfl rfl dX6_lookAround_22 (pc' := 23) rfl ?_
              refine a_aald hX rfl (by decide) (by decide) (by omega) dX6_lookAround_23 (pc' := 24) rfl ?_
              refine a_iload_n hX rfl rfl dX6_lookAround_24 (pc' := 25) rfl ?_
              refine a_aload_n hX rfl rfl dX6_lookAround_25 (pc' := 26) rfl ?_
              refine a_iload_n hX rfl rfl dX6_lookAround_26 (pc' := 27) rfl ?_
              refine a_iload_n hX rfl rfl dX6_lookAround_27 (pc' := 28) rfl ?_
              refine a_cV2i hX cv_X6_51 (c_servable (by omega) (by omega) sky12 hB hP2 hS2 hd2) rfl (by decide) ⟨by decide, by decide⟩ (Nat.le_of_ble_eq_true rfl) dX6_lookAround_28 (pc' := 31) rfl ?_
              refine a_iastB hX hr (by omega) (by decide) (by omega) hB (by have := sServs_rng hP2 (vS Z2 12) i j; omega) dX6_lookAround_31 (pc' := 32) rfl (fun hB => ?_)
              refine a_iinc3 hX (by decide) rfl dX6_lookAround_32 (pc' := 35) rfl ?_
              refine a_goto hX dX6_lookAround_35 (tgt := 12) (by decide) ?_
              refine ih2 (j + 1) _ (by omega) hB (fun a ha => by rw [aU_row (by omega)]; exact hz2 a ha) (fun c y h1 h2 h3 => ?_) (by omega)
              by_cases e : c = i
              · subst e
                rw [aU_at]
                by_cases e2 : y = j
                · subst e2; rw [if_pos rfl, hvP2, hvS2]
                · rw [if_neg e2]; exact hc2 c y h1 h2 (by omega)
              · rw [aU_ne (by omega)]; exact hc2 c y h1 h2 (by omega)
        exact L12 7 0 Z1 (by omega) hB hz (fun c y h1 h2 h3 => hc c y h1 h2 (by omega)) (by omega)
  refine AW.le ?_ (L2 ((Z 3 9 - 0).toNat + 1) 0 Z (by omega) hB (fun _ _ => rfl) (fun c y h1 h2 h3 => by omega) (by omega))
  exact ⟨rfl, rfl, rfl, trivial⟩

/-- the ways to place clouds: figures to the base 6; what each costs -/
def plD (w c : Int) : Int := w / 6 ^ c.toNat % 6
def plCost (nc : Nat) (w : Int) : Int := aSum (fun c => min (plD w c) (6 - plD w c)) nc
theorem plD_rng (w c : Int) : 0 ≤ plD w c ∧ plD w c < 6 := by
  unfold plD
  have := Int.emod_nonneg (w / 6 ^ c.toNat) (show (6 : Int) ≠ 0 by omega)
  have := Int.emod_lt_of_pos (w / 6 ^ c.toNat) (show (0 : Int) < 6 by omega)
  omega
theorem plDiv {w i : Int} (hi : 0 ≤ i) : w / 6 ^ i.toNat / 6 = w / 6 ^ (i + 1).toNat := by
  rw [show (i + 1).toNat = i.toNat + 1 by omega, Int.pow_succ, Int.ediv_ediv_of_nonneg (Int.le_of_lt (Int.pow_pos (by decide)))]

set_option maxHeartbeats 4000000 in
set_option maxRecDepth 100000 in
theorem c_place {G : aG} {Z : aZ} {Y : aY} {w : Int} (hw : 0 ≤ w ∧ w < 1296) (hnc : Z 39 4 = Z 3 9) (hB : aB Z) (hP : okP (vP Z)) (hS : okS (vP Z) (vS Z 12)) (hd : Z 12 6 ≤ 5000) : aSI G yX6_place cX6_place 7 (some .int) 2 42 [.ref (G.1 39), .ref (G.1 12), .int (aI w)] Z Y (fun x Z' Y' => x = plCost (Z 3 9).toNat w ∧ (∀ c : Int, 0 ≤ c ∧ c < Z 3 9 → Z' 41 c = Z (44 + c.toNat) ((Z 13 c + plD w c) % 6)) ∧ (∀ a : Nat, a ≠ 41 → Z' a = Z a) ∧ aB Z' ∧ Y' = Y) := by
  refine aS.of (own := RX6) (by decide +kernel) rfl 4 (Nat.le_of_ble_eq_true rfl) (fun X hX hE => ?_)
  show AW X G 0 [some (.ref (G.1 39)), some (.ref (G.1 12)), some (.int (aI w)), none, none, none, none] [] Z Y
  have hfP := fP hP
  refine a_iload_n hX rfl rfl dX6_place_0 (pc' := 1) rfl ?_
  refine a_istore3 hX rfl (by decide) rfl dX6_place_1 (pc' := 2) rfl ?_
  refine a_iconst hX dX6_place_2 (pc' := 3) rfl ?_
  refine a_istore4 hX (by decide) rfl dX6_place_3 (pc' := 5) rfl ?_
  refine a_iconst hX dX6_place_5 (pc' := 6) rfl ?_
  refine a_istore5 hX (by decide) rfl dX6_place_6 (pc' := 8) rfl ?_
  have L8 : ∀ (n : Nat) (i : Int) (Z1 : aZ), (0 ≤ i ∧ i ≤ Z 3 9) → aB Z1 → (∀ a : Nat, a ≠ 41 → Z1 a = Z a) → (∀ c : Int, 0 ≤ c ∧ c < i → Z1 41 c = Z (44 + c.toNat) ((Z 13 c + plD w c) % 6)) → (Z 3 9 - i).toNat < n → AW X G 8 [some (.ref (G.1 39)), some (.ref (G.1 12)), some (.int (aI w)), some (.int (aI (w / 6 ^ i.toNat))), some (.int (aI (plCost i.toNat w))), some (.int (aI i)), none] [] Z1 Y := by
    intro n
    induction n with
    | zero =>
      intro i Z1 hi hB hz hc hn
      omega
    | succ n ih =>
      intro i Z1 hi hB hz hc hn
      have e4 : Z1 39 4 = Z 3 9 := by rw [hz 39 (by omega)]; exact hnc
      have hq0 : 0 ≤ w / 6 ^ i.toNat := Int.ediv_nonneg hw.1 (Int.le_of_lt (Int.pow_pos (by decide)))
      have hq1 : w / 6 ^ i.toNat ≤ w := Int.ediv_le_self _ hw.1
      have e0 := aSum_s (f := fun c => min (plD w c) (6 - plD w c)) hi.1
      try dsimp only at e0
      have hpd := plD_rng w i
      have hr : aSh (44 + i.toNat) = (1, 0, [6]) ∨ Z 3 9 ≤ i := by
        rcases (show i = 0 ∨ i = 1 ∨ i = 2 ∨ i = 3 ∨ Z 3 9 ≤ i by omega) with rfl | rfl | rfl | rfl | q
        · exact Or.inl rfl
        · exact Or.inl rfl
        · exact Or.inl rfl
        · exact Or.inl rfl
        · exact Or.inr q
      have e13 : Z1 13 i = Z 13 i := by rw [hz 13 (by decide)]
      refine a_iload hX rfl dX6_place_8 (pc' := 10) rfl ?_
      refine a_aload_n hX rfl rfl dX6_place_10 (pc' := 11) rfl ?_
      refine a_getfI hX (ji := 4) rfl hB fl_X6_26 rfl (by decide) rfl dX6_place_11 (pc' := 14) rfl (fun hb => ?_)
      refine a_icmp_ge hX (by omega) (by omega) dX6_place_14 (pc' := 17) rfl (tgt := 77) (by decide) (fun c14 => ?_) (fun c14 => ?_)
      · refine a_iload hX rfl dX6_place_77 (pc' := 79) rfl ?_
        refine a_iret hX dX6_place_79 (hE _ _ _ ?_)
        exact ⟨_, rfl, by rw [show (Z 3 9).toNat = i.toNat by omega], fun c h3 => hc c (by omega), hz, hB, rfl⟩
      · refine a_iload_n hX rfl rfl dX6_place_17 (pc' := 18) rfl ?_
        refine a_bipush hX rfl dX6_place_18 (pc' := 20) rfl ?_
        refine a_irem hX (by omega) (by omega) dX6_place_20 (pc' := 21) rfl ?_
        rw [show w / 6 ^ i.toNat % 6 = plD w i from rfl]
        refine a_istore6 hX (by decide) rfl dX6_place_21 (pc' := 23) rfl ?_
        refine a_iload_n hX rfl rfl dX6_place_23 (pc' := 24) rfl ?_
        refine a_bipush hX rfl dX6_place_24 (pc' := 26) rfl ?_
        refine a_idiv hX (by omega) (by omega) dX6_place_26 (pc' := 27) rfl ?_
        refine a_istore3 hX rfl (by decide) rfl dX6_place_27 (pc' := 28) rfl ?_
        refine a_aload_n hX rfl rfl dX6_place_28 (pc' := 29) rfl ?_
        refine a_getfR hX (r := 41) fl_X6_15 rfl (by decide) rfl dX6_place_29 (pc' := 32) rfl ?_
        refine a_iload hX rfl dX6_place_32 (pc' := 34) rfl ?_
        refine a_aload_n hX rfl rfl dX6_place_34 (pc' := 35) rfl ?_
        refine a_getfR hX (r := 43) fl_X6_23 rfl (by decide) rfl dX6_place_35 (pc' := 38) rfl ?_
        have hr := hr.resolve_right (by omega)
        have hyr : 0 ≤ Z 13 i ∧ Z 13 i ≤ 5 := fSy hS (c := i) (by omega)
        refine a_iload hX rfl dX6_place_38 (pc' := 40) rfl ?_
        refine a_aald hX rfl (by decide) (by decide) (by omega) dX6_place_40 (pc' := 41) rfl ?_
        refine a_aload_n hX rfl rfl dX6_place_41 (pc' := 42) rfl ?_
        refine a_getfR hX (r := 13) fl_X6_48 rfl (by decide) rfl dX6_place_42 (pc' := 45) rfl ?_
        refine a_iload hX rfl dX6_place_45 (pc' := 47) rfl ?_
        refine a_iald hX rfl (by decide) (by decide) (by omega) hB dX6_place_47 (pc' := 48) rfl (fun hb => ?_)
        refine a_iload hX rfl dX6_place_48 (pc' := 50) rfl ?_
        refine a_iadd hX dX6_place_50 (pc' := 51) rfl ?_
        refine a_cS1i hX cs_X6_76 (c_ring (by omega)) ⟨by decide, by decide⟩ (Nat.le_of_ble_eq_true rfl) dX6_place_51 (pc' := 54) rfl ?_
        have q1 := Int.emod_nonneg (Z1 13 i + plD w i) (show (6 : Int) ≠ 0 by omega)
        have q2 := Int.emod_lt_of_pos (Z1 13 i + plD w i) (show (0 : Int) < 6 by omega)
        refine a_iald hX hr (by omega) (by decide) (by omega) hB dX6_place_54 (pc' := 55) rfl (fun hb => ?_)
        refine a_iastB hX rfl (by decide) (by decide) (by omega) hB (by omega) dX6_place_55 (pc' := 56) rfl (fun hB => ?_)
        refine a_iload hX rfl dX6_place_56 (pc' := 58) rfl ?_
        refine a_iload hX rfl dX6_place_58 (pc' := 60) rfl ?_
        refine a_bipush hX rfl dX6_place_60 (pc' := 62) rfl ?_
        refine a_iload hX rfl dX6_place_62 (pc' := 64) rfl ?_
        refine a_isub hX dX6_place_64 (pc' := 65) rfl ?_
        refine a_min hX cs_X6_36 (by omega) (by omega) (by decide) (Nat.le_of_ble_eq_true rfl) dX6_place_65 (pc' := 68) rfl ?_
        refine a_iadd hX dX6_place_68 (pc' := 69) rfl ?_
        refine a_istore4 hX (by decide) rfl dX6_place_69 (pc' := 71) rfl ?_
        refine a_iinc5 hX (by decide) rfl dX6_place_71 (pc' := 74) rfl ?_
        refine a_goto hX dX6_place_74 (tgt := 8) (by decide) ?_
        rw [plDiv hi.1]
        have L := ih (i + 1) (aU Z1 41 i (Z1 (44 + i.toNat) ((Z1 13 i + plD w i) % 6))) (by omega) hB (fun a ha => by rw [aU_row ha]; exact hz a ha) (fun c h3 => by
          rw [aU_at]
          by_cases e : c = i
          · subst e; rw [if_pos rfl, e13, hz (44 + c.toNat) (by omega)]
          · rw [if_neg e]; exact hc c (by omega)) (by omega)
        unfold plCost at L ⊢
        rw [e0] at L
        refine AW.le ?_ L
        exact ⟨rfl, rfl, rfl, rfl, rfl, rfl, trivial⟩
  have L8 := L8 ((Z 3 9 - 0).toNat + 1) 0 Z (by omega) hB (fun _ _ => rfl) (fun c h3 => by omega) (by omega)
  rw [show w / 6 ^ (0 : Int).toNat = w by exact Int.ediv_one w] at L8
  refine AW.le ?_ L8
  exact ⟨rfl, rfl, rfl, rfl, rfl, rfl, trivial⟩

/-- what each cloud can serve, placed by a way -/
def plCn (P : aP) (S : aSk) (w c : Int) : Int := sServs P S c ((S c + plD w c) % 6)
/-- MOST, if the clouds were placed by a way -/
def plMost (P : aP) (S : aSk) (w : Int) : Int := vFill (P 0 1).toNat (P 0 2).toNat (sHas P S) (plCn P S w) (sOwed P S) (2 ^ (P 0 1).toNat - 1)
def plFew (P : aP) (S : aSk) : Nat → Int
  | 0 => 4
  | n + 1 => if plCost (P 0 1).toNat n < plFew P S n ∧ plMost P S n = sOwedAll P S then plCost (P 0 1).toNat n else plFew P S n
theorem plFew_s {P : aP} {S : aSk} {w : Int} (h : 0 ≤ w) : plFew P S (w + 1).toNat = if plCost (P 0 1).toNat w < plFew P S w.toNat ∧ plMost P S w = sOwedAll P S then plCost (P 0 1).toNat w else plFew P S w.toNat := by
  rw [show (w + 1).toNat = w.toNat + 1 by omega]
  show (if plCost (P 0 1).toNat (w.toNat : Int) < plFew P S w.toNat ∧ plMost P S (w.toNat : Int) = sOwedAll P S then plCost (P 0 1).toNat (w.toNat : Int) else plFew P S w.toNat) = _
  rw [Int.toNat_of_nonneg h]
def sPuffs (P : aP) (S : aSk) : Int := if 3 < plFew P S (6 ^ (P 0 1).toNat) then -9 else plFew P S (6 ^ (P 0 1).toNat)
theorem plCost_rng (n : Nat) (w : Int) : 0 ≤ plCost n w ∧ plCost n w ≤ 3 * n := by
  have := aSum_rng (f := fun c => min (plD w c) (6 - plD w c)) (a := 0) (b := 3) n (fun i _ => by
    have := plD_rng w i
    try dsimp only
    omega)
  unfold plCost
  omega
theorem plFew_rng {P : aP} {S : aSk} : ∀ n : Nat, 0 ≤ plFew P S n ∧ plFew P S n ≤ 4
  | 0 => by unfold plFew; omega
  | n + 1 => by
    have h1 := plFew_rng (P := P) (S := S) n
    have h2 := plCost_rng (P 0 1).toNat n
    unfold plFew
    split <;> omega
theorem vCut_congr {nc np : Nat} {h h' cn cn' ow ow' : Int → Int} (h1 : ∀ c : Int, 0 ≤ c ∧ c < nc → h c = h' c ∧ cn c = cn' c) (h2 : ∀ p : Int, 0 ≤ p ∧ p < np → ow p = ow' p) (s pr : Int) : vCut nc np h cn ow s pr = vCut nc np h' cn' ow' s pr := by
  unfold vCut vOB
  have e1 : aOrs (fun c => if aBit s c = true then cn c else 0) nc = aOrs (fun c => if aBit s c = true then cn' c else 0) nc := by
    have : ∀ n : Nat, n ≤ nc → aOrs (fun c => if aBit s c = true then cn c else 0) n = aOrs (fun c => if aBit s c = true then cn' c else 0) n := by
      intro n
      induction n with
      | zero => intro _; rfl
      | succ n ih =>
        intro hn
        show aOr (aOrs _ n) (if aBit s n = true then cn n else 0) = aOr (aOrs _ n) (if aBit s n = true then cn' n else 0)
        rw [ih (by omega), (h1 n (by omega)).2]
    exact this nc (Nat.le_refl _)
  rw [e1]
  congr 1
  · exact aSum_congr _ (fun c hc => by rw [(h1 c hc).1])
  · exact aSum_congr _ (fun p hp => by rw [h2 p hp])
theorem vMin_congr {f g : Int → Int} {ok : Int → Bool} {i0 : Int} (h : ∀ i, f i = g i) : ∀ n : Nat, vMin f ok i0 n = vMin g ok i0 n
  | 0 => rfl
  | n + 1 => by
    show (if ok n = true then min (vMin f ok i0 n) (f n) else vMin f ok i0 n) = (if ok n = true then min (vMin g ok i0 n) (g n) else vMin g ok i0 n)
    rw [vMin_congr h n, h]
theorem vFill_congr {nc np : Nat} {h h' cn cn' ow ow' : Int → Int} (h1 : ∀ c : Int, 0 ≤ c ∧ c < nc → h c = h' c ∧ cn c = cn' c) (h2 : ∀ p : Int, 0 ≤ p ∧ p < np → ow p = ow' p) (pr : Int) : vFill nc np h cn ow pr = vFill nc np h' cn' ow' pr := by
  unfold vFill
  rw [aSum_congr np h2]
  exact vMin_congr (fun s => vCut_congr h1 h2 s pr) _
theorem aPow6 {n : Int} (h : 0 ≤ n ∧ n ≤ 4) : 1 ≤ (6 : Int) ^ n.toNat ∧ (6 : Int) ^ n.toNat ≤ 1296 := by
  rcases (show n = 0 ∨ n = 1 ∨ n = 2 ∨ n = 3 ∨ n = 4 by omega) with rfl | rfl | rfl | rfl | rfl <;> decide
theorem aPow_s {b i : Int} (h : 0 ≤ i) : b ^ (i + 1).toNat = b ^ i.toNat * b := by rw [show (i + 1).toNat = i.toNat + 1 by omega, Int.pow_succ]
theorem aNat6 (n : Nat) : ((6 ^ n : Nat) : Int) = 6 ^ n := by simp

set_option maxHeartbeats 4000000 in
set_option maxRecDepth 100000 in
theorem c_fewestPuffs {G : aG} {Z : aZ} {Y : aY} (h4 : Z 39 4 = Z 3 9) (h5 : Z 39 5 = Z 3 10) (hha : ∀ c : Int, 0 ≤ c ∧ c < Z 3 9 → Z 40 c = sHas (vP Z) (vS Z 12) c) (hca : ∀ c y : Int, 0 ≤ c → 0 ≤ y ∧ y < 6 → c < Z 3 9 → Z (44 + c.toNat) y = sServs (vP Z) (vS Z 12) c y) (how : ∀ p : Int, 0 ≤ p ∧ p < Z 3 10 → Z 42 p = sOwed (vP Z) (vS Z 12) p) (hV : okV Z) (hB : aB Z) (hP : okP (vP Z)) (hS : okS (vP Z) (vS Z 12)) (hd : Z 12 6 ≤ 5000) : aSI G yX6_fewestPuffs cX6_fewestPuffs 7 (some .int) 3 71 [.ref (G.1 39), .ref (G.1 12)] Z Y (fun x Z' Y' => x = sPuffs (vP Z) (vS Z 12) ∧ (∀ a : Nat, a ≠ 41 → Z' a = Z a) ∧ aB Z' ∧ Y' = Y) := by
  refine aS.of (own := RX6) (by decide +kernel) rfl 5 (Nat.le_of_ble_eq_true rfl) (fun X hX hE => ?_)
  show AW X G 0 [some (.ref (G.1 39)), some (.ref (G.1 12)), none, none, none, none, none] [] Z Y
  have hV1 := hV.1
  have hV2 := hV.2.1
  have hVh := hV.2.2.1
  have hVc := hV.2.2.2.1
  have hVo := hV.2.2.2.2
  have hfP := fP hP
  have hw5 := aPow5 hV2
  refine a_aload_n hX rfl rfl dX6_fewestPuffs_0 (pc' := 1) rfl ?_
  refine a_iconst hX dX6_fewestPuffs_1 (pc' := 2) rfl ?_
  refine a_aload_n hX rfl rfl dX6_fewestPuffs_2 (pc' := 3) rfl ?_
  refine a_getfI hX (ji := 5) rfl hB fl_X6_30 rfl (by decide) rfl dX6_fewestPuffs_3 (pc' := 6) rfl (fun hb => ?_)
  refine a_ishl hX (by omega) (by omega) (by omega) dX6_fewestPuffs_6 (pc' := 7) rfl ?_
  refine a_iconst hX dX6_fewestPuffs_7 (pc' := 8) rfl ?_
  refine a_isub hX dX6_fewestPuffs_8 (pc' := 9) rfl ?_
  refine a_cV1i hX cv_X6_56 (c_vOwedBy (by omega) hB hV) rfl (by decide) ⟨by decide, by decide⟩ (Nat.le_of_ble_eq_true rfl) dX6_fewestPuffs_9 (pc' := 12) rfl ?_
  refine a_istore2 hX rfl (by decide) rfl dX6_fewestPuffs_12 (pc' := 13) rfl ?_
  refine a_iconst hX dX6_fewestPuffs_13 (pc' := 14) rfl ?_
  refine a_istore3 hX rfl (by decide) rfl dX6_fewestPuffs_14 (pc' := 15) rfl ?_
  refine a_iconst hX dX6_fewestPuffs_15 (pc' := 16) rfl ?_
  refine a_istore4 hX (by decide) rfl dX6_fewestPuffs_16 (pc' := 18) rfl ?_
  have L18 : ∀ (n : Nat) (i : Int), (0 ≤ i ∧ i ≤ Z 3 9) → (Z 3 9 - i).toNat < n → AW X G 18 [some (.ref (G.1 39)), some (.ref (G.1 12)), some (.int (aI (sOwedAll (vP Z) (vS Z 12)))), some (.int (aI (6 ^ i.toNat))), some (.int (aI i)), none, none] [] Z Y := by
    intro n
    induction n with
    | zero =>
      intro i hi hn
      omega
    | succ n ih =>
      intro i hi hn
      refine a_iload hX rfl dX6_fewestPuffs_18 (pc' := 20) rfl ?_
      refine a_aload_n hX rfl rfl dX6_fewestPuffs_20 (pc' := 21) rfl ?_
      refine a_getfI hX (ji := 4) rfl hB fl_X6_26 rfl (by decide) rfl dX6_fewestPuffs_21 (pc' := 24) rfl (fun hb => ?_)
      refine a_icmp_ge hX (by omega) (by omega) dX6_fewestPuffs_24 (pc' := 27) rfl (tgt := 38) (by decide) (fun c24 => ?_) (fun c24 => ?_)
      · have hw6 := aPow6 (n := Z 3 9) (by omega)
        refine a_iconst hX dX6_fewestPuffs_38 (pc' := 39) rfl ?_
        refine a_istore4 hX (by decide) rfl dX6_fewestPuffs_39 (pc' := 41) rfl ?_
        refine a_iconst hX dX6_fewestPuffs_41 (pc' := 42) rfl ?_
        refine a_istore5 hX (by decide) rfl dX6_fewestPuffs_42 (pc' := 44) rfl ?_
        have L44 : ∀ (m : Nat) (w : Int) (Z1 : aZ), (0 ≤ w ∧ w ≤ 6 ^ (Z 3 9).toNat) → aB Z1 → (∀ a : Nat, a ≠ 41 → Z1 a = Z a) → (6 ^ (Z 3 9).toNat - w).toNat < m → AW X G 44 [some (.ref (G.1 39)), some (.ref (G.1 12)), some (.int (aI (sOwedAll (vP Z) (vS Z 12)))), some (.int (aI (6 ^ (Z 3 9).toNat))), some (.int (aI (plFew (vP Z) (vS Z 12) w.toNat))), some (.int (aI w)), none] [] Z1 Y := by
          intro m
          induction m with
          | zero =>
            intro w Z1 hw hB hz hm
            omega
          | succ m ih2 =>
            intro w Z1 hw hB hz hm
            obtain ⟨hvP, hvS, hP1, hS1, hd1⟩ := sky_same (Z := Z) (Z1 := Z1) (fun a ha => hz a (by omega)) hP hS hd
            have hnc1 : Z1 39 4 = Z1 3 9 := by rw [hz 39 (by omega), hz 3 (by omega)]; exact h4
            have e0 := plFew_s (P := vP Z) (S := vS Z 12) hw.1
            have hfr := plFew_rng (P := vP Z) (S := vS Z 12) w.toNat
            rw [vP_1] at e0
            have hcr := plCost_rng (Z 3 9).toNat w
            refine a_iload hX rfl dX6_fewestPuffs_44 (pc' := 46) rfl ?_
            refine a_iload_n hX rfl rfl dX6_fewestPuffs_46 (pc' := 47) rfl ?_
            
            refine a_icmp_ge hX (by omega) (by omega) dX6_fewestPuffs_47 (pc' := 50) rfl (tgt := 88) (by decide) (fun c47 => ?_) (fun c47 => ?_)
            · refine a_iload hX rfl dX6_fewestPuffs_88 (pc' := 90) rfl ?_
              refine a_iconst hX dX6_fewestPuffs_90 (pc' := 91) rfl ?_
              refine a_icmp_le hX (by omega) (by omega) dX6_fewestPuffs_91 (pc' := 94) rfl (tgt := 99) (by decide) (fun c91 => ?_) (fun c91 => ?_)
              · refine a_iload hX rfl dX6_fewestPuffs_99 (pc' := 101) rfl ?_
                refine a_iret hX dX6_fewestPuffs_101 (hE _ _ _ ?_)
                refine ⟨_, rfl, ?_, hz, hB, rfl⟩
                unfold sPuffs
                rw [vP_1, show 6 ^ (Z 3 9).toNat = w.toNat by have := aNat6 (Z 3 9).toNat; omega]
                first | rw [if_pos (by omega)] | rw [if_neg (by omega)]
              · refine a_bipush hX rfl dX6_fewestPuffs_94 (pc' := 96) rfl ?_
                refine a_goto hX dX6_fewestPuffs_96 (tgt := 101) (by decide) ?_
                refine a_iret hX dX6_fewestPuffs_101 (hE _ _ _ ?_)
                refine ⟨_, rfl, ?_, hz, hB, rfl⟩
                unfold sPuffs
                rw [vP_1, show 6 ^ (Z 3 9).toNat = w.toNat by have := aNat6 (Z 3 9).toNat; omega]
                first | rw [if_pos (by omega)] | rw [if_neg (by omega)]
            · refine a_aload_n hX rfl rfl dX6_fewestPuffs_50 (pc' := 51) rfl ?_
              refine a_aload_n hX rfl rfl dX6_fewestPuffs_51 (pc' := 52) rfl ?_
              refine a_iload hX rfl dX6_fewestPuffs_52 (pc' := 54) rfl ?_
              refine a_cV2I hX cv_X6_65 (c_place (by omega) hnc1 hB hP1 hS1 hd1) rfl (by decide) ⟨by decide, by decide⟩ (Nat.le_of_ble_eq_true rfl) dX6_fewestPuffs_54 (pc' := 57) rfl (fun x54 Z54 Y54 h54 => ?_)
              obtain ⟨hx54, g1, g2, hB, rfl⟩ := h54
              rw [hz 3 (by omega)] at hx54
              have hV54 : okV Z54 := by
                refine ⟨by rw [g2 39 (by omega), hz 39 (by omega)]; exact hV1, by rw [g2 39 (by omega), hz 39 (by omega)]; exact hV2, fun c hc => ?_, fun c hc => ?_, fun p hp => ?_⟩
                · rw [g2 39 (by omega), hz 39 (by omega)] at hc
                  rw [g2 40 (by omega), hz 40 (by omega)]
                  exact hVh c hc
                · rw [g2 39 (by omega), hz 39 (by omega), h4] at hc
                  rw [g1 c (by rw [hz 3 (by omega)]; exact hc), hz (44 + c.toNat) (by omega), hca c _ hc.1 ⟨Int.emod_nonneg _ (by omega), Int.emod_lt_of_pos _ (by omega)⟩ hc.2]
                  exact sServs_rng hP _ _ _
                · rw [g2 39 (by omega), hz 39 (by omega)] at hp
                  rw [g2 42 (by omega), hz 42 (by omega)]
                  exact hVo p hp
              have hmo : vFill (Z54 39 4).toNat (Z54 39 5).toNat (Z54 40) (Z54 41) (Z54 42) (2 ^ (Z54 39 4).toNat - 1) = plMost (vP Z) (vS Z 12) w := by
                unfold plMost
                rw [vP_1, vP_2, g2 39 (by omega), hz 39 (by omega), h4, h5]
                refine vFill_congr (fun c hc => ⟨?_, ?_⟩) (fun p hp => ?_) _
                · rw [g2 40 (by omega), hz 40 (by omega)]
                  exact hha c (by omega)
                · unfold plCn
                  rw [g1 c (by rw [hz 3 (by omega)]; omega), hz (44 + c.toNat) (by omega), hca c _ hc.1 ⟨Int.emod_nonneg _ (by omega), Int.emod_lt_of_pos _ (by omega)⟩ (by omega), hz 13 (by omega), show Z 13 c = vS Z 12 c from (vS_yd (Z := Z) (k := 12) (c := c) (by omega)).symm]
                · rw [g2 42 (by omega), hz 42 (by omega)]
                  exact how p (by omega)
              have hw44 := aPow4 (n := Z54 39 4) hV54.1
              refine a_istore6 hX (by decide) rfl dX6_fewestPuffs_57 (pc' := 59) rfl ?_
              refine a_iload hX rfl dX6_fewestPuffs_59 (pc' := 61) rfl ?_
              refine a_iload hX rfl dX6_fewestPuffs_61 (pc' := 63) rfl ?_
              refine a_icmp_ge hX (by omega) (by omega) dX6_fewestPuffs_63 (pc' := 66) rfl (tgt := 82) (by decide) (fun c63 => ?_) (fun c63 => ?_)
              · refine a_iinc5 hX (by decide) rfl dX6_fewestPuffs_82 (pc' := 85) rfl ?_
                refine a_goto hX dX6_fewestPuffs_85 (tgt := 44) (by decide) ?_
                first
                  | rw [if_pos ⟨by omega, by omega⟩, ← hx54] at e0
                  | rw [if_neg (fun q => by first | omega | exact absurd (hmo.trans q.2) c75)] at e0
                have L := ih2 (w + 1) Z54 (by omega) hB (fun a ha => by rw [g2 a ha]; exact hz a ha) (by omega)
                rw [e0] at L
                refine AW.le ?_ L
                exact ⟨rfl, rfl, rfl, rfl, rfl, rfl, trivial⟩
              · refine a_aload_n hX rfl rfl dX6_fewestPuffs_66 (pc' := 67) rfl ?_
                refine a_aload_n hX rfl rfl dX6_fewestPuffs_67 (pc' := 68) rfl ?_
                refine a_cV0i hX cv_X6_69 (c_everyone hB hV54) rfl (by decide) ⟨by decide, by decide⟩ (Nat.le_of_ble_eq_true rfl) dX6_fewestPuffs_68 (pc' := 71) rfl ?_
                refine a_cV1i hX cv_X6_73 (c_fillable (by omega) hB hV54) rfl (by decide) ⟨by decide, by decide⟩ (Nat.le_of_ble_eq_true rfl) dX6_fewestPuffs_71 (pc' := 74) rfl ?_
                rw [hmo]
                have hso : 0 ≤ sOwedAll (vP Z) (vS Z 12) ∧ sOwedAll (vP Z) (vS Z 12) ≤ 45 := by
                  have := aSum_rng (f := sOwed (vP Z) (vS Z 12)) (a := 0) (b := 9) (Z 3 10).toNat (fun p hp => sOwed_rng hP hS (by omega))
                  unfold sOwedAll
                  rw [vP_2]
                  omega
                have hmr : 0 ≤ plMost (vP Z) (vS Z 12) w ∧ plMost (vP Z) (vS Z 12) w ≤ 45 := by
                  rw [← hmo]
                  exact vFill_rng (by have := hV54.1; omega) (by have := hV54.2.1; omega) (fun c hc => hV54.2.2.1 c (by omega)) (fun p hp => hV54.2.2.2.2 p (by omega)) _
                refine a_iload_n hX rfl rfl dX6_fewestPuffs_74 (pc' := 75) rfl ?_
                refine a_icmp_ne hX (by omega) (by omega) dX6_fewestPuffs_75 (pc' := 78) rfl (tgt := 82) (by decide) (fun c75 => ?_) (fun c75 => ?_)
                · refine a_iinc5 hX (by decide) rfl dX6_fewestPuffs_82 (pc' := 85) rfl ?_
                  refine a_goto hX dX6_fewestPuffs_85 (tgt := 44) (by decide) ?_
                  first
                    | rw [if_pos ⟨by omega, by omega⟩, ← hx54] at e0
                    | rw [if_neg (fun q => by first | omega | exact absurd (hmo.trans q.2) c75)] at e0
                  have L := ih2 (w + 1) Z54 (by omega) hB (fun a ha => by rw [g2 a ha]; exact hz a ha) (by omega)
                  rw [e0] at L
                  refine AW.le ?_ L
                  exact ⟨rfl, rfl, rfl, rfl, rfl, rfl, trivial⟩
                · refine a_iload hX rfl dX6_fewestPuffs_78 (pc' := 80) rfl ?_
                  refine a_istore4 hX (by decide) rfl dX6_fewestPuffs_80 (pc' := 82) rfl ?_
                  refine a_iinc5 hX (by decide) rfl dX6_fewestPuffs_82 (pc' := 85) rfl ?_
                  refine a_goto hX dX6_fewestPuffs_85 (tgt := 44) (by decide) ?_
                  first
                    | rw [if_pos ⟨by omega, by omega⟩, ← hx54] at e0
                    | rw [if_neg (fun q => by first | omega | exact absurd (hmo.trans q.2) c75)] at e0
                  have L := ih2 (w + 1) Z54 (by omega) hB (fun a ha => by rw [g2 a ha]; exact hz a ha) (by omega)
                  rw [e0] at L
                  refine AW.le ?_ L
                  exact ⟨rfl, rfl, rfl, rfl, rfl, rfl, trivial⟩
        rw [show i = Z 3 9 by omega]
        refine AW.le ?_ (L44 ((6 ^ (Z 3 9).toNat - (0 : Int)).toNat + 1) 0 Z (by omega) hB (fun _ _ => rfl) (by omega))
        exact ⟨rfl, rfl, rfl, rfl, rfl, rfl, trivial⟩
      · refine a_iload_n hX rfl rfl dX6_fewestPuffs_27 (pc' := 28) rfl ?_
        refine a_bipush hX rfl dX6_fewestPuffs_28 (pc' := 30) rfl ?_
        refine a_imul hX dX6_fewestPuffs_30 (pc' := 31) rfl ?_
        refine a_istore3 hX rfl (by decide) rfl dX6_fewestPuffs_31 (pc' := 32) rfl ?_
        refine a_iinc4 hX (by decide) rfl dX6_fewestPuffs_32 (pc' := 35) rfl ?_
        refine a_goto hX dX6_fewestPuffs_35 (tgt := 18) (by decide) ?_
        have L := ih (i + 1) (by omega) (by omega)
        rw [aPow_s hi.1] at L
        exact L
  rw [aTwo, vOB_all hV2, show aSum (Z 42) (Z 39 5).toNat = sOwedAll (vP Z) (vS Z 12) by unfold sOwedAll; rw [vP_2, h5]; exact aSum_congr _ (fun p hp => how p (by omega))]
  exact L18 ((Z 3 9 - 0).toNat + 1) 0 (by omega) (by omega)

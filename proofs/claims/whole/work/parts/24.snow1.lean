set_option maxHeartbeats 4000000 in
set_option maxRecDepth 100000 in
theorem x_write {G : aG} {Z : aZ} {Y : aY} {l : Int} (hl : -2147483648 ≤ l ∧ l < 2147483648) (hB : aB Z) (hT : okT Z) : aSI G yX9_write cX9_write 2 (some .int) 1 21 [.ref (G.1 0), .int (aI l)] Z Y (fun x Z' Y' => x = (if 0 ≤ l ∧ l ≤ 255 then (if Z 1 1 < 52 then Z 1 1 + 1 else -4) else -2) ∧ Z' = (if 0 ≤ l ∧ l ≤ 255 ∧ Z 1 1 < 52 then aU (aU Z 2 (Z 1 1) l) 1 1 (Z 1 1 + 1) else Z) ∧ aB Z' ∧ Y' = Y) := by
  refine aS.of (own := RX9) (by decide +kernel) rfl 0 (Nat.le_of_ble_eq_true rfl) (fun X hX hE => ?_)
  show AW X G 0 [some (.ref (G.1 0)), some (.int (aI l))] [] Z Y
  refine a_iload_n hX rfl rfl dX9_write_0 (pc' := 1) rfl ?_
  refine a_if_lt hX (by omega) dX9_write_1 (pc' := 4) rfl (tgt := 11) (by decide) (fun c1 => ?_) (fun c1 => ?_)
  · refine a_bipush hX rfl dX9_write_11 (pc' := 13) rfl ?_
    refine a_iret hX dX9_write_13 (hE _ _ _ ?_)
    exact ⟨_, rfl, (if_neg (by omega)).symm, (if_neg (by omega)).symm, hB, rfl⟩
  · refine a_iload_n hX rfl rfl dX9_write_4 (pc' := 5) rfl ?_
    refine a_sipush hX rfl dX9_write_5 (pc' := 8) rfl ?_
    refine a_icmp_le hX (by omega) (by omega) dX9_write_8 (pc' := 11) rfl (tgt := 14) (by decide) (fun c8 => ?_) (fun c8 => ?_)
    · refine a_aload_n hX rfl rfl dX9_write_14 (pc' := 15) rfl ?_
      refine a_getfR hX (r := 1) fl_X9_10 rfl (by decide) rfl dX9_write_15 (pc' := 18) rfl ?_
      refine a_iload_n hX rfl rfl dX9_write_18 (pc' := 19) rfl ?_
      refine a_cV1I hX cv_X9_90 (c_append (by omega) hB hT) rfl (by decide) ⟨by decide, by decide⟩ (Nat.le_of_ble_eq_true rfl) dX9_write_19 (pc' := 22) rfl (fun x19 Z19 Y19 h19 => ?_)
      obtain ⟨e19, hz19, hB, rfl⟩ := h19
      rw [e19]
      refine a_ifb_eq hX dX9_write_22 (pc' := 25) rfl (tgt := 35) (by decide) (fun c22 => ?_) (fun c22 => ?_)
      · have c22 := of_decide_eq_false c22
        rw [if_neg c22] at hz19
        subst hz19
        refine a_bipush hX rfl dX9_write_35 (pc' := 37) rfl ?_
        refine a_iret hX dX9_write_37 (hE _ _ _ ?_)
        first | exact ⟨_, rfl, by rw [if_pos (by omega), if_pos c22, aU_eq], (if_pos (by omega)).symm, hB, rfl⟩ | exact ⟨_, rfl, by rw [if_pos (by omega), if_neg c22], (if_neg (by omega)).symm, hB, rfl⟩
      · have c22 := of_decide_eq_true c22
        rw [if_pos c22] at hz19
        subst hz19
        refine a_aload_n hX rfl rfl dX9_write_25 (pc' := 26) rfl ?_
        refine a_getfR hX (r := 1) fl_X9_10 rfl (by decide) rfl dX9_write_26 (pc' := 29) rfl ?_
        refine a_getfI hX (ji := 1) rfl hB fl_X9_94 rfl (by decide) rfl dX9_write_29 (pc' := 32) rfl (fun hb => ?_)
        refine a_goto hX dX9_write_32 (tgt := 37) (by decide) ?_
        refine a_iret hX dX9_write_37 (hE _ _ _ ?_)
        first | exact ⟨_, rfl, by rw [if_pos (by omega), if_pos c22, aU_eq], (if_pos (by omega)).symm, hB, rfl⟩ | exact ⟨_, rfl, by rw [if_pos (by omega), if_neg c22], (if_neg (by omega)).symm, hB, rfl⟩
    · refine a_bipush hX rfl dX9_write_11 (pc' := 13) rfl ?_
      refine a_iret hX dX9_write_13 (hE _ _ _ ?_)
      exact ⟨_, rfl, (if_neg (by omega)).symm, (if_neg (by omega)).symm, hB, rfl⟩

set_option maxHeartbeats 4000000 in
set_option maxRecDepth 100000 in
theorem x_wipe {G : aG} {Z : aZ} {Y : aY} (hB : aB Z) (hT : okT Z) : aSI G yX9_wipe cX9_wipe 2 (some .int) 0 0 [.ref (G.1 0)] Z Y (fun x Z' Y' => x = Z 1 1 ∧ Z' = aU Z 1 1 0 ∧ aB Z' ∧ Y' = Y) := by
  refine aS.of (own := RX9) (by decide +kernel) rfl 1 (Nat.le_of_ble_eq_true rfl) (fun X hX hE => ?_)
  show AW X G 0 [some (.ref (G.1 0)), none] [] Z Y
  refine a_aload_n hX rfl rfl dX9_wipe_0 (pc' := 1) rfl ?_
  refine a_getfR hX (r := 1) fl_X9_10 rfl (by decide) rfl dX9_wipe_1 (pc' := 4) rfl ?_
  refine a_getfI hX (ji := 1) rfl hB fl_X9_94 rfl (by decide) rfl dX9_wipe_4 (pc' := 7) rfl (fun hb => ?_)
  refine a_istore1 hX rfl (by decide) rfl dX9_wipe_7 (pc' := 8) rfl ?_
  refine a_aload_n hX rfl rfl dX9_wipe_8 (pc' := 9) rfl ?_
  refine a_getfR hX (r := 1) fl_X9_10 rfl (by decide) rfl dX9_wipe_9 (pc' := 12) rfl ?_
  refine a_iconst hX dX9_wipe_12 (pc' := 13) rfl ?_
  refine a_putfIB hX fl_X9_94 nf_4_1 (ji := 1) rfl rfl (by decide) rfl hB (by omega) dX9_wipe_13 (pc' := 16) rfl (fun hB => ?_)
  refine a_iload_n hX rfl rfl dX9_wipe_16 (pc' := 17) rfl ?_
  refine a_iret hX dX9_wipe_17 (hE _ _ _ ?_)
  exact ⟨_, rfl, rfl, rfl, hB, rfl⟩

set_option maxHeartbeats 4000000 in
set_option maxRecDepth 100000 in
theorem x_fault {G : aG} {Z : aZ} {Y : aY} (hB : aB Z) (hT : okT Z) : aSi G yX9_fault cX9_fault 1 (some .int) 6 136 [.ref (G.1 0)] Z Y (tFault (Z 2) (Z 1 1)) := by
  refine aS.of (own := RX9) (by decide +kernel) rfl 0 (Nat.le_of_ble_eq_true rfl) (fun X hX hE => ?_)
  show AW X G 0 [some (.ref (G.1 0))] [] Z Y
  refine a_aload_n hX rfl rfl dX9_fault_0 (pc' := 1) rfl ?_
  refine a_getfR hX (r := 1) fl_X9_10 rfl (by decide) rfl dX9_fault_1 (pc' := 4) rfl ?_
  refine a_cV0i hX cv_X9_98 (c_firstFault hB hT) rfl (by decide) ⟨by decide, by decide⟩ (Nat.le_of_ble_eq_true rfl) dX9_fault_4 (pc' := 7) rfl ?_
  refine a_iret hX dX9_fault_7 (hE _ _ _ ?_)
  exact ⟨rfl, rfl, rfl⟩

theorem vF_eq {Z Z' : aZ} (h : ∀ a : Nat, 3 ≤ a ∧ a ≤ 11 → Z' a = Z a) : vF Z' = vF Z := by
  funext r
  unfold vF
  split
  · rw [h 3 (by omega)]
  · exact h 4 (by omega)
  · exact h 5 (by omega)
  · exact h 6 (by omega)
  · exact h 7 (by omega)
  · exact h 8 (by omega)
  · exact h 9 (by omega)
  · exact h 10 (by omega)
  · exact h 11 (by omega)
  · rfl
theorem kF_rng {t : Int → Int} {n : Int} (hn : 0 ≤ n) : ∀ (f : Nat) (i h a w c s : Int), 0 ≤ i → -9 ≤ kF t n f i h a w c s ∧ kF t n f i h a w c s ≤ n + i + f
  | 0, i, h, a, w, c, s, hi => by
    unfold kF
    split <;> omega
  | f + 1, i, h, a, w, c, s, hi => by
    have h1 := fun h a w c s => kF_rng (t := t) hn f (i + 1) h a w c s (by omega)
    unfold kF
    repeat' split
    all_goals first
      | omega
      | exact ⟨(h1 _ _ _ _ _).1, Int.le_trans (h1 _ _ _ _ _).2 (by omega)⟩
theorem tFault_rng {Z : aZ} (hT : okT Z) : -9 ≤ tFault (Z 2) (Z 1 1) ∧ tFault (Z 2) (Z 1 1) ≤ 200 := by
  obtain ⟨h1, -⟩ := hT
  have := kF_rng (t := Z 2) h1.1 (Z 1 1 - 1).toNat 1 0 0 0 0 0 (by omega)
  unfold tFault
  split <;> omega

set_option maxHeartbeats 4000000 in
set_option maxRecDepth 100000 in
theorem x_pass {G : aG} {Z : aZ} {Y : aY} (hB : aB Z) (hT : okT Z) : aSI G yX9_pass cX9_pass 2 (some .int) 6 136 [.ref (G.1 0)] Z Y (fun x Z' Y' => x = (if tFault (Z 2) (Z 1 1) = -9 then 100 * Z' 3 8 + 10 * Z' 3 9 + Z' 3 10 else -3) ∧ (tFault (Z 2) (Z 1 1) ≠ -9 → Z' = Z) ∧ (tFault (Z 2) (Z 1 1) = -9 → vF Z' = qRun (Z 2) (Z 1 1) (aU (aU (aU (vF Z) 0 0 0) 0 1 0) 0 2 0) (Z 1 1 - 1).toNat ∧ okCn Z' ∧ vS Z' 12 = sBegin Z' ∧ Z' 20 1 = 0 ∧ Z' 20 2 = 0 ∧ Z' 59 0 = 0 ∧ Z' 59 1 = 0 ∧ (∀ a : Nat, ¬ (3 ≤ a ∧ a ≤ 15) → a ≠ 20 → a ≠ 59 → Z' a = Z a)) ∧ aB Z' ∧ Y' = Y) := by
  refine aS.of (own := RX9) (by decide +kernel) rfl 1 (Nat.le_of_ble_eq_true rfl) (fun X hX hE => ?_)
  show AW X G 0 [some (.ref (G.1 0)), none] [] Z Y
  refine a_aload_n hX rfl rfl dX9_pass_0 (pc' := 1) rfl ?_
  refine a_getfR hX (r := 1) fl_X9_10 rfl (by decide) rfl dX9_pass_1 (pc' := 4) rfl ?_
  refine a_cV0i hX cv_X9_98 (c_firstFault hB hT) rfl (by decide) ⟨by decide, by decide⟩ (Nat.le_of_ble_eq_true rfl) dX9_pass_4 (pc' := 7) rfl ?_
  refine a_bipush hX rfl dX9_pass_7 (pc' := 9) rfl ?_
  refine a_icmp_eq hX (by first | omega | (have := tFault_rng hT; omega)) (by first | omega | (have := tFault_rng hT; omega)) dX9_pass_9 (pc' := 12) rfl (tgt := 15) (by decide) (fun c9 => ?_) (fun c9 => ?_)
  · refine a_aload_n hX rfl rfl dX9_pass_15 (pc' := 16) rfl ?_
    refine a_getfR hX (r := 3) fl_X9_19 rfl (by decide) rfl dX9_pass_16 (pc' := 19) rfl ?_
    refine a_aload_n hX rfl rfl dX9_pass_19 (pc' := 20) rfl ?_
    refine a_getfR hX (r := 1) fl_X9_10 rfl (by decide) rfl dX9_pass_20 (pc' := 23) rfl ?_
    refine a_cV1V hX cv_X9_102 (c_read hB hT) rfl (by decide) ⟨by decide, by decide⟩ (Nat.le_of_ble_eq_true rfl) dX9_pass_23 (pc' := 26) rfl (fun Z23 Y23 h23 => ?_)
    obtain ⟨hv, hQ, ho, hB, rfl⟩ := h23
    refine a_aload_n hX rfl rfl dX9_pass_26 (pc' := 27) rfl ?_
    refine a_getfR hX (r := 12) fl_X9_28 rfl (by decide) rfl dX9_pass_27 (pc' := 30) rfl ?_
    refine a_cV0V hX cv_X9_106 (c_begin sky12 hB) rfl (by decide) ⟨by decide, by decide⟩ (Nat.le_of_ble_eq_true rfl) dX9_pass_30 (pc' := 33) rfl (fun Z30 Y30 h30 => ?_)
    obtain ⟨hs, ho2, hB, rfl⟩ := h30
    refine a_aload_n hX rfl rfl dX9_pass_33 (pc' := 34) rfl ?_
    refine a_getfR hX (r := 20) fl_X9_38 rfl (by decide) rfl dX9_pass_34 (pc' := 37) rfl ?_
    refine a_cV0V hX cv_X9_109 (c_forget hB) rfl (by decide) ⟨by decide, by decide⟩ (Nat.le_of_ble_eq_true rfl) dX9_pass_37 (pc' := 40) rfl (fun Z37 Y37 h37 => ?_)
    obtain ⟨hz37, hB, rfl⟩ := h37
    refine a_iconst hX dX9_pass_40 (pc' := 41) rfl ?_
    refine a_istore1 hX rfl (by decide) rfl dX9_pass_41 (pc' := 42) rfl ?_
    have L42 : ∀ (n : Nat) (i : Int) (Z1 : aZ), (0 ≤ i ∧ i ≤ 2) → aB Z1 → (∀ b : Int, 0 ≤ b ∧ b < i → Z1 59 b = 0) → (∀ a : Nat, a ≠ 59 → Z1 a = Z37 a) → (2 - i).toNat < n → AW X G 42 [some (.ref (G.1 0)), some (.int (aI i))] [] Z1 Y37 := by
      intro n
      induction n with
      | zero =>
        intro i Z1 hi hB hk hz hn
        omega
      | succ n ih =>
        intro i Z1 hi hB hk hz hn
        refine a_iload_n hX rfl rfl dX9_pass_42 (pc' := 43) rfl ?_
        refine a_iconst hX dX9_pass_43 (pc' := 44) rfl ?_
        refine a_icmp_ge hX (by first | omega | (have := tFault_rng hT; omega)) (by first | omega | (have := tFault_rng hT; omega)) dX9_pass_44 (pc' := 47) rfl (tgt := 60) (by decide) (fun c44 => ?_) (fun c44 => ?_)
        · refine a_bipush hX rfl dX9_pass_60 (pc' := 62) rfl ?_
          refine a_aload_n hX rfl rfl dX9_pass_62 (pc' := 63) rfl ?_
          refine a_getfR hX (r := 3) fl_X9_19 rfl (by decide) rfl dX9_pass_63 (pc' := 66) rfl ?_
          refine a_getfI hX (ji := 8) rfl hB fl_X9_112 rfl (by decide) rfl dX9_pass_66 (pc' := 69) rfl (fun hb => ?_)
          refine a_imul hX dX9_pass_69 (pc' := 70) rfl ?_
          refine a_bipush hX rfl dX9_pass_70 (pc' := 72) rfl ?_
          refine a_aload_n hX rfl rfl dX9_pass_72 (pc' := 73) rfl ?_
          refine a_getfR hX (r := 3) fl_X9_19 rfl (by decide) rfl dX9_pass_73 (pc' := 76) rfl ?_
          refine a_getfI hX (ji := 9) rfl hB fl_X9_115 rfl (by decide) rfl dX9_pass_76 (pc' := 79) rfl (fun hb => ?_)
          refine a_imul hX dX9_pass_79 (pc' := 80) rfl ?_
          refine a_iadd hX dX9_pass_80 (pc' := 81) rfl ?_
          refine a_aload_n hX rfl rfl dX9_pass_81 (pc' := 82) rfl ?_
          refine a_getfR hX (r := 3) fl_X9_19 rfl (by decide) rfl dX9_pass_82 (pc' := 85) rfl ?_
          refine a_getfI hX (ji := 10) rfl hB fl_X9_118 rfl (by decide) rfl dX9_pass_85 (pc' := 88) rfl (fun hb => ?_)
          refine a_iadd hX dX9_pass_88 (pc' := 89) rfl ?_
          refine a_iret hX dX9_pass_89 (hE _ _ _ ?_)
          have e37 : ∀ a : Nat, a ≠ 20 → Z37 a = Z30 a := fun a ha => by rw [hz37, aU_row ha, aU_row ha]
          refine ⟨_, rfl, by rw [if_pos c9], fun q => absurd c9 q, fun _ => ⟨?_, ?_, ?_, ?_, ?_, hk 0 (by omega), hk 1 (by omega), fun a h1 h2 h3 => ?_⟩, hB, rfl⟩
          · rw [← hv]
            exact vF_eq (fun a ha => by rw [hz a (by omega), e37 a (by omega), ho2 a (by omega)])
          · unfold okCn
            rw [hz 3 (by decide), e37 3 (by decide), ho2 3 (by decide)]
            exact hQ
          · rw [vS_frame (Z := Z30) (by rw [hz 3 (by decide), e37 3 (by decide)]) (by rw [hz 12 (by decide), e37 12 (by decide)]) (by rw [hz 13 (by decide), e37 13 (by decide)]) (by rw [hz 14 (by decide), e37 14 (by decide)]) (by rw [hz 15 (by decide), e37 15 (by decide)]), hs]
            unfold sBegin
            rw [hz 3 (by decide), e37 3 (by decide), ho2 3 (by decide), hz 5 (by decide), e37 5 (by decide), ho2 5 (by decide), hz 6 (by decide), e37 6 (by decide), ho2 6 (by decide)]
          · rw [hz 20 (by decide), hz37, aU_nj (by decide), aU_eq]
          · rw [hz 20 (by decide), hz37, aU_eq]
          · rw [hz a h3, e37 a h2, ho2 a (by omega), ho a (by omega)]
        · refine a_aload_n hX rfl rfl dX9_pass_47 (pc' := 48) rfl ?_
          refine a_getfR hX (r := 59) fl_X9_75 rfl (by decide) rfl dX9_pass_48 (pc' := 51) rfl ?_
          refine a_iload_n hX rfl rfl dX9_pass_51 (pc' := 52) rfl ?_
          refine a_iconst hX dX9_pass_52 (pc' := 53) rfl ?_
          refine a_zastB hX rfl (by decide) (by decide) (by first | omega | (have := tFault_rng hT; omega)) hB (Or.inl rfl) dX9_pass_53 (pc' := 54) rfl (fun hB => ?_)
          refine a_iinc1 hX (by decide) rfl dX9_pass_54 (pc' := 57) rfl ?_
          refine a_goto hX dX9_pass_57 (tgt := 42) (by decide) ?_
          refine ih (i + 1) _ (by omega) hB (fun b hb9 => ?_) (fun a ha => by rw [aU_row ha]; exact hz a ha) (by omega)
          rw [aU_at]
          by_cases e : b = i
          · rw [if_pos e]
          · rw [if_neg e]; exact hk b (by omega)
    exact L42 3 0 Z37 (by omega) hB (fun b hb9 => by omega) (fun _ _ => rfl) (by omega)
  · refine a_bipush hX rfl dX9_pass_12 (pc' := 14) rfl ?_
    refine a_iret hX dX9_pass_14 (hE _ _ _ ?_)
    exact ⟨_, rfl, (if_neg c9).symm, fun _ => rfl, fun q => absurd q c9, hB, rfl⟩

set_option maxHeartbeats 4000000 in
set_option maxRecDepth 100000 in
theorem x_cloud {G : aG} {Z : aZ} {Y : aY} {c what : Int} (hc : -2147483648 ≤ c ∧ c < 2147483648) (hwhat : -2147483648 ≤ what ∧ what < 2147483648) (hB : aB Z) (hP : okP (vP Z)) (hS : okS (vP Z) (vS Z 12)) (hd : Z 12 6 ≤ 5000) : aSi G yX9_cloud cX9_cloud 3 (some .int) 5 110 [.ref (G.1 0), .int (aI c), .int (aI what)] Z Y (if pHasC (vP Z) c = true then (if what = 0 then vS Z 12 c else if what = 1 then vS Z 12 (4 + c) else if what = 2 then vP Z 4 c else if what = 3 then sHas (vP Z) (vS Z 12) c else if what = 4 then aBits (sCan (vP Z) (vS Z 12) c) (vP Z 0 2).toNat else if what = 5 then sServs (vP Z) (vS Z 12) c (vS Z 12 c) else -2) else -1) := by
  refine aS.of (own := RX9) (by decide +kernel) rfl 0 (Nat.le_of_ble_eq_true rfl) (fun X hX hE => ?_)
  show AW X G 0 [some (.ref (G.1 0)), some (.int (aI c)), some (.int (aI what))] [] Z Y
  have hfP := fP hP
  have hfS := fS hS
  refine a_aload_n hX rfl rfl dX9_cloud_0 (pc' := 1) rfl ?_
  refine a_getfR hX (r := 3) fl_X9_19 rfl (by decide) rfl dX9_cloud_1 (pc' := 4) rfl ?_
  refine a_iload_n hX rfl rfl dX9_cloud_4 (pc' := 5) rfl ?_
  refine a_cV1i hX cv_X9_121 (c_hasCloud (by omega) hB hP) rfl (by decide) ⟨by decide, by decide⟩ (Nat.le_of_ble_eq_true rfl) dX9_cloud_5 (pc' := 8) rfl ?_
  refine a_ifb_ne hX dX9_cloud_8 (pc' := 11) rfl (tgt := 13) (by decide) (fun c8 => ?_) (fun c8 => ?_)
  · have hc1 := pHasC_no c8
    refine a_iload_n hX rfl rfl dX9_cloud_13 (pc' := 14) rfl ?_
    have hsw : what = 0 ∨ what = 1 ∨ what = 2 ∨ what = 3 ∨ what = 4 ∨ what = 5 ∨ (what < 0 ∨ 5 < what) := by omega
    rcases hsw with e14 | e14 | e14 | e14 | e14 | e14 | e14
    · refine a_tsIn hX dX9_cloud_14 (by omega) (by omega) (by omega) (off := 38) (by rw [e14]; rfl) (tgt := 52) (by decide) ?_
      refine a_aload_n hX rfl rfl dX9_cloud_52 (pc' := 53) rfl ?_
      refine a_getfR hX (r := 12) fl_X9_28 rfl (by decide) rfl dX9_cloud_53 (pc' := 56) rfl ?_
      refine a_getfR hX (r := 13) fl_X9_124 rfl (by decide) rfl dX9_cloud_56 (pc' := 59) rfl ?_
      refine a_iload_n hX rfl rfl dX9_cloud_59 (pc' := 60) rfl ?_
      refine a_iald hX rfl (by decide) (by decide) (by omega) hB dX9_cloud_60 (pc' := 61) rfl (fun hb => ?_)
      refine a_iret hX dX9_cloud_61 (hE _ _ _ ?_)
      refine ⟨aLf ?_, rfl, rfl⟩
      rw [if_pos c8, if_pos (show what = 0 by omega), show Z 13 c = vS Z 12 c from (vS_yd (Z := Z) (k := 12) (c := c) (by omega)).symm]
    · refine a_tsIn hX dX9_cloud_14 (by omega) (by omega) (by omega) (off := 48) (by rw [e14]; rfl) (tgt := 62) (by decide) ?_
      refine a_aload_n hX rfl rfl dX9_cloud_62 (pc' := 63) rfl ?_
      refine a_getfR hX (r := 12) fl_X9_28 rfl (by decide) rfl dX9_cloud_63 (pc' := 66) rfl ?_
      refine a_getfR hX (r := 14) fl_X9_127 rfl (by decide) rfl dX9_cloud_66 (pc' := 69) rfl ?_
      refine a_iload_n hX rfl rfl dX9_cloud_69 (pc' := 70) rfl ?_
      refine a_iald hX rfl (by decide) (by decide) (by omega) hB dX9_cloud_70 (pc' := 71) rfl (fun hb => ?_)
      refine a_iret hX dX9_cloud_71 (hE _ _ _ ?_)
      refine ⟨aLf ?_, rfl, rfl⟩
      rw [if_pos c8, if_neg (show ¬ what = 0 by omega), if_pos (show what = 1 by omega), show Z 14 c = vS Z 12 (4 + c) from (vS_fl (Z := Z) (k := 12) (c := c) (by omega)).symm]
    · refine a_tsIn hX dX9_cloud_14 (by omega) (by omega) (by omega) (off := 58) (by rw [e14]; rfl) (tgt := 72) (by decide) ?_
      refine a_aload_n hX rfl rfl dX9_cloud_72 (pc' := 73) rfl ?_
      refine a_getfR hX (r := 3) fl_X9_19 rfl (by decide) rfl dX9_cloud_73 (pc' := 76) rfl ?_
      refine a_getfR hX (r := 7) fl_X9_130 rfl (by decide) rfl dX9_cloud_76 (pc' := 79) rfl ?_
      refine a_iload_n hX rfl rfl dX9_cloud_79 (pc' := 80) rfl ?_
      refine a_iald hX rfl (by decide) (by decide) (by omega) hB dX9_cloud_80 (pc' := 81) rfl (fun hb => ?_)
      refine a_iret hX dX9_cloud_81 (hE _ _ _ ?_)
      refine ⟨aLf ?_, rfl, rfl⟩
      rw [if_pos c8, if_neg (show ¬ what = 0 by omega), if_neg (show ¬ what = 1 by omega), if_pos (show what = 2 by omega)]
      rfl
    · refine a_tsIn hX dX9_cloud_14 (by omega) (by omega) (by omega) (off := 68) (by rw [e14]; rfl) (tgt := 82) (by decide) ?_
      refine a_aload_n hX rfl rfl dX9_cloud_82 (pc' := 83) rfl ?_
      refine a_getfR hX (r := 12) fl_X9_28 rfl (by decide) rfl dX9_cloud_83 (pc' := 86) rfl ?_
      refine a_iload_n hX rfl rfl dX9_cloud_86 (pc' := 87) rfl ?_
      refine a_cV1i hX cv_X9_133 (c_has (by omega) sky12 hB hP hS hd) rfl (by decide) ⟨by decide, by decide⟩ (Nat.le_of_ble_eq_true rfl) dX9_cloud_87 (pc' := 90) rfl ?_
      refine a_iret hX dX9_cloud_90 (hE _ _ _ ?_)
      refine ⟨aLf ?_, rfl, rfl⟩
      rw [if_pos c8, if_neg (show ¬ what = 0 by omega), if_neg (show ¬ what = 1 by omega), if_neg (show ¬ what = 2 by omega), if_pos (show what = 3 by omega)]
    · refine a_tsIn hX dX9_cloud_14 (by omega) (by omega) (by omega) (off := 77) (by rw [e14]; rfl) (tgt := 91) (by decide) ?_
      refine a_aload_n hX rfl rfl dX9_cloud_91 (pc' := 92) rfl ?_
      refine a_getfR hX (r := 12) fl_X9_28 rfl (by decide) rfl dX9_cloud_92 (pc' := 95) rfl ?_
      refine a_iload_n hX rfl rfl dX9_cloud_95 (pc' := 96) rfl ?_
      refine a_cV1i hX cv_X9_137 (c_droppable (by omega) sky12 hB hP hS hd) rfl (by decide) ⟨by decide, by decide⟩ (Nat.le_of_ble_eq_true rfl) dX9_cloud_96 (pc' := 99) rfl ?_
      refine a_iret hX dX9_cloud_99 (hE _ _ _ ?_)
      refine ⟨aLf ?_, rfl, rfl⟩
      rw [if_pos c8, if_neg (show ¬ what = 0 by omega), if_neg (show ¬ what = 1 by omega), if_neg (show ¬ what = 2 by omega), if_neg (show ¬ what = 3 by omega), if_pos (show what = 4 by omega)]
    · refine a_tsIn hX dX9_cloud_14 (by omega) (by omega) (by omega) (off := 86) (by rw [e14]; rfl) (tgt := 100) (by decide) ?_
      refine a_aload_n hX rfl rfl dX9_cloud_100 (pc' := 101) rfl ?_
      refine a_getfR hX (r := 12) fl_X9_28 rfl (by decide) rfl dX9_cloud_101 (pc' := 104) rfl ?_
      refine a_iload_n hX rfl rfl dX9_cloud_104 (pc' := 105) rfl ?_
      refine a_aload_n hX rfl rfl dX9_cloud_105 (pc' := 106) rfl ?_
      refine a_getfR hX (r := 12) fl_X9_28 rfl (by decide) rfl dX9_cloud_106 (pc' := 109) rfl ?_
      refine a_getfR hX (r := 13) fl_X9_124 rfl (by decide) rfl dX9_cloud_109 (pc' := 112) rfl ?_
      have hyr : 0 ≤ Z 13 c ∧ Z 13 c ≤ 5 := fSy hS (c := c) (by omega)
      refine a_iload_n hX rfl rfl dX9_cloud_112 (pc' := 113) rfl ?_
      refine a_iald hX rfl (by decide) (by decide) (by omega) hB dX9_cloud_113 (pc' := 114) rfl (fun hb => ?_)
      refine a_cV2i hX cv_X9_140 (c_servable (by omega) (by omega) sky12 hB hP hS hd) rfl (by decide) ⟨by decide, by decide⟩ (Nat.le_of_ble_eq_true rfl) dX9_cloud_114 (pc' := 117) rfl ?_
      refine a_iret hX dX9_cloud_117 (hE _ _ _ ?_)
      refine ⟨aLf ?_, rfl, rfl⟩
      rw [if_pos c8, if_neg (show ¬ what = 0 by omega), if_neg (show ¬ what = 1 by omega), if_neg (show ¬ what = 2 by omega), if_neg (show ¬ what = 3 by omega), if_neg (show ¬ what = 4 by omega), if_pos (show what = 5 by omega), show Z 13 c = vS Z 12 c from (vS_yd (Z := Z) (k := 12) (c := c) (by omega)).symm]
    · refine a_tsOut hX dX9_cloud_14 (by omega) e14 (tgt := 118) (by decide) ?_
      refine a_bipush hX rfl dX9_cloud_118 (pc' := 120) rfl ?_
      refine a_iret hX dX9_cloud_120 (hE _ _ _ ?_)
      refine ⟨aLf ?_, rfl, rfl⟩
      rw [if_pos c8, if_neg (show ¬ what = 0 by omega), if_neg (show ¬ what = 1 by omega), if_neg (show ¬ what = 2 by omega), if_neg (show ¬ what = 3 by omega), if_neg (show ¬ what = 4 by omega), if_neg (show ¬ what = 5 by omega)]
  · refine a_iconst hX dX9_cloud_11 (pc' := 12) rfl ?_
    refine a_iret hX dX9_cloud_12 (hE _ _ _ ?_)
    refine ⟨aLf ?_, rfl, rfl⟩
    rw [if_neg (by rw [c8]; decide)]

set_option maxHeartbeats 4000000 in
set_option maxRecDepth 100000 in
theorem x_paper {G : aG} {Z : aZ} {Y : aY} {p what : Int} (hp : -2147483648 ≤ p ∧ p < 2147483648) (hwhat : -2147483648 ≤ what ∧ what < 2147483648) (hB : aB Z) (hP : okP (vP Z)) (hS : okS (vP Z) (vS Z 12)) (hd : Z 12 6 ≤ 5000) : aSi G yX9_paper cX9_paper 3 (some .int) 2 42 [.ref (G.1 0), .int (aI p), .int (aI what)] Z Y (if pHasP (vP Z) p = true then (if what = 0 then vP Z 5 p else if what = 1 then vP Z 6 p else if what = 2 then vP Z 7 p else if what = 3 then vS Z 12 (8 + p) else if what = 4 then sOwed (vP Z) (vS Z 12) p else if what = 5 then aTr (sTorn (vS Z 12) p) else -2) else -1) := by
  refine aS.of (own := RX9) (by decide +kernel) rfl 0 (Nat.le_of_ble_eq_true rfl) (fun X hX hE => ?_)
  show AW X G 0 [some (.ref (G.1 0)), some (.int (aI p)), some (.int (aI what))] [] Z Y
  have hfP := fP hP
  have hfS := fS hS
  refine a_aload_n hX rfl rfl dX9_paper_0 (pc' := 1) rfl ?_
  refine a_getfR hX (r := 3) fl_X9_19 rfl (by decide) rfl dX9_paper_1 (pc' := 4) rfl ?_
  refine a_iload_n hX rfl rfl dX9_paper_4 (pc' := 5) rfl ?_
  refine a_cV1i hX cv_X9_144 (c_hasPaper (by omega) hB hP) rfl (by decide) ⟨by decide, by decide⟩ (Nat.le_of_ble_eq_true rfl) dX9_paper_5 (pc' := 8) rfl ?_
  refine a_ifb_ne hX dX9_paper_8 (pc' := 11) rfl (tgt := 13) (by decide) (fun c8 => ?_) (fun c8 => ?_)
  · have hp1 := pHasP_no c8
    refine a_iload_n hX rfl rfl dX9_paper_13 (pc' := 14) rfl ?_
    have hsw : what = 0 ∨ what = 1 ∨ what = 2 ∨ what = 3 ∨ what = 4 ∨ what = 5 ∨ (what < 0 ∨ 5 < what) := by omega
    rcases hsw with e14 | e14 | e14 | e14 | e14 | e14 | e14
    · refine a_tsIn hX dX9_paper_14 (by omega) (by omega) (by omega) (off := 38) (by rw [e14]; rfl) (tgt := 52) (by decide) ?_
      refine a_aload_n hX rfl rfl dX9_paper_52 (pc' := 53) rfl ?_
      refine a_getfR hX (r := 3) fl_X9_19 rfl (by decide) rfl dX9_paper_53 (pc' := 56) rfl ?_
      refine a_getfR hX (r := 8) fl_X9_147 rfl (by decide) rfl dX9_paper_56 (pc' := 59) rfl ?_
      refine a_iload_n hX rfl rfl dX9_paper_59 (pc' := 60) rfl ?_
      refine a_iald hX rfl (by decide) (by decide) (by omega) hB dX9_paper_60 (pc' := 61) rfl (fun hb => ?_)
      refine a_iret hX dX9_paper_61 (hE _ _ _ ?_)
      refine ⟨aLf ?_, rfl, rfl⟩
      rw [if_pos c8, if_pos (show what = 0 by omega)]
      rfl
    · refine a_tsIn hX dX9_paper_14 (by omega) (by omega) (by omega) (off := 48) (by rw [e14]; rfl) (tgt := 62) (by decide) ?_
      refine a_aload_n hX rfl rfl dX9_paper_62 (pc' := 63) rfl ?_
      refine a_getfR hX (r := 3) fl_X9_19 rfl (by decide) rfl dX9_paper_63 (pc' := 66) rfl ?_
      refine a_getfR hX (r := 9) fl_X9_150 rfl (by decide) rfl dX9_paper_66 (pc' := 69) rfl ?_
      refine a_iload_n hX rfl rfl dX9_paper_69 (pc' := 70) rfl ?_
      refine a_iald hX rfl (by decide) (by decide) (by omega) hB dX9_paper_70 (pc' := 71) rfl (fun hb => ?_)
      refine a_iret hX dX9_paper_71 (hE _ _ _ ?_)
      refine ⟨aLf ?_, rfl, rfl⟩
      rw [if_pos c8, if_neg (show ¬ what = 0 by omega), if_pos (show what = 1 by omega)]
      rfl
    · refine a_tsIn hX dX9_paper_14 (by omega) (by omega) (by omega) (off := 58) (by rw [e14]; rfl) (tgt := 72) (by decide) ?_
      refine a_aload_n hX rfl rfl dX9_paper_72 (pc' := 73) rfl ?_
      refine a_getfR hX (r := 3) fl_X9_19 rfl (by decide) rfl dX9_paper_73 (pc' := 76) rfl ?_
      refine a_getfR hX (r := 10) fl_X9_153 rfl (by decide) rfl dX9_paper_76 (pc' := 79) rfl ?_
      refine a_iload_n hX rfl rfl dX9_paper_79 (pc' := 80) rfl ?_
      refine a_iald hX rfl (by decide) (by decide) (by omega) hB dX9_paper_80 (pc' := 81) rfl (fun hb => ?_)
      refine a_iret hX dX9_paper_81 (hE _ _ _ ?_)
      refine ⟨aLf ?_, rfl, rfl⟩
      rw [if_pos c8, if_neg (show ¬ what = 0 by omega), if_neg (show ¬ what = 1 by omega), if_pos (show what = 2 by omega)]
      rfl
    · refine a_tsIn hX dX9_paper_14 (by omega) (by omega) (by omega) (off := 68) (by rw [e14]; rfl) (tgt := 82) (by decide) ?_
      refine a_aload_n hX rfl rfl dX9_paper_82 (pc' := 83) rfl ?_
      refine a_getfR hX (r := 12) fl_X9_28 rfl (by decide) rfl dX9_paper_83 (pc' := 86) rfl ?_
      refine a_getfR hX (r := 15) fl_X9_156 rfl (by decide) rfl dX9_paper_86 (pc' := 89) rfl ?_
      refine a_iload_n hX rfl rfl dX9_paper_89 (pc' := 90) rfl ?_
      refine a_iald hX rfl (by decide) (by decide) (by omega) hB dX9_paper_90 (pc' := 91) rfl (fun hb => ?_)
      refine a_iret hX dX9_paper_91 (hE _ _ _ ?_)
      refine ⟨aLf ?_, rfl, rfl⟩
      rw [if_pos c8, if_neg (show ¬ what = 0 by omega), if_neg (show ¬ what = 1 by omega), if_neg (show ¬ what = 2 by omega), if_pos (show what = 3 by omega), show Z 15 p = vS Z 12 (8 + p) from (vS_fi (Z := Z) (k := 12) (p := p) (by omega)).symm]
    · refine a_tsIn hX dX9_paper_14 (by omega) (by omega) (by omega) (off := 78) (by rw [e14]; rfl) (tgt := 92) (by decide) ?_
      refine a_aload_n hX rfl rfl dX9_paper_92 (pc' := 93) rfl ?_
      refine a_getfR hX (r := 12) fl_X9_28 rfl (by decide) rfl dX9_paper_93 (pc' := 96) rfl ?_
      refine a_iload_n hX rfl rfl dX9_paper_96 (pc' := 97) rfl ?_
      refine a_cV1i hX cv_X9_159 (c_owed (by omega) sky12 hB hP hS hd) rfl (by decide) ⟨by decide, by decide⟩ (Nat.le_of_ble_eq_true rfl) dX9_paper_97 (pc' := 100) rfl ?_
      refine a_iret hX dX9_paper_100 (hE _ _ _ ?_)
      refine ⟨aLf ?_, rfl, rfl⟩
      rw [if_pos c8, if_neg (show ¬ what = 0 by omega), if_neg (show ¬ what = 1 by omega), if_neg (show ¬ what = 2 by omega), if_neg (show ¬ what = 3 by omega), if_pos (show what = 4 by omega)]
    · refine a_tsIn hX dX9_paper_14 (by omega) (by omega) (by omega) (off := 87) (by rw [e14]; rfl) (tgt := 101) (by decide) ?_
      refine a_aload_n hX rfl rfl dX9_paper_101 (pc' := 102) rfl ?_
      refine a_getfR hX (r := 12) fl_X9_28 rfl (by decide) rfl dX9_paper_102 (pc' := 105) rfl ?_
      refine a_iload_n hX rfl rfl dX9_paper_105 (pc' := 106) rfl ?_
      refine a_cV1i hX cv_X9_162 (c_isTorn (by omega) sky12 hB hP hS hd) rfl (by decide) ⟨by decide, by decide⟩ (Nat.le_of_ble_eq_true rfl) dX9_paper_106 (pc' := 109) rfl ?_
      refine a_ifb_eq hX dX9_paper_109 (pc' := 112) rfl (tgt := 116) (by decide) (fun c109 => ?_) (fun c109 => ?_)
      · refine a_iconst hX dX9_paper_116 (pc' := 117) rfl ?_
        refine a_iret hX dX9_paper_117 (hE _ _ _ ?_)
        refine ⟨aLf ?_, rfl, rfl⟩
        rw [if_pos c8, if_neg (show ¬ what = 0 by omega), if_neg (show ¬ what = 1 by omega), if_neg (show ¬ what = 2 by omega), if_neg (show ¬ what = 3 by omega), if_neg (show ¬ what = 4 by omega), if_pos (show what = 5 by omega), c109]
        rfl
      · refine a_iconst hX dX9_paper_112 (pc' := 113) rfl ?_
        refine a_goto hX dX9_paper_113 (tgt := 117) (by decide) ?_
        refine a_iret hX dX9_paper_117 (hE _ _ _ ?_)
        refine ⟨aLf ?_, rfl, rfl⟩
        rw [if_pos c8, if_neg (show ¬ what = 0 by omega), if_neg (show ¬ what = 1 by omega), if_neg (show ¬ what = 2 by omega), if_neg (show ¬ what = 3 by omega), if_neg (show ¬ what = 4 by omega), if_pos (show what = 5 by omega), c109]
        rfl
    · refine a_tsOut hX dX9_paper_14 (by omega) e14 (tgt := 118) (by decide) ?_
      refine a_bipush hX rfl dX9_paper_118 (pc' := 120) rfl ?_
      refine a_iret hX dX9_paper_120 (hE _ _ _ ?_)
      refine ⟨aLf ?_, rfl, rfl⟩
      rw [if_pos c8, if_neg (show ¬ what = 0 by omega), if_neg (show ¬ what = 1 by omega), if_neg (show ¬ what = 2 by omega), if_neg (show ¬ what = 3 by omega), if_neg (show ¬ what = 4 by omega), if_neg (show ¬ what = 5 by omega)]
  · refine a_iconst hX dX9_paper_11 (pc' := 12) rfl ?_
    refine a_iret hX dX9_paper_12 (hE _ _ _ ?_)
    refine ⟨aLf ?_, rfl, rfl⟩
    rw [if_neg (by rw [c8]; decide)]

set_option maxHeartbeats 4000000 in
set_option maxRecDepth 100000 in
theorem x_count {G : aG} {Z : aZ} {Y : aY} {what : Int} (hwhat : -2147483648 ≤ what ∧ what < 2147483648) (hB : aB Z) (hP : okP (vP Z)) (hS : okS (vP Z) (vS Z 12)) (hd : Z 12 6 ≤ 5000) : aSi G yX9_count cX9_count 2 (some .int) 4 85 [.ref (G.1 0), .int (aI what)] Z Y (if what = 0 then Z 1 1 else if what = 1 then Z 3 8 else if what = 2 then Z 3 9 else if what = 3 then Z 3 10 else if what = 4 then Z 12 6 else if what = 5 then pWind (vP Z) (Z 12 6) else if what = 6 then sOwedAll (vP Z) (vS Z 12) else if what = 7 then sFilled (vS Z 12) else if what = 8 then Z 12 5 else if what = 9 then Z 12 4 else if what = 10 then Z 20 2 else if what = 11 then Z 36 2 else -2) := by
  refine aS.of (own := RX9) (by decide +kernel) rfl 0 (Nat.le_of_ble_eq_true rfl) (fun X hX hE => ?_)
  show AW X G 0 [some (.ref (G.1 0)), some (.int (aI what))] [] Z Y
  have hfP := fP hP
  have hfS := fS hS
  refine a_iload_n hX rfl rfl dX9_count_0 (pc' := 1) rfl ?_
  have hsw : what = 0 ∨ what = 1 ∨ what = 2 ∨ what = 3 ∨ what = 4 ∨ what = 5 ∨ what = 6 ∨ what = 7 ∨ what = 8 ∨ what = 9 ∨ what = 10 ∨ what = 11 ∨ (what < 0 ∨ 11 < what) := by omega
  rcases hsw with e1 | e1 | e1 | e1 | e1 | e1 | e1 | e1 | e1 | e1 | e1 | e1 | e1
  · refine a_tsIn hX dX9_count_1 (by omega) (by omega) (by omega) (off := 63) (by rw [e1]; rfl) (tgt := 64) (by decide) ?_
    refine a_aload_n hX rfl rfl dX9_count_64 (pc' := 65) rfl ?_
    refine a_getfR hX (r := 1) fl_X9_10 rfl (by decide) rfl dX9_count_65 (pc' := 68) rfl ?_
    refine a_getfI hX (ji := 1) rfl hB fl_X9_94 rfl (by decide) rfl dX9_count_68 (pc' := 71) rfl (fun hb => ?_)
    refine a_iret hX dX9_count_71 (hE _ _ _ ?_)
    refine ⟨aLf ?_, rfl, rfl⟩
    rw [if_pos (show what = 0 by omega)]
  · refine a_tsIn hX dX9_count_1 (by omega) (by omega) (by omega) (off := 71) (by rw [e1]; rfl) (tgt := 72) (by decide) ?_
    refine a_aload_n hX rfl rfl dX9_count_72 (pc' := 73) rfl ?_
    refine a_getfR hX (r := 3) fl_X9_19 rfl (by decide) rfl dX9_count_73 (pc' := 76) rfl ?_
    refine a_getfI hX (ji := 8) rfl hB fl_X9_112 rfl (by decide) rfl dX9_count_76 (pc' := 79) rfl (fun hb => ?_)
    refine a_iret hX dX9_count_79 (hE _ _ _ ?_)
    refine ⟨aLf ?_, rfl, rfl⟩
    rw [if_neg (show ¬ what = 0 by omega), if_pos (show what = 1 by omega)]
  · refine a_tsIn hX dX9_count_1 (by omega) (by omega) (by omega) (off := 79) (by rw [e1]; rfl) (tgt := 80) (by decide) ?_
    refine a_aload_n hX rfl rfl dX9_count_80 (pc' := 81) rfl ?_
    refine a_getfR hX (r := 3) fl_X9_19 rfl (by decide) rfl dX9_count_81 (pc' := 84) rfl ?_
    refine a_getfI hX (ji := 9) rfl hB fl_X9_115 rfl (by decide) rfl dX9_count_84 (pc' := 87) rfl (fun hb => ?_)
    refine a_iret hX dX9_count_87 (hE _ _ _ ?_)
    refine ⟨aLf ?_, rfl, rfl⟩
    rw [if_neg (show ¬ what = 0 by omega), if_neg (show ¬ what = 1 by omega), if_pos (show what = 2 by omega)]
  · refine a_tsIn hX dX9_count_1 (by omega) (by omega) (by omega) (off := 87) (by rw [e1]; rfl) (tgt := 88) (by decide) ?_
    refine a_aload_n hX rfl rfl dX9_count_88 (pc' := 89) rfl ?_
    refine a_getfR hX (r := 3) fl_X9_19 rfl (by decide) rfl dX9_count_89 (pc' := 92) rfl ?_
    refine a_getfI hX (ji := 10) rfl hB fl_X9_118 rfl (by decide) rfl dX9_count_92 (pc' := 95) rfl (fun hb => ?_)
    refine a_iret hX dX9_count_95 (hE _ _ _ ?_)
    refine ⟨aLf ?_, rfl, rfl⟩
    rw [if_neg (show ¬ what = 0 by omega), if_neg (show ¬ what = 1 by omega), if_neg (show ¬ what = 2 by omega), if_pos (show what = 3 by omega)]
  · refine a_tsIn hX dX9_count_1 (by omega) (by omega) (by omega) (off := 95) (by rw [e1]; rfl) (tgt := 96) (by decide) ?_
    refine a_aload_n hX rfl rfl dX9_count_96 (pc' := 97) rfl ?_
    refine a_getfR hX (r := 12) fl_X9_28 rfl (by decide) rfl dX9_count_97 (pc' := 100) rfl ?_
    refine a_getfI hX (ji := 6) rfl hB fl_X9_195 rfl (by decide) rfl dX9_count_100 (pc' := 103) rfl (fun hb => ?_)
    refine a_iret hX dX9_count_103 (hE _ _ _ ?_)
    refine ⟨aLf ?_, rfl, rfl⟩
    rw [if_neg (show ¬ what = 0 by omega), if_neg (show ¬ what = 1 by omega), if_neg (show ¬ what = 2 by omega), if_neg (show ¬ what = 3 by omega), if_pos (show what = 4 by omega)]
  · refine a_tsIn hX dX9_count_1 (by omega) (by omega) (by omega) (off := 103) (by rw [e1]; rfl) (tgt := 104) (by decide) ?_
    refine a_aload_n hX rfl rfl dX9_count_104 (pc' := 105) rfl ?_
    refine a_getfR hX (r := 3) fl_X9_19 rfl (by decide) rfl dX9_count_105 (pc' := 108) rfl ?_
    refine a_aload_n hX rfl rfl dX9_count_108 (pc' := 109) rfl ?_
    refine a_getfR hX (r := 12) fl_X9_28 rfl (by decide) rfl dX9_count_109 (pc' := 112) rfl ?_
    refine a_getfI hX (ji := 6) rfl hB fl_X9_195 rfl (by decide) rfl dX9_count_112 (pc' := 115) rfl (fun hb => ?_)
    refine a_cV1i hX cv_X9_311 (c_windOn (by omega) hB hP) rfl (by decide) ⟨by decide, by decide⟩ (Nat.le_of_ble_eq_true rfl) dX9_count_115 (pc' := 118) rfl ?_
    refine a_iret hX dX9_count_118 (hE _ _ _ ?_)
    refine ⟨aLf ?_, rfl, rfl⟩
    rw [if_neg (show ¬ what = 0 by omega), if_neg (show ¬ what = 1 by omega), if_neg (show ¬ what = 2 by omega), if_neg (show ¬ what = 3 by omega), if_neg (show ¬ what = 4 by omega), if_pos (show what = 5 by omega)]
  · refine a_tsIn hX dX9_count_1 (by omega) (by omega) (by omega) (off := 118) (by rw [e1]; rfl) (tgt := 119) (by decide) ?_
    refine a_aload_n hX rfl rfl dX9_count_119 (pc' := 120) rfl ?_
    refine a_getfR hX (r := 12) fl_X9_28 rfl (by decide) rfl dX9_count_120 (pc' := 123) rfl ?_
    refine a_cV0i hX cv_X9_314 (c_owedInAll sky12 hB hP hS hd) rfl (by decide) ⟨by decide, by decide⟩ (Nat.le_of_ble_eq_true rfl) dX9_count_123 (pc' := 126) rfl ?_
    refine a_iret hX dX9_count_126 (hE _ _ _ ?_)
    refine ⟨aLf ?_, rfl, rfl⟩
    rw [if_neg (show ¬ what = 0 by omega), if_neg (show ¬ what = 1 by omega), if_neg (show ¬ what = 2 by omega), if_neg (show ¬ what = 3 by omega), if_neg (show ¬ what = 4 by omega), if_neg (show ¬ what = 5 by omega), if_pos (show what = 6 by omega)]
  · refine a_tsIn hX dX9_count_1 (by omega) (by omega) (by omega) (off := 126) (by rw [e1]; rfl) (tgt := 127) (by decide) ?_
    refine a_aload_n hX rfl rfl dX9_count_127 (pc' := 128) rfl ?_
    refine a_getfR hX (r := 12) fl_X9_28 rfl (by decide) rfl dX9_count_128 (pc' := 131) rfl ?_
    refine a_cV0i hX cv_X9_298 (c_filledInAll sky12 hB hP hS hd) rfl (by decide) ⟨by decide, by decide⟩ (Nat.le_of_ble_eq_true rfl) dX9_count_131 (pc' := 134) rfl ?_
    refine a_iret hX dX9_count_134 (hE _ _ _ ?_)
    refine ⟨aLf ?_, rfl, rfl⟩
    rw [if_neg (show ¬ what = 0 by omega), if_neg (show ¬ what = 1 by omega), if_neg (show ¬ what = 2 by omega), if_neg (show ¬ what = 3 by omega), if_neg (show ¬ what = 4 by omega), if_neg (show ¬ what = 5 by omega), if_neg (show ¬ what = 6 by omega), if_pos (show what = 7 by omega)]
  · refine a_tsIn hX dX9_count_1 (by omega) (by omega) (by omega) (off := 134) (by rw [e1]; rfl) (tgt := 135) (by decide) ?_
    refine a_aload_n hX rfl rfl dX9_count_135 (pc' := 136) rfl ?_
    refine a_getfR hX (r := 12) fl_X9_28 rfl (by decide) rfl dX9_count_136 (pc' := 139) rfl ?_
    refine a_getfI hX (ji := 5) rfl hB fl_X9_301 rfl (by decide) rfl dX9_count_139 (pc' := 142) rfl (fun hb => ?_)
    refine a_iret hX dX9_count_142 (hE _ _ _ ?_)
    refine ⟨aLf ?_, rfl, rfl⟩
    rw [if_neg (show ¬ what = 0 by omega), if_neg (show ¬ what = 1 by omega), if_neg (show ¬ what = 2 by omega), if_neg (show ¬ what = 3 by omega), if_neg (show ¬ what = 4 by omega), if_neg (show ¬ what = 5 by omega), if_neg (show ¬ what = 6 by omega), if_neg (show ¬ what = 7 by omega), if_pos (show what = 8 by omega)]
  · refine a_tsIn hX dX9_count_1 (by omega) (by omega) (by omega) (off := 142) (by rw [e1]; rfl) (tgt := 143) (by decide) ?_
    refine a_aload_n hX rfl rfl dX9_count_143 (pc' := 144) rfl ?_
    refine a_getfR hX (r := 12) fl_X9_28 rfl (by decide) rfl dX9_count_144 (pc' := 147) rfl ?_
    refine a_getfI hX (ji := 4) rfl hB fl_X9_317 rfl (by decide) rfl dX9_count_147 (pc' := 150) rfl (fun hb => ?_)
    refine a_iret hX dX9_count_150 (hE _ _ _ ?_)
    refine ⟨aLf ?_, rfl, rfl⟩
    rw [if_neg (show ¬ what = 0 by omega), if_neg (show ¬ what = 1 by omega), if_neg (show ¬ what = 2 by omega), if_neg (show ¬ what = 3 by omega), if_neg (show ¬ what = 4 by omega), if_neg (show ¬ what = 5 by omega), if_neg (show ¬ what = 6 by omega), if_neg (show ¬ what = 7 by omega), if_neg (show ¬ what = 8 by omega), if_pos (show what = 9 by omega)]
  · refine a_tsIn hX dX9_count_1 (by omega) (by omega) (by omega) (off := 150) (by rw [e1]; rfl) (tgt := 151) (by decide) ?_
    refine a_aload_n hX rfl rfl dX9_count_151 (pc' := 152) rfl ?_
    refine a_getfR hX (r := 20) fl_X9_38 rfl (by decide) rfl dX9_count_152 (pc' := 155) rfl ?_
    refine a_getfI hX (ji := 2) rfl hB fl_X9_192 rfl (by decide) rfl dX9_count_155 (pc' := 158) rfl (fun hb => ?_)
    refine a_iret hX dX9_count_158 (hE _ _ _ ?_)
    refine ⟨aLf ?_, rfl, rfl⟩
    rw [if_neg (show ¬ what = 0 by omega), if_neg (show ¬ what = 1 by omega), if_neg (show ¬ what = 2 by omega), if_neg (show ¬ what = 3 by omega), if_neg (show ¬ what = 4 by omega), if_neg (show ¬ what = 5 by omega), if_neg (show ¬ what = 6 by omega), if_neg (show ¬ what = 7 by omega), if_neg (show ¬ what = 8 by omega), if_neg (show ¬ what = 9 by omega), if_pos (show what = 10 by omega)]
  · refine a_tsIn hX dX9_count_1 (by omega) (by omega) (by omega) (off := 158) (by rw [e1]; rfl) (tgt := 159) (by decide) ?_
    refine a_aload_n hX rfl rfl dX9_count_159 (pc' := 160) rfl ?_
    refine a_getfR hX (r := 36) fl_X9_45 rfl (by decide) rfl dX9_count_160 (pc' := 163) rfl ?_
    refine a_getfI hX (ji := 2) rfl hB fl_X9_236 rfl (by decide) rfl dX9_count_163 (pc' := 166) rfl (fun hb => ?_)
    refine a_iret hX dX9_count_166 (hE _ _ _ ?_)
    refine ⟨aLf ?_, rfl, rfl⟩
    rw [if_neg (show ¬ what = 0 by omega), if_neg (show ¬ what = 1 by omega), if_neg (show ¬ what = 2 by omega), if_neg (show ¬ what = 3 by omega), if_neg (show ¬ what = 4 by omega), if_neg (show ¬ what = 5 by omega), if_neg (show ¬ what = 6 by omega), if_neg (show ¬ what = 7 by omega), if_neg (show ¬ what = 8 by omega), if_neg (show ¬ what = 9 by omega), if_neg (show ¬ what = 10 by omega), if_pos (show what = 11 by omega)]
  · refine a_tsOut hX dX9_count_1 (by omega) e1 (tgt := 167) (by decide) ?_
    refine a_bipush hX rfl dX9_count_167 (pc' := 169) rfl ?_
    refine a_iret hX dX9_count_169 (hE _ _ _ ?_)
    refine ⟨aLf ?_, rfl, rfl⟩
    rw [if_neg (show ¬ what = 0 by omega), if_neg (show ¬ what = 1 by omega), if_neg (show ¬ what = 2 by omega), if_neg (show ¬ what = 3 by omega), if_neg (show ¬ what = 4 by omega), if_neg (show ¬ what = 5 by omega), if_neg (show ¬ what = 6 by omega), if_neg (show ¬ what = 7 by omega), if_neg (show ¬ what = 8 by omega), if_neg (show ¬ what = 9 by omega), if_neg (show ¬ what = 10 by omega), if_neg (show ¬ what = 11 by omega)]

set_option maxHeartbeats 4000000 in
set_option maxRecDepth 100000 in
theorem x_where {G : aG} {Z : aZ} {Y : aY} {c n : Int} (hc : -2147483648 ≤ c ∧ c < 2147483648) (hn : -2147483648 ≤ n ∧ n < 2147483648) (hB : aB Z) (hP : okP (vP Z)) (hS : okS (vP Z) (vS Z 12)) (hd : Z 12 6 ≤ 5000) : aSi G yX9_where cX9_where 3 (some .int) 3 72 [.ref (G.1 0), .int (aI c), .int (aI n)] Z Y (if pHasC (vP Z) c = true then (if 0 ≤ n ∧ n ≤ 20 then pCarry (vP Z) (vP Z 4 c) (vS Z 12 c) (vS Z 12 15) n.toNat else -2) else -1) := by
  refine aS.of (own := RX9) (by decide +kernel) rfl 0 (Nat.le_of_ble_eq_true rfl) (fun X hX hE => ?_)
  show AW X G 0 [some (.ref (G.1 0)), some (.int (aI c)), some (.int (aI n))] [] Z Y
  have hfP := fP hP
  have hfS := fS hS
  refine a_aload_n hX rfl rfl dX9_where_0 (pc' := 1) rfl ?_
  refine a_getfR hX (r := 3) fl_X9_19 rfl (by decide) rfl dX9_where_1 (pc' := 4) rfl ?_
  refine a_iload_n hX rfl rfl dX9_where_4 (pc' := 5) rfl ?_
  refine a_cV1i hX cv_X9_121 (c_hasCloud (by omega) hB hP) rfl (by decide) ⟨by decide, by decide⟩ (Nat.le_of_ble_eq_true rfl) dX9_where_5 (pc' := 8) rfl ?_
  refine a_ifb_ne hX dX9_where_8 (pc' := 11) rfl (tgt := 13) (by decide) (fun c8 => ?_) (fun c8 => ?_)
  · have hc1 := pHasC_no c8
    refine a_iload_n hX rfl rfl dX9_where_13 (pc' := 14) rfl ?_
    refine a_if_lt hX (by omega) dX9_where_14 (pc' := 17) rfl (tgt := 23) (by decide) (fun c14 => ?_) (fun c14 => ?_)
    · refine a_bipush hX rfl dX9_where_23 (pc' := 25) rfl ?_
      refine a_iret hX dX9_where_25 (hE _ _ _ ?_)
      refine ⟨aLf ?_, rfl, rfl⟩
      rw [if_pos c8, if_neg (by omega)]
    · refine a_iload_n hX rfl rfl dX9_where_17 (pc' := 18) rfl ?_
      refine a_bipush hX rfl dX9_where_18 (pc' := 20) rfl ?_
      refine a_icmp_le hX (by omega) (by omega) dX9_where_20 (pc' := 23) rfl (tgt := 26) (by decide) (fun c20 => ?_) (fun c20 => ?_)
      · refine a_aload_n hX rfl rfl dX9_where_26 (pc' := 27) rfl ?_
        refine a_getfR hX (r := 3) fl_X9_19 rfl (by decide) rfl dX9_where_27 (pc' := 30) rfl ?_
        refine a_aload_n hX rfl rfl dX9_where_30 (pc' := 31) rfl ?_
        refine a_getfR hX (r := 3) fl_X9_19 rfl (by decide) rfl dX9_where_31 (pc' := 34) rfl ?_
        refine a_getfR hX (r := 7) fl_X9_130 rfl (by decide) rfl dX9_where_34 (pc' := 37) rfl ?_
        refine a_iload_n hX rfl rfl dX9_where_37 (pc' := 38) rfl ?_
        refine a_iald hX rfl (by decide) (by decide) (by omega) hB dX9_where_38 (pc' := 39) rfl (fun hb => ?_)
        refine a_aload_n hX rfl rfl dX9_where_39 (pc' := 40) rfl ?_
        refine a_getfR hX (r := 12) fl_X9_28 rfl (by decide) rfl dX9_where_40 (pc' := 43) rfl ?_
        refine a_getfR hX (r := 13) fl_X9_124 rfl (by decide) rfl dX9_where_43 (pc' := 46) rfl ?_
        refine a_iload_n hX rfl rfl dX9_where_46 (pc' := 47) rfl ?_
        refine a_iald hX rfl (by decide) (by decide) (by omega) hB dX9_where_47 (pc' := 48) rfl (fun hb => ?_)
        refine a_aload_n hX rfl rfl dX9_where_48 (pc' := 49) rfl ?_
        refine a_getfR hX (r := 12) fl_X9_28 rfl (by decide) rfl dX9_where_49 (pc' := 52) rfl ?_
        refine a_getfI hX (ji := 6) rfl hB fl_X9_195 rfl (by decide) rfl dX9_where_52 (pc' := 55) rfl (fun hb => ?_)
        refine a_iload_n hX rfl rfl dX9_where_55 (pc' := 56) rfl ?_
        refine a_cV4i hX cv_X9_198 (c_carried (by have := fPk hP c; omega) (by have : 0 ≤ Z 13 c ∧ Z 13 c ≤ 5 := fSy hS (c := c) (by omega); omega) (by omega) (by omega) hB hP) rfl (by decide) ⟨by decide, by decide⟩ (Nat.le_of_ble_eq_true rfl) dX9_where_56 (pc' := 59) rfl ?_
        refine a_iret hX dX9_where_59 (hE _ _ _ ?_)
        refine ⟨aLf ?_, rfl, rfl⟩
        rw [if_pos c8, if_pos (by omega), vS_15, vS_yd (c := c) (by omega)]
        rfl
      · refine a_bipush hX rfl dX9_where_23 (pc' := 25) rfl ?_
        refine a_iret hX dX9_where_25 (hE _ _ _ ?_)
        refine ⟨aLf ?_, rfl, rfl⟩
        rw [if_pos c8, if_neg (by omega)]
  · refine a_iconst hX dX9_where_11 (pc' := 12) rfl ?_
    refine a_iret hX dX9_where_12 (hE _ _ _ ?_)
    refine ⟨aLf ?_, rfl, rfl⟩
    rw [if_neg (by rw [c8]; decide)]

set_option maxHeartbeats 4000000 in
set_option maxRecDepth 100000 in
theorem x_umbrellas {G : aG} {Z : aZ} {Y : aY} {n : Int} (hn : -2147483648 ≤ n ∧ n < 2147483648) (hB : aB Z) (hP : okP (vP Z)) (hS : okS (vP Z) (vS Z 12)) (hd : Z 12 6 ≤ 5000) : aSi G yX9_umbrellas cX9_umbrellas 2 (some .int) 3 65 [.ref (G.1 0), .int (aI n)] Z Y (if 0 ≤ n ∧ n ≤ 20 then sUmb (vP Z) (vS Z 12) (vS Z 12 15 + n) else -2) := by
  refine aS.of (own := RX9) (by decide +kernel) rfl 0 (Nat.le_of_ble_eq_true rfl) (fun X hX hE => ?_)
  show AW X G 0 [some (.ref (G.1 0)), some (.int (aI n))] [] Z Y
  have hfP := fP hP
  have hfS := fS hS
  refine a_iload_n hX rfl rfl dX9_umbrellas_0 (pc' := 1) rfl ?_
  refine a_if_lt hX (by omega) dX9_umbrellas_1 (pc' := 4) rfl (tgt := 10) (by decide) (fun c1 => ?_) (fun c1 => ?_)
  · refine a_bipush hX rfl dX9_umbrellas_10 (pc' := 12) rfl ?_
    refine a_iret hX dX9_umbrellas_12 (hE _ _ _ ?_)
    refine ⟨aLf ?_, rfl, rfl⟩
    rw [if_neg (by omega)]
  · refine a_iload_n hX rfl rfl dX9_umbrellas_4 (pc' := 5) rfl ?_
    refine a_bipush hX rfl dX9_umbrellas_5 (pc' := 7) rfl ?_
    refine a_icmp_le hX (by omega) (by omega) dX9_umbrellas_7 (pc' := 10) rfl (tgt := 13) (by decide) (fun c7 => ?_) (fun c7 => ?_)
    · refine a_aload_n hX rfl rfl dX9_umbrellas_13 (pc' := 14) rfl ?_
      refine a_getfR hX (r := 12) fl_X9_28 rfl (by decide) rfl dX9_umbrellas_14 (pc' := 17) rfl ?_
      refine a_aload_n hX rfl rfl dX9_umbrellas_17 (pc' := 18) rfl ?_
      refine a_getfR hX (r := 12) fl_X9_28 rfl (by decide) rfl dX9_umbrellas_18 (pc' := 21) rfl ?_
      refine a_getfI hX (ji := 6) rfl hB fl_X9_195 rfl (by decide) rfl dX9_umbrellas_21 (pc' := 24) rfl (fun hb => ?_)
      refine a_iload_n hX rfl rfl dX9_umbrellas_24 (pc' := 25) rfl ?_
      refine a_iadd hX dX9_umbrellas_25 (pc' := 26) rfl ?_
      refine a_cV1i hX cv_X9_202 (c_umbrellasBy (by omega) sky12 hB hP hS hd) rfl (by decide) ⟨by decide, by decide⟩ (Nat.le_of_ble_eq_true rfl) dX9_umbrellas_26 (pc' := 29) rfl ?_
      refine a_iret hX dX9_umbrellas_29 (hE _ _ _ ?_)
      refine ⟨aLf ?_, rfl, rfl⟩
      rw [if_pos (by omega), vS_15]
    · refine a_bipush hX rfl dX9_umbrellas_10 (pc' := 12) rfl ?_
      refine a_iret hX dX9_umbrellas_12 (hE _ _ _ ?_)
      refine ⟨aLf ?_, rfl, rfl⟩
      rw [if_neg (by omega)]

set_option maxHeartbeats 4000000 in
set_option maxRecDepth 100000 in
theorem x_seed {G : aG} {Z : aZ} {Y : aY} {v : Int64} (hB : aB Z) : aSJ G yX9_seed cX9_seed 5 (some .long) 0 0 [.ref (G.1 0), .long v] Z Y (fun x Z' Y' => x = Y 0 ∧ Z' = Z ∧ Y' = aUy Y 0 v) := by
  refine aS.of (own := RX9) (by decide +kernel) rfl 2 (Nat.le_of_ble_eq_true rfl) (fun X hX hE => ?_)
  show AW X G 0 [some (.ref (G.1 0)), some (.long v), none, none, none] [] Z Y
  refine a_aload_n hX rfl rfl dX9_seed_0 (pc' := 1) rfl ?_
  refine a_getfJ hX fl_X9_86 rfl (by decide) rfl dX9_seed_1 (pc' := 4) rfl ?_
  refine a_lstore3 hX rfl (by decide) rfl dX9_seed_4 (pc' := 5) rfl ?_
  refine a_aload_n hX rfl rfl dX9_seed_5 (pc' := 6) rfl ?_
  refine a_lload_n hX rfl rfl dX9_seed_6 (pc' := 7) rfl ?_
  refine a_putfJ hX fl_X9_86 nf_8_13 rfl (by decide) (fun i => by match i with | 0 => decide | 1 => decide | 2 => decide | 3 => decide | 4 => decide | 5 => decide | 6 => decide | 7 => decide | 8 => decide | 9 => decide | 10 => decide | 11 => decide | 12 => decide | 13 => decide | n + 14 => simp) dX9_seed_7 (pc' := 10) rfl ?_
  refine a_lload_n hX rfl rfl dX9_seed_10 (pc' := 11) rfl ?_
  refine a_lret hX dX9_seed_11 (hE _ _ _ ?_)
  exact ⟨_, rfl, rfl, rfl, rfl⟩

/-- lots drawn one after another -/
def qNext (v : Int64) : Int64 := v * aJ 6364136223846793005 + aJ 1442695040888963407
def qLot (v : Int64) : Nat → Int64
  | 0 => v
  | i + 1 => qNext (qLot v i)
def qSk (P : aP) (S : aSk) (v : Int64) : Nat → aSk
  | 0 => S
  | i + 1 => sPlay P (qSk P S v i) (jTop (qLot v (i + 1)) % 28)
def qTog (P : aP) (S : aSk) (v : Int64) : Nat → Int
  | 0 => 0
  | i + 1 => qTog P S v i + (sFilled (qSk P S v (i + 1)) + qSk P S v (i + 1) 14)
theorem sPlay_15 {P : aP} (hP : okP P) (S : aSk) {d : Int} (hd : 0 ≤ d ∧ d < 28) : sPlay P S d 15 ≤ S 15 + 1 := by
  unfold sPlay
  split
  · unfold dDay; rw [if_pos rfl]; omega
  · split
    · rename_i h0 hb
      simp only [Bool.and_eq_true] at hb
      have hc := of_decide_eq_true hb.1.1
      have hp := of_decide_eq_true hb.1.2
      have := hP.2.1
      have := hP.2.2.1
      unfold dDrop; rw [if_neg (by omega), if_neg (by omega)]; omega
    · omega

set_option maxHeartbeats 4000000 in
set_option maxRecDepth 100000 in
theorem x_seasons {G : aG} {Z : aZ} {Y : aY} {m : Int} (hm : -2147483648 ≤ m ∧ m < 2147483648) (hd4 : Z 12 6 ≤ 4000) (hB : aB Z) (hP : okP (vP Z)) (hS : okS (vP Z) (vS Z 12)) (hd : Z 12 6 ≤ 5000) : aSI G yX9_seasons cX9_seasons 4 (some .int) 6 130 [.ref (G.1 0), .int (aI m)] Z Y (fun x Z' Y' => x = (if 1 ≤ m ∧ m ≤ 30 then qTog (vP Z) (vS Z 12) (Y 0) m.toNat else -2) ∧ Y' 0 = (if 1 ≤ m ∧ m ≤ 30 then qLot (Y 0) m.toNat else Y 0) ∧ (∀ k : Nat, k ≠ 0 → Y' k = Y k) ∧ (∀ a : Nat, a ≠ 60 → ¬ (16 ≤ a ∧ a ≤ 19) → Z' a = Z a) ∧ aB Z') := by
  refine aS.of (own := RX9) (by decide +kernel) rfl 2 (Nat.le_of_ble_eq_true rfl) (fun X hX hE => ?_)
  show AW X G 0 [some (.ref (G.1 0)), some (.int (aI m)), none, none] [] Z Y
  have hfP := fP hP
  have hfS := fS hS
  refine a_iload_n hX rfl rfl dX9_seasons_0 (pc' := 1) rfl ?_
  refine a_iconst hX dX9_seasons_1 (pc' := 2) rfl ?_
  refine a_icmp_lt hX (by omega) (by omega) dX9_seasons_2 (pc' := 5) rfl (tgt := 11) (by decide) (fun c2 => ?_) (fun c2 => ?_)
  · refine a_bipush hX rfl dX9_seasons_11 (pc' := 13) rfl ?_
    refine a_iret hX dX9_seasons_13 (hE _ _ _ ?_)
    exact ⟨_, rfl, by rw [if_neg (by omega)], by rw [if_neg (by omega)], fun _ _ => rfl, fun _ _ _ => rfl, hB⟩
  · refine a_iload_n hX rfl rfl dX9_seasons_5 (pc' := 6) rfl ?_
    refine a_bipush hX rfl dX9_seasons_6 (pc' := 8) rfl ?_
    refine a_icmp_le hX (by omega) (by omega) dX9_seasons_8 (pc' := 11) rfl (tgt := 14) (by decide) (fun c8 => ?_) (fun c8 => ?_)
    · refine a_aload_n hX rfl rfl dX9_seasons_14 (pc' := 15) rfl ?_
      refine a_cV0V hX cv_X9_227 (x_copy hB hP hS hd) rfl (by decide) ⟨by decide, by decide⟩ (Nat.le_of_ble_eq_true rfl) dX9_seasons_15 (pc' := 18) rfl (fun Z15 Y15 h15 => ?_)
      obtain ⟨u1, u2, hB, eY15⟩ := h15
      rw [eY15]
      refine a_iconst hX dX9_seasons_18 (pc' := 19) rfl ?_
      refine a_istore2 hX rfl (by decide) rfl dX9_seasons_19 (pc' := 20) rfl ?_
      refine a_iconst hX dX9_seasons_20 (pc' := 21) rfl ?_
      refine a_istore3 hX rfl (by decide) rfl dX9_seasons_21 (pc' := 22) rfl ?_
      have L22 : ∀ (n : Nat) (i : Int) (Z2 : aZ) (Y2 : aY), (0 ≤ i ∧ i ≤ m) → aB Z2 → vS Z2 16 = qSk (vP Z) (vS Z 12) (Y 0) i.toNat → okS (vP Z) (vS Z2 16) → Z2 16 6 ≤ 4000 + i → Y2 0 = qLot (Y 0) i.toNat → (∀ k : Nat, k ≠ 0 → Y2 k = Y k) → (∀ a : Nat, ¬ (16 ≤ a ∧ a ≤ 19) → Z2 a = Z15 a) → (m - i).toNat < n → AW X G 22 [some (.ref (G.1 0)), some (.int (aI m)), some (.int (aI (qTog (vP Z) (vS Z 12) (Y 0) i.toNat))), some (.int (aI i))] [] Z2 Y2 := by
        intro n
        induction n with
        | zero =>
          intro i Z2 Y2 hi hB hk ho hd2 hy hyf hz2 hn
          omega
        | succ n ih =>
          intro i Z2 Y2 hi hB hk ho hd2 hy hyf hz2 hn
          refine a_iload_n hX rfl rfl dX9_seasons_22 (pc' := 23) rfl ?_
          refine a_iload_n hX rfl rfl dX9_seasons_23 (pc' := 24) rfl ?_
          refine a_icmp_ge hX (by omega) (by omega) dX9_seasons_24 (pc' := 27) rfl (tgt := 83) (by decide) (fun c24 => ?_) (fun c24 => ?_)
          · refine a_iload_n hX rfl rfl dX9_seasons_83 (pc' := 84) rfl ?_
            refine a_iret hX dX9_seasons_84 (hE _ _ _ ?_)
            obtain rfl : i = m := by omega
            exact ⟨_, rfl, by rw [if_pos (by omega)], by rw [if_pos (by omega), hy], hyf, fun a h1 h2 => by rw [hz2 a h2, u2 a h1 h2], hB⟩
          · refine a_aload_n hX rfl rfl dX9_seasons_27 (pc' := 28) rfl ?_
            refine a_aload_n hX rfl rfl dX9_seasons_28 (pc' := 29) rfl ?_
            refine a_getfJ hX fl_X9_86 rfl (by decide) rfl dX9_seasons_29 (pc' := 32) rfl ?_
            refine a_ldc2J hX (z := 6364136223846793005) w_770 (by decide) dX9_seasons_32 (pc' := 35) rfl ?_
            refine a_lmul hX dX9_seasons_35 (pc' := 36) rfl ?_
            refine a_ldc2J hX (z := 1442695040888963407) w_771 (by decide) dX9_seasons_36 (pc' := 39) rfl ?_
            refine a_ladd hX dX9_seasons_39 (pc' := 40) rfl ?_
            refine a_putfJ hX fl_X9_86 nf_8_13 rfl (by decide) (fun i => by match i with | 0 => decide | 1 => decide | 2 => decide | 3 => decide | 4 => decide | 5 => decide | 6 => decide | 7 => decide | 8 => decide | 9 => decide | 10 => decide | 11 => decide | 12 => decide | 13 => decide | n + 14 => simp) dX9_seasons_40 (pc' := 43) rfl ?_
            refine a_aload_n hX rfl rfl dX9_seasons_43 (pc' := 44) rfl ?_
            refine a_aload_n hX rfl rfl dX9_seasons_44 (pc' := 45) rfl ?_
            refine a_getfJ hX fl_X9_86 rfl (by decide) rfl dX9_seasons_45 (pc' := 48) rfl ?_
            refine a_bipush hX rfl dX9_seasons_48 (pc' := 50) rfl ?_
            refine a_lushr33 hX dX9_seasons_50 (pc' := 51) rfl ?_
            refine a_ldc2J hX (z := 28) w_772 (by decide) dX9_seasons_51 (pc' := 54) rfl ?_
            refine a_lrem hX (by have := jTop_rng (aUy Y2 0 (Y2 0 * aJ 6364136223846793005 + aJ 1442695040888963407) 0); omega) (by omega) dX9_seasons_54 (pc' := 55) rfl ?_
            refine a_l2i hX dX9_seasons_55 (pc' := 56) rfl ?_
            have eP2 : vP Z2 = vP Z := vP_eq (fun a ha => by rw [hz2 a (by omega), u2 a (by omega) (by omega)])
            have hP2 : okP (vP Z2) := by rw [eP2]; exact hP
            have hS2 : okS (vP Z2) (vS Z2 16) := by rw [eP2]; exact ho
            have eV : aUy Y2 0 (Y2 0 * aJ 6364136223846793005 + aJ 1442695040888963407) 0 = qNext (qLot (Y 0) i.toNat) := by
              show (if (0 : Nat) = 0 then Y2 0 * aJ 6364136223846793005 + aJ 1442695040888963407 else Y2 0) = _
              rw [if_pos rfl, hy]; rfl
            have eD : jTop (aUy Y2 0 (Y2 0 * aJ 6364136223846793005 + aJ 1442695040888963407) 0) % 28 = jTop (qNext (qLot (Y 0) i.toNat)) % 28 := by rw [eV]
            have hdd : 0 ≤ jTop (aUy Y2 0 (Y2 0 * aJ 6364136223846793005 + aJ 1442695040888963407) 0) % 28 ∧ jTop (aUy Y2 0 (Y2 0 * aJ 6364136223846793005 + aJ 1442695040888963407) 0) % 28 < 28 := by omega
            refine a_cV1V hX cv_X9_295 (x_play hdd hB hP2 hS2 (by omega)) rfl (by decide) ⟨by decide, by decide⟩ (Nat.le_of_ble_eq_true rfl) dX9_seasons_56 (pc' := 59) rfl (fun Z56 Y56 h56 => ?_)
            rw [eP2, hk, eD] at h56
            obtain ⟨g1, g2, g3, hB, eY56⟩ := h56
            have eP3 : vP Z56 = vP Z := by rw [g3.P (by decide), eP2]
            have hP3 : okP (vP Z56) := by rw [eP3]; exact hP
            have hS3 : okS (vP Z56) (vS Z56 16) := by rw [eP3, g1]; rw [eP2] at g2; exact g2
            have e15 := sPlay_15 hP (qSk (vP Z) (vS Z 12) (Y 0) i.toNat) (d := jTop (qNext (qLot (Y 0) i.toNat)) % 28) (by have := jTop_rng (qNext (qLot (Y 0) i.toNat)); omega)
            rw [← g1, ← hk, vS_15, vS_15] at e15
            refine a_iload_n hX rfl rfl dX9_seasons_59 (pc' := 60) rfl ?_
            refine a_aload_n hX rfl rfl dX9_seasons_60 (pc' := 61) rfl ?_
            refine a_getfR hX (r := 16) fl_X9_32 rfl (by decide) rfl dX9_seasons_61 (pc' := 64) rfl ?_
            refine a_cV0i hX cv_X9_298 (c_filledInAll sky16 hB hP3 hS3 (by omega)) rfl (by decide) ⟨by decide, by decide⟩ (Nat.le_of_ble_eq_true rfl) dX9_seasons_64 (pc' := 67) rfl ?_
            refine a_aload_n hX rfl rfl dX9_seasons_67 (pc' := 68) rfl ?_
            refine a_getfR hX (r := 16) fl_X9_32 rfl (by decide) rfl dX9_seasons_68 (pc' := 71) rfl ?_
            refine a_getfI hX (ji := 5) rfl hB fl_X9_301 rfl (by decide) rfl dX9_seasons_71 (pc' := 74) rfl (fun hb => ?_)
            refine a_iadd hX dX9_seasons_74 (pc' := 75) rfl ?_
            refine a_iadd hX dX9_seasons_75 (pc' := 76) rfl ?_
            refine a_istore2 hX rfl (by decide) rfl dX9_seasons_76 (pc' := 77) rfl ?_
            refine a_iinc3 hX (by decide) rfl dX9_seasons_77 (pc' := 80) rfl ?_
            refine a_goto hX dX9_seasons_80 (tgt := 22) (by decide) ?_
            have eS : (i + 1).toNat = i.toNat + 1 := by omega
            have H := ih (i + 1) Z56 Y56 (by omega) hB (by rw [g1, eS]; rfl) ?_ (by omega) ?_ (fun k hk9 => ?_) (fun a ha => by rw [g3 a (by omega)]; exact hz2 a ha) (by omega)
            · rw [eS] at H
              have e14 : vS Z56 16 14 = Z56 16 5 := vS_14
              rw [← e14, g1]
              exact H
            · rw [← eP3]; exact hS3
            · rw [eY56, eV, eS]; rfl
            · rw [eY56]
              show (if k = 0 then _ else Y2 k) = _
              rw [if_neg hk9]; exact hyf k hk9
      refine L22 (m.toNat + 1) 0 Z15 Y (by omega) hB u1 (by rw [u1]; exact hS) ?_ rfl (fun _ _ => rfl) (fun _ _ => rfl) (by omega)
      have e : vS Z15 16 15 = vS Z 12 15 := by rw [u1]
      rw [vS_15, vS_15] at e
      omega
    · refine a_bipush hX rfl dX9_seasons_11 (pc' := 13) rfl ?_
      refine a_iret hX dX9_seasons_13 (hE _ _ _ ?_)
      exact ⟨_, rfl, by rw [if_neg (by omega)], by rw [if_neg (by omega)], fun _ _ => rfl, fun _ _ _ => rfl, hB⟩

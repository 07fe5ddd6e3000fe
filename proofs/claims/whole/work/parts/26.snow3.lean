set_option maxHeartbeats 4000000 in
set_option maxRecDepth 100000 in
theorem x_see {G : aG} {Z : aZ} {Y : aY} {y n : Int} (hy : -2147483648 ≤ y ∧ y < 2147483648) (hn : -2147483648 ≤ n ∧ n < 2147483648) (hB : aB Z) (hW : okSee Z) : aSI G yX9_see cX9_see 3 (some .int) 1 22 [.ref (G.1 0), .int (aI y), .int (aI n)] Z Y (fun x Z' Y' => x = (if 0 ≤ y ∧ y < 6 then (if 0 ≤ n ∧ n ≤ 9 then (if Z 36 2 < 6 then Z 36 2 + 1 else -4) else -2) else -1) ∧ Z' = (if (0 ≤ y ∧ y < 6) ∧ (0 ≤ n ∧ n ≤ 9) ∧ Z 36 2 < 6 then aU (aU (aU Z 37 (Z 36 2) y) 38 (Z 36 2) n) 36 2 (Z 36 2 + 1) else Z) ∧ aB Z' ∧ Y' = Y) := by
  refine aS.of (own := RX9) (by decide +kernel) rfl 0 (Nat.le_of_ble_eq_true rfl) (fun X hX hE => ?_)
  show AW X G 0 [some (.ref (G.1 0)), some (.int (aI y)), some (.int (aI n))] [] Z Y
  refine a_iload_n hX rfl rfl dX9_see_0 (pc' := 1) rfl ?_
  refine a_if_lt hX (by omega) dX9_see_1 (pc' := 4) rfl (tgt := 10) (by decide) (fun c1 => ?_) (fun c1 => ?_)
  · refine a_iconst hX dX9_see_10 (pc' := 11) rfl ?_
    refine a_iret hX dX9_see_11 (hE _ _ _ ?_)
    exact ⟨_, rfl, by rw [if_neg (by omega)], by rw [if_neg (by omega)], hB, rfl⟩
  · refine a_iload_n hX rfl rfl dX9_see_4 (pc' := 5) rfl ?_
    refine a_bipush hX rfl dX9_see_5 (pc' := 7) rfl ?_
    refine a_icmp_lt hX (by omega) (by omega) dX9_see_7 (pc' := 10) rfl (tgt := 12) (by decide) (fun c7 => ?_) (fun c7 => ?_)
    · refine a_iload_n hX rfl rfl dX9_see_12 (pc' := 13) rfl ?_
      refine a_if_lt hX (by omega) dX9_see_13 (pc' := 16) rfl (tgt := 22) (by decide) (fun c13 => ?_) (fun c13 => ?_)
      · refine a_bipush hX rfl dX9_see_22 (pc' := 24) rfl ?_
        refine a_iret hX dX9_see_24 (hE _ _ _ ?_)
        exact ⟨_, rfl, by rw [if_pos (by omega), if_neg (by omega)], by rw [if_neg (by omega)], hB, rfl⟩
      · refine a_iload_n hX rfl rfl dX9_see_16 (pc' := 17) rfl ?_
        refine a_bipush hX rfl dX9_see_17 (pc' := 19) rfl ?_
        refine a_icmp_le hX (by omega) (by omega) dX9_see_19 (pc' := 22) rfl (tgt := 25) (by decide) (fun c19 => ?_) (fun c19 => ?_)
        · refine a_aload_n hX rfl rfl dX9_see_25 (pc' := 26) rfl ?_
          refine a_getfR hX (r := 36) fl_X9_45 rfl (by decide) rfl dX9_see_26 (pc' := 29) rfl ?_
          refine a_iload_n hX rfl rfl dX9_see_29 (pc' := 30) rfl ?_
          refine a_iload_n hX rfl rfl dX9_see_30 (pc' := 31) rfl ?_
          refine a_cV2I hX cv_X9_233 (c_seeAdd hB hW.1 (by omega) (by omega)) rfl (by decide) ⟨by decide, by decide⟩ (Nat.le_of_ble_eq_true rfl) dX9_see_31 (pc' := 34) rfl (fun x31 Z31 Y31 h31 => ?_)
          obtain ⟨e31, z31, hB, rfl⟩ := h31
          rw [e31]
          refine a_ifb_eq hX dX9_see_34 (pc' := 37) rfl (tgt := 47) (by decide) (fun c34 => ?_) (fun c34 => ?_)
          · have c34 := of_decide_eq_false c34
            rw [if_neg c34] at z31
            subst z31
            refine a_bipush hX rfl dX9_see_47 (pc' := 49) rfl ?_
            refine a_iret hX dX9_see_49 (hE _ _ _ ?_)
            first
              | exact ⟨_, rfl, by rw [if_pos (by omega), if_pos (by omega), if_pos c34, aU_eq], by rw [if_pos (by omega)], hB, rfl⟩
              | exact ⟨_, rfl, by rw [if_pos (by omega), if_pos (by omega), if_neg c34], by rw [if_neg (by omega)], hB, rfl⟩
          · have c34 := of_decide_eq_true c34
            rw [if_pos c34] at z31
            subst z31
            refine a_aload_n hX rfl rfl dX9_see_37 (pc' := 38) rfl ?_
            refine a_getfR hX (r := 36) fl_X9_45 rfl (by decide) rfl dX9_see_38 (pc' := 41) rfl ?_
            refine a_getfI hX (ji := 2) rfl hB fl_X9_236 rfl (by decide) rfl dX9_see_41 (pc' := 44) rfl (fun hb => ?_)
            refine a_goto hX dX9_see_44 (tgt := 49) (by decide) ?_
            refine a_iret hX dX9_see_49 (hE _ _ _ ?_)
            first
              | exact ⟨_, rfl, by rw [if_pos (by omega), if_pos (by omega), if_pos c34, aU_eq], by rw [if_pos (by omega)], hB, rfl⟩
              | exact ⟨_, rfl, by rw [if_pos (by omega), if_pos (by omega), if_neg c34], by rw [if_neg (by omega)], hB, rfl⟩
        · refine a_bipush hX rfl dX9_see_22 (pc' := 24) rfl ?_
          refine a_iret hX dX9_see_24 (hE _ _ _ ?_)
          exact ⟨_, rfl, by rw [if_pos (by omega), if_neg (by omega)], by rw [if_neg (by omega)], hB, rfl⟩
    · refine a_iconst hX dX9_see_10 (pc' := 11) rfl ?_
      refine a_iret hX dX9_see_11 (hE _ _ _ ?_)
      exact ⟨_, rfl, by rw [if_neg (by omega)], by rw [if_neg (by omega)], hB, rfl⟩

set_option maxHeartbeats 4000000 in
set_option maxRecDepth 100000 in
theorem x_unsee {G : aG} {Z : aZ} {Y : aY} (hB : aB Z) : aSI G yX9_unsee cX9_unsee 2 (some .int) 0 0 [.ref (G.1 0)] Z Y (fun x Z' Y' => x = Z 36 2 ∧ Z' = aU Z 36 2 0 ∧ aB Z' ∧ Y' = Y) := by
  refine aS.of (own := RX9) (by decide +kernel) rfl 1 (Nat.le_of_ble_eq_true rfl) (fun X hX hE => ?_)
  show AW X G 0 [some (.ref (G.1 0)), none] [] Z Y
  refine a_aload_n hX rfl rfl dX9_unsee_0 (pc' := 1) rfl ?_
  refine a_getfR hX (r := 36) fl_X9_45 rfl (by decide) rfl dX9_unsee_1 (pc' := 4) rfl ?_
  refine a_getfI hX (ji := 2) rfl hB fl_X9_236 rfl (by decide) rfl dX9_unsee_4 (pc' := 7) rfl (fun hb => ?_)
  refine a_istore1 hX rfl (by decide) rfl dX9_unsee_7 (pc' := 8) rfl ?_
  refine a_aload_n hX rfl rfl dX9_unsee_8 (pc' := 9) rfl ?_
  refine a_getfR hX (r := 36) fl_X9_45 rfl (by decide) rfl dX9_unsee_9 (pc' := 12) rfl ?_
  refine a_iconst hX dX9_unsee_12 (pc' := 13) rfl ?_
  refine a_putfIB hX fl_X9_236 nf_6_2 (ji := 2) rfl rfl (by decide) rfl hB (by omega) dX9_unsee_13 (pc' := 16) rfl (fun hB => ?_)
  refine a_iload_n hX rfl rfl dX9_unsee_16 (pc' := 17) rfl ?_
  refine a_iret hX dX9_unsee_17 (hE _ _ _ ?_)
  exact ⟨_, rfl, rfl, rfl, hB, rfl⟩

set_option maxHeartbeats 4000000 in
set_option maxRecDepth 100000 in
theorem x_began {G : aG} {Z : aZ} {Y : aY} {k : Int} (hk : -2147483648 ≤ k ∧ k < 2147483648) (hB : aB Z) (hP : okP (vP Z)) (hW : okSee Z) : aSi G yX9_began cX9_began 2 (some .int) 5 120 [.ref (G.1 0), .int (aI k)] Z Y (if 0 ≤ k ∧ k < 4 then aBits (fun y => sAgN (vP Z) (Z 37) (Z 38) k y (Z 36 2).toNat) 6 else -2) := by
  refine aS.of (own := RX9) (by decide +kernel) rfl 0 (Nat.le_of_ble_eq_true rfl) (fun X hX hE => ?_)
  show AW X G 0 [some (.ref (G.1 0)), some (.int (aI k))] [] Z Y
  refine a_iload_n hX rfl rfl dX9_began_0 (pc' := 1) rfl ?_
  refine a_if_lt hX (by omega) dX9_began_1 (pc' := 4) rfl (tgt := 9) (by decide) (fun c1 => ?_) (fun c1 => ?_)
  · refine a_bipush hX rfl dX9_began_9 (pc' := 11) rfl ?_
    refine a_iret hX dX9_began_11 (hE _ _ _ ?_)
    refine ⟨aLf ?_, rfl, rfl⟩
    rw [if_neg (by omega)]
  · refine a_iload_n hX rfl rfl dX9_began_4 (pc' := 5) rfl ?_
    refine a_iconst hX dX9_began_5 (pc' := 6) rfl ?_
    refine a_icmp_lt hX (by omega) (by omega) dX9_began_6 (pc' := 9) rfl (tgt := 12) (by decide) (fun c6 => ?_) (fun c6 => ?_)
    · refine a_aload_n hX rfl rfl dX9_began_12 (pc' := 13) rfl ?_
      refine a_getfR hX (r := 36) fl_X9_45 rfl (by decide) rfl dX9_began_13 (pc' := 16) rfl ?_
      refine a_iload_n hX rfl rfl dX9_began_16 (pc' := 17) rfl ?_
      refine a_aload_n hX rfl rfl dX9_began_17 (pc' := 18) rfl ?_
      refine a_getfR hX (r := 3) fl_X9_19 rfl (by decide) rfl dX9_began_18 (pc' := 21) rfl ?_
      refine a_cV2i hX cv_X9_237 (c_beginnings (by omega) hB hP hW) rfl (by decide) ⟨by decide, by decide⟩ (Nat.le_of_ble_eq_true rfl) dX9_began_21 (pc' := 24) rfl ?_
      refine a_iret hX dX9_began_24 (hE _ _ _ ?_)
      refine ⟨aLf ?_, rfl, rfl⟩
      rw [if_pos (by omega)]
    · refine a_bipush hX rfl dX9_began_9 (pc' := 11) rfl ?_
      refine a_iret hX dX9_began_11 (hE _ _ _ ?_)
      refine ⟨aLf ?_, rfl, rfl⟩
      rw [if_neg (by omega)]

def sRest (P : aP) (S : aSk) (c d a b : Int) : Bool := rOk (rAt S c) (rAt S d) (rAl P S c) (rAl P S d) a b
theorem rOkN_congr {f g u v f' g' u' v' : Int → Int} (h : ∀ b : Int, 0 ≤ b ∧ b < 3 → f b = f' b ∧ g b = g' b ∧ u b = u' b ∧ v b = v' b) {a b : Int} (ha : 0 ≤ a ∧ a < 3) (hb : 0 ≤ b ∧ b < 3) : ∀ n : Nat, n ≤ 3 → rOkN f g u v a b n = rOkN f' g' u' v' a b n
  | 0, _ => rfl
  | n + 1, hn => by
    show (rOkN f g u v a b n && _) = (rOkN f' g' u' v' a b n && _)
    obtain ⟨h1, h2, h3, h4⟩ := h n (by omega)
    obtain ⟨a1, a2, a3, a4⟩ := h a ha
    obtain ⟨b1, b2, b3, b4⟩ := h b hb
    unfold rAp
    rw [rOkN_congr h ha hb n (by omega), h1, h2, h3, h4, a1, a3, b2, b4]
theorem rCount_congr {r r' : Int → Int → Bool} (h : ∀ a b : Int, 0 ≤ a ∧ a < 3 → 0 ≤ b ∧ b < 3 → r a b = r' a b) : rCount r 9 = rCount r' 9 :=
  aSum_congr 9 (fun k hk => by rw [h _ _ (by omega) (by omega)])
theorem rFirst_congr {r r' : Int → Int → Bool} (h : ∀ a b : Int, 0 ≤ a ∧ a < 3 → 0 ≤ b ∧ b < 3 → r a b = r' a b) : ∀ n : Nat, n ≤ 9 → rFirst r n = rFirst r' n
  | 0, _ => rfl
  | n + 1, hn => by
    unfold rFirst
    rw [rFirst_congr h n (by omega), h _ _ (by omega) (by omega)]

set_option maxHeartbeats 4000000 in
set_option maxRecDepth 100000 in
theorem x_rests {G : aG} {Z : aZ} {Y : aY} {c d w : Int} (hc : -2147483648 ≤ c ∧ c < 2147483648) (hcd : -2147483648 ≤ d ∧ d < 2147483648) (hw : -2147483648 ≤ w ∧ w < 2147483648) (hB : aB Z) (hP : okP (vP Z)) (hS : okS (vP Z) (vS Z 12)) (hd : Z 12 6 ≤ 5000) : aSI G yX9_rests cX9_rests 4 (some .int) 5 117 [.ref (G.1 0), .int (aI c), .int (aI d), .int (aI w)] Z Y (fun x Z' Y' => x = (if (pHasC (vP Z) c = true ∧ pHasC (vP Z) d = true) then (if c ≠ d ∧ 0 ≤ w ∧ w ≤ 1 then (if w = 0 then rCount (sRest (vP Z) (vS Z 12) c d) 9 else rFirst (sRest (vP Z) (vS Z 12) c d) 9) else -2) else -1) ∧ (∀ a : Nat, ¬ (52 ≤ a ∧ a ≤ 55) → Z' a = Z a) ∧ aB Z' ∧ Y' = Y) := by
  refine aS.of (own := RX9) (by decide +kernel) rfl 0 (Nat.le_of_ble_eq_true rfl) (fun X hX hE => ?_)
  show AW X G 0 [some (.ref (G.1 0)), some (.int (aI c)), some (.int (aI d)), some (.int (aI w))] [] Z Y
  have hfP := fP hP
  have hfS := fS hS
  refine a_aload_n hX rfl rfl dX9_rests_0 (pc' := 1) rfl ?_
  refine a_getfR hX (r := 3) fl_X9_19 rfl (by decide) rfl dX9_rests_1 (pc' := 4) rfl ?_
  refine a_iload_n hX rfl rfl dX9_rests_4 (pc' := 5) rfl ?_
  refine a_cV1i hX cv_X9_121 (c_hasCloud (by omega) hB hP) rfl (by decide) ⟨by decide, by decide⟩ (Nat.le_of_ble_eq_true rfl) dX9_rests_5 (pc' := 8) rfl ?_
  refine a_ifb_eq hX dX9_rests_8 (pc' := 11) rfl (tgt := 22) (by decide) (fun c8 => ?_) (fun c8 => ?_)
  · refine a_iconst hX dX9_rests_22 (pc' := 23) rfl ?_
    refine a_iret hX dX9_rests_23 (hE _ _ _ ?_)
    first
      | exact ⟨_, rfl, by rw [if_neg (fun q => absurd (q.1.symm.trans c8) (by decide))], fun _ _ => rfl, hB, rfl⟩
      | exact ⟨_, rfl, by rw [if_neg (fun q => absurd (q.2.symm.trans c19) (by decide))], fun _ _ => rfl, hB, rfl⟩
  · have hc1 := pHasC_no c8
    refine a_aload_n hX rfl rfl dX9_rests_11 (pc' := 12) rfl ?_
    refine a_getfR hX (r := 3) fl_X9_19 rfl (by decide) rfl dX9_rests_12 (pc' := 15) rfl ?_
    refine a_iload_n hX rfl rfl dX9_rests_15 (pc' := 16) rfl ?_
    refine a_cV1i hX cv_X9_121 (c_hasCloud (by omega) hB hP) rfl (by decide) ⟨by decide, by decide⟩ (Nat.le_of_ble_eq_true rfl) dX9_rests_16 (pc' := 19) rfl ?_
    refine a_ifb_ne hX dX9_rests_19 (pc' := 22) rfl (tgt := 24) (by decide) (fun c19 => ?_) (fun c19 => ?_)
    · have hd1 := pHasC_no c19
      refine a_iload_n hX rfl rfl dX9_rests_24 (pc' := 25) rfl ?_
      refine a_iload_n hX rfl rfl dX9_rests_25 (pc' := 26) rfl ?_
      refine a_icmp_eq hX (by omega) (by omega) dX9_rests_26 (pc' := 29) rfl (tgt := 38) (by decide) (fun c26 => ?_) (fun c26 => ?_)
      · refine a_bipush hX rfl dX9_rests_38 (pc' := 40) rfl ?_
        refine a_iret hX dX9_rests_40 (hE _ _ _ ?_)
        exact ⟨_, rfl, by rw [if_pos ⟨c8, c19⟩, if_neg (by omega)], fun _ _ => rfl, hB, rfl⟩
      · refine a_iload_n hX rfl rfl dX9_rests_29 (pc' := 30) rfl ?_
        refine a_if_lt hX (by omega) dX9_rests_30 (pc' := 33) rfl (tgt := 38) (by decide) (fun c30 => ?_) (fun c30 => ?_)
        · refine a_bipush hX rfl dX9_rests_38 (pc' := 40) rfl ?_
          refine a_iret hX dX9_rests_40 (hE _ _ _ ?_)
          exact ⟨_, rfl, by rw [if_pos ⟨c8, c19⟩, if_neg (by omega)], fun _ _ => rfl, hB, rfl⟩
        · refine a_iload_n hX rfl rfl dX9_rests_33 (pc' := 34) rfl ?_
          refine a_iconst hX dX9_rests_34 (pc' := 35) rfl ?_
          refine a_icmp_le hX (by omega) (by omega) dX9_rests_35 (pc' := 38) rfl (tgt := 41) (by decide) (fun c35 => ?_) (fun c35 => ?_)
          · refine a_aload_n hX rfl rfl dX9_rests_41 (pc' := 42) rfl ?_
            refine a_getfR hX (r := 12) fl_X9_28 rfl (by decide) rfl dX9_rests_42 (pc' := 45) rfl ?_
            refine a_iload_n hX rfl rfl dX9_rests_45 (pc' := 46) rfl ?_
            refine a_aload_n hX rfl rfl dX9_rests_46 (pc' := 47) rfl ?_
            refine a_getfR hX (r := 51) fl_X9_66 rfl (by decide) rfl dX9_rests_47 (pc' := 50) rfl ?_
            refine a_getfR hX (r := 52) fl_X9_253 rfl (by decide) rfl dX9_rests_50 (pc' := 53) rfl ?_
            refine a_aload_n hX rfl rfl dX9_rests_53 (pc' := 54) rfl ?_
            refine a_getfR hX (r := 51) fl_X9_66 rfl (by decide) rfl dX9_rests_54 (pc' := 57) rfl ?_
            refine a_getfR hX (r := 54) fl_X9_256 rfl (by decide) rfl dX9_rests_57 (pc' := 60) rfl ?_
            refine a_cS4V hX cs_X9_259 (c_weigh rfl rfl (by decide) hc1 hB hP hS hd) ⟨by decide, by decide⟩ (Nat.le_of_ble_eq_true rfl) dX9_rests_60 (pc' := 63) rfl (fun Z60 Y60 h60 => ?_)
            obtain ⟨u1, u2, u3, hB, rfl⟩ := h60
            have eP : vP Z60 = vP Z := vP_eq (fun a ha => u3 a (by omega) (by omega))
            have eS : vS Z60 12 = vS Z 12 := vS_frame (u3 3 (by omega) (by omega)) (u3 12 (by omega) (by omega)) (u3 13 (by omega) (by omega)) (u3 14 (by omega) (by omega)) (u3 15 (by omega) (by omega))
            have hP1 : okP (vP Z60) := by rw [eP]; exact hP
            have hS1 : okS (vP Z60) (vS Z60 12) := by rw [eP, eS]; exact hS
            have hdd1 : Z60 12 6 ≤ 5000 := by rw [u3 12 (by omega) (by omega)]; exact hd
            refine a_aload_n hX rfl rfl dX9_rests_63 (pc' := 64) rfl ?_
            refine a_getfR hX (r := 12) fl_X9_28 rfl (by decide) rfl dX9_rests_64 (pc' := 67) rfl ?_
            refine a_iload_n hX rfl rfl dX9_rests_67 (pc' := 68) rfl ?_
            refine a_aload_n hX rfl rfl dX9_rests_68 (pc' := 69) rfl ?_
            refine a_getfR hX (r := 51) fl_X9_66 rfl (by decide) rfl dX9_rests_69 (pc' := 72) rfl ?_
            refine a_getfR hX (r := 53) fl_X9_263 rfl (by decide) rfl dX9_rests_72 (pc' := 75) rfl ?_
            refine a_aload_n hX rfl rfl dX9_rests_75 (pc' := 76) rfl ?_
            refine a_getfR hX (r := 51) fl_X9_66 rfl (by decide) rfl dX9_rests_76 (pc' := 79) rfl ?_
            refine a_getfR hX (r := 55) fl_X9_266 rfl (by decide) rfl dX9_rests_79 (pc' := 82) rfl ?_
            refine a_cS4V hX cs_X9_259 (c_weigh rfl rfl (by decide) (by rw [u3 3 (by omega) (by omega)]; exact hd1) hB hP1 hS1 hdd1) ⟨by decide, by decide⟩ (Nat.le_of_ble_eq_true rfl) dX9_rests_82 (pc' := 85) rfl (fun Z82 Y82 h82 => ?_)
            obtain ⟨w1, w2, w3, hB, rfl⟩ := h82
            rw [eP, eS] at w2
            rw [eS] at w1
            have f82 : ∀ b : Int, 0 ≤ b ∧ b < 3 → Z82 52 b = rAt (vS Z 12) c b ∧ Z82 53 b = rAt (vS Z 12) d b ∧ Z82 54 b = rAl (vP Z) (vS Z 12) c b ∧ Z82 55 b = rAl (vP Z) (vS Z 12) d b := fun b hb => ⟨by rw [w3 52 (by omega) (by omega)]; exact u1 b hb, w1 b hb, by rw [w3 54 (by omega) (by omega)]; exact u2 b hb, w2 b hb⟩
            have g82 : ∀ a b : Int, 0 ≤ a ∧ a < 3 → 0 ≤ b ∧ b < 3 → rOk (Z82 52) (Z82 53) (Z82 54) (Z82 55) a b = sRest (vP Z) (vS Z 12) c d a b := fun a b ha hb => rOkN_congr f82 ha hb 3 (Nat.le_refl 3)
            refine a_iload_n hX rfl rfl dX9_rests_85 (pc' := 86) rfl ?_
            refine a_if_ne hX (by omega) dX9_rests_86 (pc' := 89) rfl (tgt := 99) (by decide) (fun c86 => ?_) (fun c86 => ?_)
            · refine a_aload_n hX rfl rfl dX9_rests_99 (pc' := 100) rfl ?_
              refine a_getfR hX (r := 51) fl_X9_66 rfl (by decide) rfl dX9_rests_100 (pc' := 103) rfl ?_
              refine a_cV0i hX cv_X9_272 (c_firstResting hB) rfl (by decide) ⟨by decide, by decide⟩ (Nat.le_of_ble_eq_true rfl) dX9_rests_103 (pc' := 106) rfl ?_
              refine a_iret hX dX9_rests_106 (hE _ _ _ ?_)
              refine ⟨_, rfl, ?_, fun a ha => by rw [w3 a (by omega) (by omega), u3 a (by omega) (by omega)], hB, rfl⟩
              rw [if_pos ⟨c8, c19⟩, if_pos (by omega)]
              first
                | rw [if_pos (by omega)]; exact rCount_congr g82
                | rw [if_neg (by omega)]; exact rFirst_congr g82 9 (Nat.le_refl 9)
            · refine a_aload_n hX rfl rfl dX9_rests_89 (pc' := 90) rfl ?_
              refine a_getfR hX (r := 51) fl_X9_66 rfl (by decide) rfl dX9_rests_90 (pc' := 93) rfl ?_
              refine a_cV0i hX cv_X9_269 (c_restingPairs hB) rfl (by decide) ⟨by decide, by decide⟩ (Nat.le_of_ble_eq_true rfl) dX9_rests_93 (pc' := 96) rfl ?_
              refine a_goto hX dX9_rests_96 (tgt := 106) (by decide) ?_
              refine a_iret hX dX9_rests_106 (hE _ _ _ ?_)
              refine ⟨_, rfl, ?_, fun a ha => by rw [w3 a (by omega) (by omega), u3 a (by omega) (by omega)], hB, rfl⟩
              rw [if_pos ⟨c8, c19⟩, if_pos (by omega)]
              first
                | rw [if_pos (by omega)]; exact rCount_congr g82
                | rw [if_neg (by omega)]; exact rFirst_congr g82 9 (Nat.le_refl 9)
          · refine a_bipush hX rfl dX9_rests_38 (pc' := 40) rfl ?_
            refine a_iret hX dX9_rests_40 (hE _ _ _ ?_)
            exact ⟨_, rfl, by rw [if_pos ⟨c8, c19⟩, if_neg (by omega)], fun _ _ => rfl, hB, rfl⟩
    · refine a_iconst hX dX9_rests_22 (pc' := 23) rfl ?_
      refine a_iret hX dX9_rests_23 (hE _ _ _ ?_)
      first
        | exact ⟨_, rfl, by rw [if_neg (fun q => absurd (q.1.symm.trans c8) (by decide))], fun _ _ => rfl, hB, rfl⟩
        | exact ⟨_, rfl, by rw [if_neg (fun q => absurd (q.2.symm.trans c19) (by decide))], fun _ _ => rfl, hB, rfl⟩

set_option maxHeartbeats 4000000 in
set_option maxRecDepth 100000 in
theorem x_keep {G : aG} {Z : aZ} {Y : aY} {s : Int} (hs : -2147483648 ≤ s ∧ s < 2147483648) (hB : aB Z) (hP : okP (vP Z)) (hS : okS (vP Z) (vS Z 12)) (hd : Z 12 6 ≤ 5000) : aSI G yX9_keep cX9_keep 2 (some .int) 2 85 [.ref (G.1 0), .int (aI s)] Z Y (fun x Z' Y' => x = (if 0 ≤ s ∧ s < 2 then Z 12 6 else -1) ∧ (if 0 ≤ s ∧ s < 2 then vRow Z' (57 + s.toNat) = vS Z 12 ∧ Z' 59 s = 1 ∧ (∀ b : Int, b ≠ s → Z' 59 b = Z 59 b) ∧ (∀ a : Nat, a ≠ (57 + s.toNat) → a ≠ 59 → Z' a = Z a) else Z' = Z) ∧ aB Z' ∧ Y' = Y) := by
  refine aS.of (own := RX9) (by decide +kernel) rfl 0 (Nat.le_of_ble_eq_true rfl) (fun X hX hE => ?_)
  show AW X G 0 [some (.ref (G.1 0)), some (.int (aI s))] [] Z Y
  have hfP := fP hP
  have hfS := fS hS
  refine a_iload_n hX rfl rfl dX9_keep_0 (pc' := 1) rfl ?_
  refine a_if_lt hX (by omega) dX9_keep_1 (pc' := 4) rfl (tgt := 9) (by decide) (fun c1 => ?_) (fun c1 => ?_)
  · refine a_iconst hX dX9_keep_9 (pc' := 10) rfl ?_
    refine a_iret hX dX9_keep_10 (hE _ _ _ ?_)
    exact ⟨_, rfl, by rw [if_neg (by omega)], by rw [if_neg (by omega)], hB, rfl⟩
  · refine a_iload_n hX rfl rfl dX9_keep_4 (pc' := 5) rfl ?_
    refine a_iconst hX dX9_keep_5 (pc' := 6) rfl ?_
    refine a_icmp_lt hX (by omega) (by omega) dX9_keep_6 (pc' := 9) rfl (tgt := 11) (by decide) (fun c6 => ?_) (fun c6 => ?_)
    · refine a_aload_n hX rfl rfl dX9_keep_11 (pc' := 12) rfl ?_
      refine a_getfR hX (r := 12) fl_X9_28 rfl (by decide) rfl dX9_keep_12 (pc' := 15) rfl ?_
      refine a_aload_n hX rfl rfl dX9_keep_15 (pc' := 16) rfl ?_
      refine a_getfR hX (r := 56) fl_X9_72 rfl (by decide) rfl dX9_keep_16 (pc' := 19) rfl ?_
      refine a_iload_n hX rfl rfl dX9_keep_19 (pc' := 20) rfl ?_
      have hr : aSh (57 + s.toNat) = (1, 0, [16]) := by
        have : s = 0 ∨ s = 1 := by omega
        rcases this with rfl | rfl <;> rfl
      refine a_aald hX rfl (by decide) (by decide) (by omega) dX9_keep_20 (pc' := 21) rfl ?_
      refine a_cV1V hX cv_X9_304 (c_store hr (by omega) sky12 hB) rfl (by decide) ⟨by decide, by decide⟩ (Nat.le_of_ble_eq_true rfl) dX9_keep_21 (pc' := 24) rfl (fun Z21 Y21 h21 => ?_)
      obtain ⟨u1, u2, hB, rfl⟩ := h21
      refine a_aload_n hX rfl rfl dX9_keep_24 (pc' := 25) rfl ?_
      refine a_getfR hX (r := 59) fl_X9_75 rfl (by decide) rfl dX9_keep_25 (pc' := 28) rfl ?_
      refine a_iload_n hX rfl rfl dX9_keep_28 (pc' := 29) rfl ?_
      refine a_iconst hX dX9_keep_29 (pc' := 30) rfl ?_
      refine a_zastB hX rfl (by decide) (by decide) (by omega) hB (Or.inr rfl) dX9_keep_30 (pc' := 31) rfl (fun hB => ?_)
      refine a_aload_n hX rfl rfl dX9_keep_31 (pc' := 32) rfl ?_
      refine a_getfR hX (r := 12) fl_X9_28 rfl (by decide) rfl dX9_keep_32 (pc' := 35) rfl ?_
      refine a_getfI hX (ji := 6) rfl hB fl_X9_195 rfl (by decide) rfl dX9_keep_35 (pc' := 38) rfl (fun hb => ?_)
      refine a_iret hX dX9_keep_38 (hE _ _ _ ?_)
      refine ⟨_, rfl, ?_, ?_, hB, rfl⟩
      · rw [if_pos (by omega), aU_row (by decide), u2 12 (by omega)]
      · rw [if_pos (by omega)]
        refine ⟨?_, aU_eq, fun b hb => ?_, fun a h1 h2 => ?_⟩
        · rw [← u1]; exact vRow_eq (aU_row (by decide)) (aU_row (by omega))
        · rw [aU_nj hb, u2 59 (by omega)]
        · rw [aU_row h2, u2 a h1]
    · refine a_iconst hX dX9_keep_9 (pc' := 10) rfl ?_
      refine a_iret hX dX9_keep_10 (hE _ _ _ ?_)
      exact ⟨_, rfl, by rw [if_neg (by omega)], by rw [if_neg (by omega)], hB, rfl⟩

set_option maxHeartbeats 4000000 in
set_option maxRecDepth 100000 in
theorem x_again {G : aG} {Z : aZ} {Y : aY} {s : Int} (hs : -2147483648 ≤ s ∧ s < 2147483648) (hR : 0 ≤ s ∧ s < 2 → Z 59 s ≠ 0 → okS (vP Z) (vRow Z (57 + s.toNat)) ∧ Z (57 + s.toNat) 15 ≤ 5000) (hB : aB Z) (hP : okP (vP Z)) (hS : okS (vP Z) (vS Z 12)) (hd : Z 12 6 ≤ 5000) : aSI G yX9_again cX9_again 2 (some .int) 2 85 [.ref (G.1 0), .int (aI s)] Z Y (fun x Z' Y' => x = (if 0 ≤ s ∧ s < 2 then (if Z 59 s ≠ 0 then Z' 12 6 else -3) else -1) ∧ (if (0 ≤ s ∧ s < 2) ∧ Z 59 s ≠ 0 then vS Z' 12 = vRow Z (57 + s.toNat) ∧ Z' 20 1 = 0 ∧ Z' 20 2 = 0 ∧ (∀ a : Nat, a ≠ 20 → ¬ (12 ≤ a ∧ a ≤ 15) → Z' a = Z a) else Z' = Z) ∧ aB Z' ∧ Y' = Y) := by
  refine aS.of (own := RX9) (by decide +kernel) rfl 0 (Nat.le_of_ble_eq_true rfl) (fun X hX hE => ?_)
  show AW X G 0 [some (.ref (G.1 0)), some (.int (aI s))] [] Z Y
  have hfP := fP hP
  have hfS := fS hS
  refine a_iload_n hX rfl rfl dX9_again_0 (pc' := 1) rfl ?_
  refine a_if_lt hX (by omega) dX9_again_1 (pc' := 4) rfl (tgt := 9) (by decide) (fun c1 => ?_) (fun c1 => ?_)
  · refine a_iconst hX dX9_again_9 (pc' := 10) rfl ?_
    refine a_iret hX dX9_again_10 (hE _ _ _ ?_)
    exact ⟨_, rfl, by rw [if_neg (by omega)], by rw [if_neg (by omega)], hB, rfl⟩
  · refine a_iload_n hX rfl rfl dX9_again_4 (pc' := 5) rfl ?_
    refine a_iconst hX dX9_again_5 (pc' := 6) rfl ?_
    refine a_icmp_lt hX (by omega) (by omega) dX9_again_6 (pc' := 9) rfl (tgt := 11) (by decide) (fun c6 => ?_) (fun c6 => ?_)
    · refine a_aload_n hX rfl rfl dX9_again_11 (pc' := 12) rfl ?_
      refine a_getfR hX (r := 59) fl_X9_75 rfl (by decide) rfl dX9_again_12 (pc' := 15) rfl ?_
      refine a_iload_n hX rfl rfl dX9_again_15 (pc' := 16) rfl ?_
      refine a_zald hX rfl (by decide) (by decide) (by omega) hB dX9_again_16 (pc' := 17) rfl (fun hb => ?_)
      refine a_if_ne hX (by omega) dX9_again_17 (pc' := 20) rfl (tgt := 23) (by decide) (fun c17 => ?_) (fun c17 => ?_)
      · refine a_aload_n hX rfl rfl dX9_again_23 (pc' := 24) rfl ?_
        refine a_getfR hX (r := 12) fl_X9_28 rfl (by decide) rfl dX9_again_24 (pc' := 27) rfl ?_
        refine a_aload_n hX rfl rfl dX9_again_27 (pc' := 28) rfl ?_
        refine a_getfR hX (r := 56) fl_X9_72 rfl (by decide) rfl dX9_again_28 (pc' := 31) rfl ?_
        refine a_iload_n hX rfl rfl dX9_again_31 (pc' := 32) rfl ?_
        have hr : aSh (57 + s.toNat) = (1, 0, [16]) := by
          have : s = 0 ∨ s = 1 := by omega
          rcases this with rfl | rfl <;> rfl
        refine a_aald hX rfl (by decide) (by decide) (by omega) dX9_again_32 (pc' := 33) rfl ?_
        refine a_cV1V hX cv_X9_308 (c_load hr (by omega) (hR (by omega) (by omega)).1 sky12 hB) rfl (by decide) ⟨by decide, by decide⟩ (Nat.le_of_ble_eq_true rfl) dX9_again_33 (pc' := 36) rfl (fun Z33 Y33 h33 => ?_)
        obtain ⟨u1, -, u2, hB, rfl⟩ := h33
        refine a_aload_n hX rfl rfl dX9_again_36 (pc' := 37) rfl ?_
        refine a_getfR hX (r := 20) fl_X9_38 rfl (by decide) rfl dX9_again_37 (pc' := 40) rfl ?_
        refine a_cV0V hX cv_X9_109 (c_forget hB) rfl (by decide) ⟨by decide, by decide⟩ (Nat.le_of_ble_eq_true rfl) dX9_again_40 (pc' := 43) rfl (fun Z40 Y40 h40 => ?_)
        obtain ⟨z40, hB, rfl⟩ := h40
        refine a_aload_n hX rfl rfl dX9_again_43 (pc' := 44) rfl ?_
        refine a_getfR hX (r := 12) fl_X9_28 rfl (by decide) rfl dX9_again_44 (pc' := 47) rfl ?_
        refine a_getfI hX (ji := 6) rfl hB fl_X9_195 rfl (by decide) rfl dX9_again_47 (pc' := 50) rfl (fun hb => ?_)
        refine a_iret hX dX9_again_50 (hE _ _ _ ?_)
        refine ⟨_, rfl, by rw [if_pos (by omega), if_pos (by omega)], ?_, hB, rfl⟩
        rw [if_pos (by omega)]
        subst z40
        refine ⟨?_, by rw [aU_nj (by decide), aU_eq], aU_eq, fun a h1 h2 => ?_⟩
        · rw [← u1, vS_frame (Z := Z33) (by rw [aU_row (by decide), aU_row (by decide)]) (by rw [aU_row (by decide), aU_row (by decide)]) (by rw [aU_row (by decide), aU_row (by decide)]) (by rw [aU_row (by decide), aU_row (by decide)]) (by rw [aU_row (by decide), aU_row (by decide)])]
        · rw [aU_row h1, aU_row h1, u2 a (by omega)]
      · refine a_bipush hX rfl dX9_again_20 (pc' := 22) rfl ?_
        refine a_iret hX dX9_again_22 (hE _ _ _ ?_)
        exact ⟨_, rfl, by rw [if_pos (by omega), if_neg (by omega)], by rw [if_neg (by omega)], hB, rfl⟩
    · refine a_iconst hX dX9_again_9 (pc' := 10) rfl ?_
      refine a_iret hX dX9_again_10 (hE _ _ _ ?_)
      exact ⟨_, rfl, by rw [if_neg (by omega)], by rw [if_neg (by omega)], hB, rfl⟩

set_option maxHeartbeats 4000000 in
set_option maxRecDepth 100000 in
theorem x_copy {G : aG} {Z : aZ} {Y : aY} (hB : aB Z) (hP : okP (vP Z)) (hS : okS (vP Z) (vS Z 12)) (hd : Z 12 6 ≤ 5000) : aSV G yX9_copyToTrial cX9_copyToTrial 1 none 2 85 [.ref (G.1 0)] Z Y (fun Z' Y' => vS Z' 16 = vS Z 12 ∧ (∀ a : Nat, a ≠ 60 → ¬ (16 ≤ a ∧ a ≤ 19) → Z' a = Z a) ∧ aB Z' ∧ Y' = Y) := by
  refine aS.of (own := RX9) (by decide +kernel) rfl 0 (Nat.le_of_ble_eq_true rfl) (fun X hX hE => ?_)
  show AW X G 0 [some (.ref (G.1 0))] [] Z Y
  have hfP := fP hP
  have hfS := fS hS
  refine a_aload_n hX rfl rfl dX9_copyToTrial_0 (pc' := 1) rfl ?_
  refine a_getfR hX (r := 12) fl_X9_28 rfl (by decide) rfl dX9_copyToTrial_1 (pc' := 4) rfl ?_
  refine a_aload_n hX rfl rfl dX9_copyToTrial_4 (pc' := 5) rfl ?_
  refine a_getfR hX (r := 60) fl_X9_79 rfl (by decide) rfl dX9_copyToTrial_5 (pc' := 8) rfl ?_
  refine a_cV1V hX cv_X9_304 (c_store rfl (by omega) sky12 hB) rfl (by decide) ⟨by decide, by decide⟩ (Nat.le_of_ble_eq_true rfl) dX9_copyToTrial_8 (pc' := 11) rfl (fun Z8 Y8 h8 => ?_)
  obtain ⟨u1, u2, hB, rfl⟩ := h8
  have eP : vP Z8 = vP Z := vP_eq (fun a ha => u2 a (by omega))
  have hR : okS (vP Z8) (vRow Z8 60) := by rw [eP, u1]; exact hS
  refine a_aload_n hX rfl rfl dX9_copyToTrial_11 (pc' := 12) rfl ?_
  refine a_getfR hX (r := 16) fl_X9_32 rfl (by decide) rfl dX9_copyToTrial_12 (pc' := 15) rfl ?_
  refine a_aload_n hX rfl rfl dX9_copyToTrial_15 (pc' := 16) rfl ?_
  refine a_getfR hX (r := 60) fl_X9_79 rfl (by decide) rfl dX9_copyToTrial_16 (pc' := 19) rfl ?_
  refine a_cV1V hX cv_X9_308 (c_load rfl (by omega) hR sky16 hB) rfl (by decide) ⟨by decide, by decide⟩ (Nat.le_of_ble_eq_true rfl) dX9_copyToTrial_19 (pc' := 22) rfl (fun Z19 Y19 h19 => ?_)
  obtain ⟨w1, -, w2, hB, rfl⟩ := h19
  refine a_vret hX dX9_copyToTrial_22 (hE _ _ _ ?_)
  exact ⟨rfl, by rw [w1, u1], fun a h1 h2 => by rw [w2 a (by omega), u2 a h1], hB, rfl⟩

/-- a drawn lot of a season -/
def sPlay (P : aP) (S : aSk) (d : Int) : aSk := if 20 ≤ d then dDay P S else if (pHasC P (d / 5) && pHasP P (d % 5) && sCan P S (d / 5) (d % 5)) = true then dDrop P S (d / 5) (d % 5) else S

set_option maxHeartbeats 4000000 in
set_option maxRecDepth 100000 in
theorem x_play {G : aG} {Z : aZ} {Y : aY} {d : Int} (hdd : 0 ≤ d ∧ d < 28) (hB : aB Z) (hP : okP (vP Z)) (hS : okS (vP Z) (vS Z 16)) (hd : Z 16 6 ≤ 5000) : aSV G yX9_playSeason cX9_playSeason 2 none 5 109 [.ref (G.1 0), .int (aI d)] Z Y (aSp Z Y 16 (sPlay (vP Z) (vS Z 16) d)) := by
  refine aS.of (own := RX9) (by decide +kernel) rfl 0 (Nat.le_of_ble_eq_true rfl) (fun X hX hE => ?_)
  show AW X G 0 [some (.ref (G.1 0)), some (.int (aI d))] [] Z Y
  have hfP := fP hP
  have hfS := fS hS
  refine a_iload_n hX rfl rfl dX9_playSeason_0 (pc' := 1) rfl ?_
  refine a_bipush hX rfl dX9_playSeason_1 (pc' := 3) rfl ?_
  refine a_icmp_lt hX (by omega) (by omega) dX9_playSeason_3 (pc' := 6) rfl (tgt := 17) (by decide) (fun c3 => ?_) (fun c3 => ?_)
  · refine a_aload_n hX rfl rfl dX9_playSeason_17 (pc' := 18) rfl ?_
    refine a_getfR hX (r := 16) fl_X9_32 rfl (by decide) rfl dX9_playSeason_18 (pc' := 21) rfl ?_
    refine a_iload_n hX rfl rfl dX9_playSeason_21 (pc' := 22) rfl ?_
    refine a_iconst hX dX9_playSeason_22 (pc' := 23) rfl ?_
    refine a_idiv hX (by omega) (by omega) dX9_playSeason_23 (pc' := 24) rfl ?_
    refine a_iload_n hX rfl rfl dX9_playSeason_24 (pc' := 25) rfl ?_
    refine a_iconst hX dX9_playSeason_25 (pc' := 26) rfl ?_
    refine a_irem hX (by omega) (by omega) dX9_playSeason_26 (pc' := 27) rfl ?_
    refine a_cV2I hX cv_X9_320 (c_tryDrop (by omega) (by omega) sky16 hB hP hS hd) rfl (by decide) ⟨by decide, by decide⟩ (Nat.le_of_ble_eq_true rfl) dX9_playSeason_27 (pc' := 30) rfl (fun x27 Z27 Y27 h27 => ?_)
    obtain ⟨-, g27⟩ := h27
    refine a_pop hX rfl dX9_playSeason_30 (pc' := 31) rfl ?_
    refine a_vret hX dX9_playSeason_31 (hE _ _ _ ?_)
    first
      | exact ⟨rfl, by unfold sPlay; rw [if_pos (by omega)]; exact g10⟩
      | exact ⟨rfl, by unfold sPlay; rw [if_neg (by omega)]; exact g27⟩
  · refine a_aload_n hX rfl rfl dX9_playSeason_6 (pc' := 7) rfl ?_
    refine a_getfR hX (r := 16) fl_X9_32 rfl (by decide) rfl dX9_playSeason_7 (pc' := 10) rfl ?_
    refine a_cV0I hX cv_X9_169 (c_goDay sky16 hB hP hS hd) rfl (by decide) ⟨by decide, by decide⟩ (Nat.le_of_ble_eq_true rfl) dX9_playSeason_10 (pc' := 13) rfl (fun x10 Z10 Y10 h10 => ?_)
    obtain ⟨-, g10⟩ := h10
    refine a_pop hX rfl dX9_playSeason_13 (pc' := 14) rfl ?_
    refine a_goto hX dX9_playSeason_14 (tgt := 31) (by decide) ?_
    refine a_vret hX dX9_playSeason_31 (hE _ _ _ ?_)
    first
      | exact ⟨rfl, by unfold sPlay; rw [if_pos (by omega)]; exact g10⟩
      | exact ⟨rfl, by unfold sPlay; rw [if_neg (by omega)]; exact g27⟩

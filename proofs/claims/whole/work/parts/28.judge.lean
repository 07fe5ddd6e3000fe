/-- the first place where q holds, else -9 -/
def vFst (q : Int → Bool) : Nat → Int
  | 0 => -9
  | n + 1 => if vFst q n = -9 then (if q n = true then n else -9) else vFst q n
theorem vFst_none {q : Int → Bool} : ∀ n : Nat, (∀ k : Int, 0 ≤ k ∧ k < n → q k = false) → vFst q n = -9
  | 0, _ => rfl
  | n + 1, h => by
    show (if vFst q n = -9 then _ else _) = _
    rw [if_pos (vFst_none n (fun k hk => h k (by omega))), if_neg (by rw [h n (by omega)]; decide)]
theorem vFst_at {q : Int → Bool} {m : Nat} (h : ∀ k : Int, 0 ≤ k ∧ k < m → q k = false) (hm : q m = true) : ∀ n : Nat, m < n → vFst q n = m
  | 0, hn => by omega
  | n + 1, hn => by
    show (if vFst q n = -9 then _ else _) = _
    by_cases e : m = n
    · subst e
      rw [if_pos (vFst_none m h), if_pos hm]
    · rw [vFst_at h hm n (by omega), if_neg (by omega)]
theorem sDoS_15 {P : aP} (hP : okP P) (S : aSk) (f : Int) : sDoS P S f 15 ≤ S 15 + 1 := by
  unfold sDoS
  split
  · rename_i hb
    split
    · unfold dDay; rw [if_pos rfl]; omega
    · split
      · rename_i h0 h1
        unfold sDoB at hb
        rw [if_neg h0, if_pos h1] at hb
        simp only [Bool.and_eq_true] at hb
        have hc := of_decide_eq_true hb.1.1
        have hp := of_decide_eq_true hb.1.2
        have := hP.2.1
        have := hP.2.2.1
        unfold dDrop; rw [if_neg (by omega), if_neg (by omega)]; omega
      · split
        · rename_i h0 h1 h2
          unfold sDoB at hb
          rw [if_neg h0, if_neg h1, if_pos h2] at hb
          simp only [Bool.and_eq_true] at hb
          have hc := of_decide_eq_true hb.1
          have := hP.2.1
          unfold dPush
          rw [if_neg (by omega)]; omega
        · split
          · rename_i h0 h1 h2 h3
            unfold sDoB at hb
            rw [if_neg h0, if_neg h1, if_neg h2, if_pos h3] at hb
            simp only [Bool.and_eq_true] at hb
            have hp := of_decide_eq_true hb.1.2
            have := hP.2.2.1
            unfold dRip; rw [if_neg (by omega), if_neg (by omega)]; omega
          · omega
  · omega
/-- the i-th thing of a row of n -/
def jD (v n i : Int) : Int := v / 1000 ^ (n - 1 - i).toNat % 1000
theorem jD_rng (v n i : Int) : 0 ≤ jD v n i ∧ jD v n i < 1000 := by unfold jD; omega
def jS (P : aP) (S : aSk) (D : Int → Int) : Nat → aSk
  | 0 => S
  | i + 1 => sDoS P (jS P S D i) (D i)
theorem jS_s {P : aP} {S : aSk} {D : Int → Int} {i : Int} (h : 0 ≤ i) : jS P S D (i + 1).toNat = sDoS P (jS P S D i.toNat) (D i) := by
  rw [show (i + 1).toNat = i.toNat + 1 by omega]
  show sDoS P (jS P S D i.toNat) (D (i.toNat : Int)) = _
  rw [Int.toNat_of_nonneg h]
/-- a row judged: the first thing that cannot be done -/
def jAns (P : aP) (S : aSk) (D : Int → Int) (n : Nat) : Int := vFst (fun i => !sDoB P (jS P S D i.toNat) (D i)) n
theorem jPow {n i : Int} (h : 0 ≤ i ∧ i ≤ n - 1) (v : Int) : v / 1000 ^ (n - 1 - i).toNat / 1000 = v / 1000 ^ (n - 1 - (i - 1)).toNat := by
  rw [show (n - 1 - (i - 1)).toNat = (n - 1 - i).toNat + 1 by omega, Int.pow_succ, Int.ediv_ediv_of_nonneg (Int.pow_nonneg (by decide))]

set_option maxHeartbeats 4000000 in
set_option maxRecDepth 100000 in
theorem x_judge {G : aG} {Z : aZ} {Y : aY} {n v : Int} (hn : -2147483648 ≤ n ∧ n < 2147483648) (hv : -9223372036854775808 ≤ v ∧ v < 9223372036854775808) (hd4 : Z 12 6 ≤ 4000) (hB : aB Z) (hP : okP (vP Z)) (hS : okS (vP Z) (vS Z 12)) (hd : Z 12 6 ≤ 5000) : aSI G yX9_judge cX9_judge 7 (some .int) 6 133 [.ref (G.1 0), .int (aI n), .long (aJ v)] Z Y (fun x Z' Y' => x = (if (1 ≤ n ∧ n ≤ 4) ∧ 0 ≤ v ∧ v / 1000 ^ n.toNat = 0 then jAns (vP Z) (vS Z 12) (jD v n) n.toNat else -2) ∧ (∀ a : Nat, a ≠ 60 → a ≠ 61 → ¬ (16 ≤ a ∧ a ≤ 19) → Z' a = Z a) ∧ aB Z' ∧ Y' = Y) := by
  refine aS.of (own := RX9) (by decide +kernel) rfl 3 (Nat.le_of_ble_eq_true rfl) (fun X hX hE => ?_)
  show AW X G 0 [some (.ref (G.1 0)), some (.int (aI n)), some (.long (aJ v)), none, none, none, none] [] Z Y
  have hfP := fP hP
  have hfS := fS hS
  refine a_iload_n hX rfl rfl dX9_judge_0 (pc' := 1) rfl ?_
  refine a_iconst hX dX9_judge_1 (pc' := 2) rfl ?_
  refine a_icmp_lt hX (by omega) (by omega) dX9_judge_2 (pc' := 5) rfl (tgt := 16) (by decide) (fun c2 => ?_) (fun c2 => ?_)
  · refine a_bipush hX rfl dX9_judge_16 (pc' := 18) rfl ?_
    refine a_iret hX dX9_judge_18 (hE _ _ _ ?_)
    exact ⟨_, rfl, by rw [if_neg (by omega)], fun _ _ _ _ => rfl, hB, rfl⟩
  · refine a_iload_n hX rfl rfl dX9_judge_5 (pc' := 6) rfl ?_
    refine a_iconst hX dX9_judge_6 (pc' := 7) rfl ?_
    refine a_icmp_gt hX (by omega) (by omega) dX9_judge_7 (pc' := 10) rfl (tgt := 16) (by decide) (fun c7 => ?_) (fun c7 => ?_)
    · refine a_bipush hX rfl dX9_judge_16 (pc' := 18) rfl ?_
      refine a_iret hX dX9_judge_18 (hE _ _ _ ?_)
      exact ⟨_, rfl, by rw [if_neg (by omega)], fun _ _ _ _ => rfl, hB, rfl⟩
    · refine a_lload_n hX rfl rfl dX9_judge_10 (pc' := 11) rfl ?_
      refine a_lconst hX (v := 0) rfl dX9_judge_11 (pc' := 12) rfl ?_
      refine a_lcmp hX (by omega) (by omega) dX9_judge_12 (pc' := 13) rfl ?_
      refine a_if_ge hX lcR dX9_judge_13 (pc' := 16) rfl (tgt := 19) (by decide) (fun c13 => ?_) (fun c13 => ?_)
      · have hv0 : 0 ≤ v := by
          have := lcN (x := v) (y := 0)
          omega
        refine a_lload_n hX rfl rfl dX9_judge_19 (pc' := 20) rfl ?_
        refine a_lstore4 hX (by decide) rfl dX9_judge_20 (pc' := 22) rfl ?_
        refine a_iload_n hX rfl rfl dX9_judge_22 (pc' := 23) rfl ?_
        refine a_iconst hX dX9_judge_23 (pc' := 24) rfl ?_
        refine a_isub hX dX9_judge_24 (pc' := 25) rfl ?_
        refine a_istore6 hX (by decide) rfl dX9_judge_25 (pc' := 27) rfl ?_
        have L27 : ∀ (m : Nat) (i : Int) (Z1 : aZ), (-1 ≤ i ∧ i ≤ n - 1) → aB Z1 → (∀ b : Int, i < b ∧ b < n → Z1 61 b = jD v n b) → (∀ a : Nat, a ≠ 61 → Z1 a = Z a) → (i + 1).toNat < m → AW X G 27 [some (.ref (G.1 0)), some (.int (aI n)), some (.long (aJ v)), none, some (.long (aJ (v / 1000 ^ (n - 1 - i).toNat))), none, some (.int (aI i))] [] Z1 Y := by
          intro m
          induction m with
          | zero =>
            intro i Z1 hi hB hD hz hn
            omega
          | succ m ih =>
            intro i Z1 hi hB hD hz hn
            refine a_iload hX rfl dX9_judge_27 (pc' := 29) rfl ?_
            refine a_if_lt hX (by omega) dX9_judge_29 (pc' := 32) rfl (tgt := 60) (by decide) (fun c29 => ?_) (fun c29 => ?_)
            · obtain rfl : i = -1 := by omega
              have e1 : (n - 1 - -1).toNat = n.toNat := by omega
              have hq2 : 0 ≤ v / 1000 ^ n.toNat := Int.ediv_nonneg hv0 (Int.pow_nonneg (by decide))
              have hq3 : v / 1000 ^ n.toNat ≤ v := Int.ediv_le_self _ hv0
              rw [e1]
              refine a_lload hX rfl dX9_judge_60 (pc' := 62) rfl ?_
              refine a_lconst hX (v := 0) rfl dX9_judge_62 (pc' := 63) rfl ?_
              refine a_lcmp hX (by omega) (by omega) dX9_judge_63 (pc' := 64) rfl ?_
              refine a_if_eq hX lcR dX9_judge_64 (pc' := 67) rfl (tgt := 70) (by decide) (fun c64 => ?_) (fun c64 => ?_)
              · have hz0 : v / 1000 ^ n.toNat = 0 := lcZ.mp c64
                refine a_aload_n hX rfl rfl dX9_judge_70 (pc' := 71) rfl ?_
                have eP1 : vP Z1 = vP Z := vP_eq (fun a ha => hz a (by omega))
                have eS1 : vS Z1 12 = vS Z 12 := vS_frame (hz 3 (by omega)) (hz 12 (by omega)) (hz 13 (by omega)) (hz 14 (by omega)) (hz 15 (by omega))
                have hP1 : okP (vP Z1) := by rw [eP1]; exact hP
                have hS1 : okS (vP Z1) (vS Z1 12) := by rw [eP1, eS1]; exact hS
                have hdd1 : Z1 12 6 ≤ 5000 := by rw [hz 12 (by omega)]; exact hd
                refine a_cV0V hX cv_X9_227 (x_copy hB hP1 hS1 hdd1) rfl (by decide) ⟨by decide, by decide⟩ (Nat.le_of_ble_eq_true rfl) dX9_judge_71 (pc' := 74) rfl (fun Z71 Y71 h71 => ?_)
                obtain ⟨u1, u2, hB, rfl⟩ := h71
                rw [eS1] at u1
                refine a_iconst hX dX9_judge_74 (pc' := 75) rfl ?_
                refine a_istore6 hX (by decide) rfl dX9_judge_75 (pc' := 77) rfl ?_
                have L77 : ∀ (m : Nat) (i : Int) (Z2 : aZ), (0 ≤ i ∧ i ≤ n) → aB Z2 → vS Z2 16 = jS (vP Z) (vS Z 12) (jD v n) i.toNat → okS (vP Z) (vS Z2 16) → Z2 16 6 ≤ 4000 + i → (∀ k : Int, 0 ≤ k ∧ k < i → sDoB (vP Z) (jS (vP Z) (vS Z 12) (jD v n) k.toNat) (jD v n k) = true) → (∀ a : Nat, ¬ (16 ≤ a ∧ a ≤ 19) → Z2 a = Z71 a) → (n - i).toNat < m → AW X G 77 [some (.ref (G.1 0)), some (.int (aI n)), none, none, none, none, some (.int (aI i))] [] Z2 Y71 := by
                  intro m
                  induction m with
                  | zero =>
                    intro i Z2 hi hB hk ho hd2 hok hz2 hn
                    omega
                  | succ m ih =>
                    intro i Z2 hi hB hk ho hd2 hok hz2 hn
                    refine a_iload hX rfl dX9_judge_77 (pc' := 79) rfl ?_
                    refine a_iload_n hX rfl rfl dX9_judge_79 (pc' := 80) rfl ?_
                    refine a_icmp_ge hX (by omega) (by omega) dX9_judge_80 (pc' := 83) rfl (tgt := 109) (by decide) (fun c80 => ?_) (fun c80 => ?_)
                    · refine a_bipush hX rfl dX9_judge_109 (pc' := 111) rfl ?_
                      refine a_iret hX dX9_judge_111 (hE _ _ _ ?_)
                      refine ⟨_, rfl, ?_, fun a h1 h2 h3 => by rw [hz2 a (by omega), u2 a h1 (by omega), hz a h2], hB, rfl⟩
                      rw [if_pos ⟨by omega, hv0, hz0⟩]
                      unfold jAns
                      exact (vFst_none n.toNat (fun k hk9 => by rw [hok k (by omega)]; rfl)).symm
                    · refine a_aload_n hX rfl rfl dX9_judge_83 (pc' := 84) rfl ?_
                      refine a_getfR hX (r := 16) fl_X9_32 rfl (by decide) rfl dX9_judge_84 (pc' := 87) rfl ?_
                      refine a_aload_n hX rfl rfl dX9_judge_87 (pc' := 88) rfl ?_
                      refine a_getfR hX (r := 61) fl_X9_83 rfl (by decide) rfl dX9_judge_88 (pc' := 91) rfl ?_
                      refine a_iload hX rfl dX9_judge_91 (pc' := 93) rfl ?_
                      refine a_iald hX rfl (by decide) (by decide) (by omega) hB dX9_judge_93 (pc' := 94) rfl (fun hb => ?_)
                      have e61 : Z2 61 i = jD v n i := by rw [hz2 61 (by omega), u2 61 (by omega) (by omega)]; exact hD i (by omega)
                      have eP2 : vP Z2 = vP Z := vP_eq (fun a ha => by rw [hz2 a (by omega), u2 a (by omega) (by omega), hz a (by omega)])
                      have hP2 : okP (vP Z2) := by rw [eP2]; exact hP
                      have hS2 : okS (vP Z2) (vS Z2 16) := by rw [eP2]; exact ho
                      refine a_cV1I hX cv_X9_230 (c_does (by rw [e61]; exact jD_rng _ _ _) sky16 hB hP2 hS2 (by omega)) rfl (by decide) ⟨by decide, by decide⟩ (Nat.le_of_ble_eq_true rfl) dX9_judge_94 (pc' := 97) rfl (fun x94 Z94 Y94 h94 => ?_)
                      obtain ⟨e94, g94⟩ := h94
                      rw [e61, eP2, hk] at e94 g94
                      rw [e94]
                      refine a_ifb_ne hX dX9_judge_97 (pc' := 100) rfl (tgt := 103) (by decide) (fun c97 => ?_) (fun c97 => ?_)
                      · refine a_iinc6 hX (by decide) rfl dX9_judge_103 (pc' := 106) rfl ?_
                        refine a_goto hX dX9_judge_106 (tgt := 77) (by decide) ?_
                        have e15 := sDoS_15 hP (vS Z2 16) (jD v n i)
                        rw [hk] at e15
                        rw [← g94.1] at e15
                        have e16 : vS Z2 16 15 = jS (vP Z) (vS Z 12) (jD v n) i.toNat 15 := by rw [hk]
                        rw [vS_15] at e15 e16
                        have g1 := g94.1
                        rw [g94.2.2.2.2]
                        refine ih (i + 1) Z94 (by omega) g94.2.2.2.1 (by rw [g1, jS_s (by omega)]) ?_ (by omega) (fun k hk9 => ?_) (fun a ha => by rw [g94.2.2.1 a (by omega)]; exact hz2 a ha) (by omega)
                        · have g2 := g94.2.1
                          rw [eP2] at g2
                          rw [g1]; exact g2
                        · by_cases e : k = i
                          · rw [e]; exact c97
                          · exact hok k (by omega)
                      · refine a_iload hX rfl dX9_judge_100 (pc' := 102) rfl ?_
                        refine a_iret hX dX9_judge_102 (hE _ _ _ ?_)
                        obtain ⟨g1, g2, g3, g4, rfl⟩ := g94
                        refine ⟨_, rfl, ?_, fun a h1 h2 h3 => by rw [g3 a (by omega), hz2 a (by omega), u2 a h1 (by omega), hz a h2], g4, rfl⟩
                        rw [if_pos ⟨by omega, hv0, hz0⟩]
                        unfold jAns
                        obtain ⟨i0, rfl⟩ := Int.eq_ofNat_of_zero_le hi.1
                        exact (vFst_at (fun k hk9 => by rw [hok k hk9]; rfl) (by rw [c97]; rfl) n.toNat (by omega)).symm
                refine AW.le ?_ (L77 (n.toNat + 1) 0 Z71 (by omega) hB u1 (by rw [u1]; exact hS) ?_ (fun k hk => by omega) (fun _ _ => rfl) (by omega))
                · exact ⟨rfl, rfl, rfl, trivial⟩
                · have e : vS Z71 16 15 = vS Z 12 15 := by rw [u1]
                  rw [vS_15, vS_15] at e
                  omega
              · have hz0 : ¬ v / 1000 ^ n.toNat = 0 := fun q => c64 (lcZ.mpr q)
                refine a_bipush hX rfl dX9_judge_67 (pc' := 69) rfl ?_
                refine a_iret hX dX9_judge_69 (hE _ _ _ ?_)
                exact ⟨_, rfl, by rw [if_neg (fun q => hz0 q.2.2)], fun a _ h2 _ => hz a h2, hB, rfl⟩
            · have hq1 : (0 : Int) < 1000 ^ (n - 1 - i).toNat := Int.pow_pos (by decide)
              have hq2 : 0 ≤ v / 1000 ^ (n - 1 - i).toNat := Int.ediv_nonneg hv0 (by omega)
              have hq3 : v / 1000 ^ (n - 1 - i).toNat ≤ v := Int.ediv_le_self _ hv0
              refine a_aload_n hX rfl rfl dX9_judge_32 (pc' := 33) rfl ?_
              refine a_getfR hX (r := 61) fl_X9_83 rfl (by decide) rfl dX9_judge_33 (pc' := 36) rfl ?_
              refine a_iload hX rfl dX9_judge_36 (pc' := 38) rfl ?_
              refine a_lload hX rfl dX9_judge_38 (pc' := 40) rfl ?_
              refine a_ldc2J hX (z := 1000) w_648 (by decide) dX9_judge_40 (pc' := 43) rfl ?_
              refine a_lrem hX (by omega) (by omega) dX9_judge_43 (pc' := 44) rfl ?_
              refine a_l2i hX dX9_judge_44 (pc' := 45) rfl ?_
              refine a_iastB hX rfl (by decide) (by decide) (by omega) hB (by omega) dX9_judge_45 (pc' := 46) rfl (fun hB => ?_)
              refine a_lload hX rfl dX9_judge_46 (pc' := 48) rfl ?_
              refine a_ldc2J hX (z := 1000) w_648 (by decide) dX9_judge_48 (pc' := 51) rfl ?_
              refine a_ldiv hX (by omega) (by omega) dX9_judge_51 (pc' := 52) rfl ?_
              refine a_lstore4 hX (by decide) rfl dX9_judge_52 (pc' := 54) rfl ?_
              refine a_iinc6 hX (by decide) rfl dX9_judge_54 (pc' := 57) rfl ?_
              refine a_goto hX dX9_judge_57 (tgt := 27) (by decide) ?_
              have H := ih (i - 1) (aU Z1 61 i (v / 1000 ^ (n - 1 - i).toNat % 1000)) (by omega) hB (fun b hb9 => ?_) (fun a ha => by rw [aU_row ha]; exact hz a ha) (by omega)
              · rw [← jPow (by omega) v] at H
                exact H
              · rw [aU_at]
                by_cases e : b = i
                · rw [if_pos e, e]; rfl
                · rw [if_neg e]; exact hD b (by omega)
        have H27 := L27 (n.toNat + 1) (n - 1) Z (by omega) hB (fun b hb9 => by omega) (fun _ _ => rfl) (by omega)
        rw [show (n - 1 - (n - 1)).toNat = 0 by omega, Int.pow_zero, Int.ediv_one] at H27
        exact H27
      · have hv0 : v < 0 := by
          have := lcN (x := v) (y := 0)
          omega
        refine a_bipush hX rfl dX9_judge_16 (pc' := 18) rfl ?_
        refine a_iret hX dX9_judge_18 (hE _ _ _ ?_)
        exact ⟨_, rfl, by rw [if_neg (by omega)], fun _ _ _ _ => rfl, hB, rfl⟩

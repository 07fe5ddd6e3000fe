/-- chances in tenths: what falls to a yard after n days -/
def cW (P : aP) (k d0 y0 x : Int) : Nat → Int → Int
  | 0, b => if b = y0 then 1 else 0
  | i + 1, b => cW P k d0 y0 x i b * x + cW P k d0 y0 x i ((b - pDrift P k (d0 + i)) % 6) * (10 - x)
theorem cW_rng {P : aP} {k d0 y0 x : Int} (hx : 0 ≤ x ∧ x ≤ 10) : ∀ (i : Nat) (b : Int), 0 ≤ cW P k d0 y0 x i b ∧ cW P k d0 y0 x i b ≤ 10 ^ i
  | 0, b => by
    show 0 ≤ (if b = y0 then (1 : Int) else 0) ∧ (if b = y0 then (1 : Int) else 0) ≤ 10 ^ 0
    split <;> decide
  | i + 1, b => by
    have h1 := cW_rng (P := P) (k := k) (d0 := d0) (y0 := y0) hx i b
    have h2 := cW_rng (P := P) (k := k) (d0 := d0) (y0 := y0) hx i ((b - pDrift P k (d0 + i)) % 6)
    show 0 ≤ cW P k d0 y0 x i b * x + cW P k d0 y0 x i ((b - pDrift P k (d0 + i)) % 6) * (10 - x) ∧ cW P k d0 y0 x i b * x + cW P k d0 y0 x i ((b - pDrift P k (d0 + i)) % 6) * (10 - x) ≤ 10 ^ (i + 1)
    have a1 := Int.mul_nonneg h1.1 hx.1
    have a2 := Int.mul_nonneg h2.1 (show 0 ≤ 10 - x by omega)
    have b1 := Int.mul_le_mul_of_nonneg_right h1.2 hx.1
    have b2 := Int.mul_le_mul_of_nonneg_right h2.2 (show 0 ≤ 10 - x by omega)
    have e : (10 : Int) ^ i * x + 10 ^ i * (10 - x) = 10 ^ (i + 1) := by
      rw [← Int.mul_add, show x + (10 - x) = 10 by omega, Int.pow_succ]
    omega
theorem cW_s {P : aP} {k d0 y0 x : Int} {i : Int} (h : 0 ≤ i) (b : Int) : cW P k d0 y0 x (i + 1).toNat b = cW P k d0 y0 x i.toNat b * x + cW P k d0 y0 x i.toNat ((b - pDrift P k (d0 + i)) % 6) * (10 - x) := by
  rw [show (i + 1).toNat = i.toNat + 1 by omega]
  show cW P k d0 y0 x i.toNat b * x + cW P k d0 y0 x i.toNat ((b - pDrift P k (d0 + (i.toNat : Int))) % 6) * (10 - x) = _
  rw [Int.toNat_of_nonneg h]
theorem cTen {i : Int} (h : 0 ≤ i) (h6 : i ≤ 6) : (0 : Int) < 10 ^ i.toNat ∧ (10 : Int) ^ i.toNat ≤ 1000000 := by
  have : ∀ n : Nat, n ≤ 6 → (0 : Int) < 10 ^ n ∧ (10 : Int) ^ n ≤ 1000000 := by decide
  exact this _ (by omega)
def sFrac (a b : Int) (u : Bool) : Int := if u = true then a / (Int.gcd a b : Int) else b / (Int.gcd a b : Int)

set_option maxHeartbeats 4000000 in
set_option maxRecDepth 100000 in
theorem x_fails {G : aG} {Z : aZ} {Y : aY} {c y n x : Int} {u : Bool} (hc : -2147483648 ≤ c ∧ c < 2147483648) (hy : -2147483648 ≤ y ∧ y < 2147483648) (hn : -2147483648 ≤ n ∧ n < 2147483648) (hx : -2147483648 ≤ x ∧ x < 2147483648) (hB : aB Z) (hP : okP (vP Z)) (hS : okS (vP Z) (vS Z 12)) (hd : Z 12 6 ≤ 5000) : aSI G yX9_fails cX9_fails 7 (some .int) 3 87 [.ref (G.1 0), .int (aI c), .int (aI y), .int (aI n), .int (aI x), .int (aI (aTr u))] Z Y (fun r Z' Y' => r = (if pHasC (vP Z) c = true ∧ 0 ≤ y ∧ y < 6 then (if (1 ≤ n ∧ n ≤ 6) ∧ 0 ≤ x ∧ x ≤ 10 then sFrac (cW (vP Z) (vP Z 4 c) (vS Z 12 15) (vS Z 12 c) x n.toNat y) (10 ^ n.toNat) u else -2) else -1) ∧ (∀ a : Nat, a ≠ 48 → a ≠ 49 → a ≠ 50 → Z' a = Z a) ∧ aB Z' ∧ Y' = Y) := by
  refine aS.of (own := RX9) (by decide +kernel) rfl 1 (Nat.le_of_ble_eq_true rfl) (fun X hX hE => ?_)
  show AW X G 0 [some (.ref (G.1 0)), some (.int (aI c)), some (.int (aI y)), some (.int (aI n)), some (.int (aI x)), some (.int (aI (aTr u))), none] [] Z Y
  have hfP := fP hP
  have hfS := fS hS
  refine a_aload_n hX rfl rfl dX9_fails_0 (pc' := 1) rfl ?_
  refine a_getfR hX (r := 3) fl_X9_19 rfl (by decide) rfl dX9_fails_1 (pc' := 4) rfl ?_
  refine a_iload_n hX rfl rfl dX9_fails_4 (pc' := 5) rfl ?_
  refine a_cV1i hX cv_X9_121 (c_hasCloud (by omega) hB hP) rfl (by decide) ⟨by decide, by decide⟩ (Nat.le_of_ble_eq_true rfl) dX9_fails_5 (pc' := 8) rfl ?_
  refine a_ifb_eq hX dX9_fails_8 (pc' := 11) rfl (tgt := 21) (by decide) (fun c8 => ?_) (fun c8 => ?_)
  · refine a_iconst hX dX9_fails_21 (pc' := 22) rfl ?_
    refine a_iret hX dX9_fails_22 (hE _ _ _ ?_)
    first
      | exact ⟨_, rfl, by rw [if_neg (fun q => absurd (q.1.symm.trans c8) (by decide))], fun _ _ _ _ => rfl, hB, rfl⟩
      | exact ⟨_, rfl, by rw [if_neg (by omega)], fun _ _ _ _ => rfl, hB, rfl⟩
  · have hc1 := pHasC_no c8
    refine a_iload_n hX rfl rfl dX9_fails_11 (pc' := 12) rfl ?_
    refine a_if_lt hX (by omega) dX9_fails_12 (pc' := 15) rfl (tgt := 21) (by decide) (fun c12 => ?_) (fun c12 => ?_)
    · refine a_iconst hX dX9_fails_21 (pc' := 22) rfl ?_
      refine a_iret hX dX9_fails_22 (hE _ _ _ ?_)
      first
        | exact ⟨_, rfl, by rw [if_neg (fun q => absurd (q.1.symm.trans c8) (by decide))], fun _ _ _ _ => rfl, hB, rfl⟩
        | exact ⟨_, rfl, by rw [if_neg (by omega)], fun _ _ _ _ => rfl, hB, rfl⟩
    · refine a_iload_n hX rfl rfl dX9_fails_15 (pc' := 16) rfl ?_
      refine a_bipush hX rfl dX9_fails_16 (pc' := 18) rfl ?_
      refine a_icmp_lt hX (by omega) (by omega) dX9_fails_18 (pc' := 21) rfl (tgt := 23) (by decide) (fun c18 => ?_) (fun c18 => ?_)
      · refine a_iload_n hX rfl rfl dX9_fails_23 (pc' := 24) rfl ?_
        refine a_iconst hX dX9_fails_24 (pc' := 25) rfl ?_
        refine a_icmp_lt hX (by omega) (by omega) dX9_fails_25 (pc' := 28) rfl (tgt := 46) (by decide) (fun c25 => ?_) (fun c25 => ?_)
        · refine a_bipush hX rfl dX9_fails_46 (pc' := 48) rfl ?_
          refine a_iret hX dX9_fails_48 (hE _ _ _ ?_)
          exact ⟨_, rfl, by rw [if_pos ⟨c8, by omega⟩, if_neg (by omega)], fun _ _ _ _ => rfl, hB, rfl⟩
        · refine a_iload_n hX rfl rfl dX9_fails_28 (pc' := 29) rfl ?_
          refine a_bipush hX rfl dX9_fails_29 (pc' := 31) rfl ?_
          refine a_icmp_gt hX (by omega) (by omega) dX9_fails_31 (pc' := 34) rfl (tgt := 46) (by decide) (fun c31 => ?_) (fun c31 => ?_)
          · refine a_bipush hX rfl dX9_fails_46 (pc' := 48) rfl ?_
            refine a_iret hX dX9_fails_48 (hE _ _ _ ?_)
            exact ⟨_, rfl, by rw [if_pos ⟨c8, by omega⟩, if_neg (by omega)], fun _ _ _ _ => rfl, hB, rfl⟩
          · refine a_iload hX rfl dX9_fails_34 (pc' := 36) rfl ?_
            refine a_if_lt hX (by omega) dX9_fails_36 (pc' := 39) rfl (tgt := 46) (by decide) (fun c36 => ?_) (fun c36 => ?_)
            · refine a_bipush hX rfl dX9_fails_46 (pc' := 48) rfl ?_
              refine a_iret hX dX9_fails_48 (hE _ _ _ ?_)
              exact ⟨_, rfl, by rw [if_pos ⟨c8, by omega⟩, if_neg (by omega)], fun _ _ _ _ => rfl, hB, rfl⟩
            · refine a_iload hX rfl dX9_fails_39 (pc' := 41) rfl ?_
              refine a_bipush hX rfl dX9_fails_41 (pc' := 43) rfl ?_
              refine a_icmp_le hX (by omega) (by omega) dX9_fails_43 (pc' := 46) rfl (tgt := 49) (by decide) (fun c43 => ?_) (fun c43 => ?_)
              · refine a_aload_n hX rfl rfl dX9_fails_49 (pc' := 50) rfl ?_
                refine a_getfR hX (r := 48) fl_X9_59 rfl (by decide) rfl dX9_fails_50 (pc' := 53) rfl ?_
                refine a_aload_n hX rfl rfl dX9_fails_53 (pc' := 54) rfl ?_
                refine a_getfR hX (r := 12) fl_X9_28 rfl (by decide) rfl dX9_fails_54 (pc' := 57) rfl ?_
                refine a_getfR hX (r := 13) fl_X9_124 rfl (by decide) rfl dX9_fails_57 (pc' := 60) rfl ?_
                refine a_iload_n hX rfl rfl dX9_fails_60 (pc' := 61) rfl ?_
                refine a_iald hX rfl (by decide) (by decide) (by omega) hB dX9_fails_61 (pc' := 62) rfl (fun hb => ?_)
                refine a_cV1V hX cv_X9_275 (c_startOver (by have : 0 ≤ Z 13 c ∧ Z 13 c ≤ 5 := fSy hS (c := c) (by omega); omega) hB) rfl (by decide) ⟨by decide, by decide⟩ (Nat.le_of_ble_eq_true rfl) dX9_fails_62 (pc' := 65) rfl (fun Z62 Y62 h62 => ?_)
                obtain ⟨u1, u2, u3, hB, rfl⟩ := h62
                refine a_iconst hX dX9_fails_65 (pc' := 66) rfl ?_
                refine a_istore6 hX (by decide) rfl dX9_fails_66 (pc' := 68) rfl ?_
                have L68 : ∀ (m : Nat) (i : Int) (Z1 : aZ), (0 ≤ i ∧ i ≤ n) → aB Z1 → Z1 48 2 = 10 ^ i.toNat → (∀ b : Int, 0 ≤ b ∧ b < 6 → Z1 49 b = cW (vP Z) (vP Z 4 c) (vS Z 12 15) (vS Z 12 c) x i.toNat b) → (∀ a : Nat, a ≠ 48 → a ≠ 49 → a ≠ 50 → Z1 a = Z a) → (n - i).toNat < m → AW X G 68 [some (.ref (G.1 0)), some (.int (aI c)), some (.int (aI y)), some (.int (aI n)), some (.int (aI x)), some (.int (aI (aTr u))), some (.int (aI i))] [] Z1 Y62 := by
                  intro m
                  induction m with
                  | zero =>
                    intro i Z1 hi hB hw2 hw hz hn
                    omega
                  | succ m ih =>
                    intro i Z1 hi hB hw2 hw hz hn
                    refine a_iload hX rfl dX9_fails_68 (pc' := 70) rfl ?_
                    refine a_iload_n hX rfl rfl dX9_fails_70 (pc' := 71) rfl ?_
                    refine a_icmp_ge hX (by omega) (by omega) dX9_fails_71 (pc' := 74) rfl (tgt := 115) (by decide) (fun c71 => ?_) (fun c71 => ?_)
                    · obtain rfl : i = n := by omega
                      have hx9 : 0 ≤ x ∧ x ≤ 10 := by omega
                      refine a_aload_n hX rfl rfl dX9_fails_115 (pc' := 116) rfl ?_
                      refine a_getfR hX (r := 48) fl_X9_59 rfl (by decide) rfl dX9_fails_116 (pc' := 119) rfl ?_
                      refine a_getfR hX (r := 49) fl_X9_283 rfl (by decide) rfl dX9_fails_119 (pc' := 122) rfl ?_
                      refine a_iload_n hX rfl rfl dX9_fails_122 (pc' := 123) rfl ?_
                      refine a_iald hX rfl (by decide) (by decide) (by omega) hB dX9_fails_123 (pc' := 124) rfl (fun hb => ?_)
                      refine a_aload_n hX rfl rfl dX9_fails_124 (pc' := 125) rfl ?_
                      refine a_getfR hX (r := 48) fl_X9_59 rfl (by decide) rfl dX9_fails_125 (pc' := 128) rfl ?_
                      refine a_getfI hX (ji := 2) rfl hB fl_X9_286 rfl (by decide) rfl dX9_fails_128 (pc' := 131) rfl (fun hb => ?_)
                      refine a_iload hX rfl dX9_fails_131 (pc' := 133) rfl ?_
                      refine a_cS3i hX cs_X9_249 (c_fraction (by rw [hw y (by omega)]; have := cW_rng (P := vP Z) (k := vP Z 4 c) (d0 := vS Z 12 15) (y0 := vS Z 12 c) hx9 i.toNat y; have := cTen hi.1 (by omega); omega) (by rw [hw2]; exact cTen hi.1 (by omega))) ⟨by decide, by decide⟩ (Nat.le_of_ble_eq_true rfl) dX9_fails_133 (pc' := 136) rfl ?_
                      refine a_iret hX dX9_fails_136 (hE _ _ _ ?_)
                      refine ⟨_, rfl, ?_, hz, hB, rfl⟩
                      show sFrac (Z1 49 y) (Z1 48 2) u = _
                      rw [if_pos ⟨c8, by omega⟩, if_pos (by omega), hw y (by omega), hw2]
                    · have eP2 : vP Z1 = vP Z := vP_eq (fun a ha => hz a (by omega) (by omega) (by omega))
                      have hP2 : okP (vP Z1) := by rw [eP2]; exact hP
                      have hdr := pDrift_rng (vP Z1) (Z1 7 c) (Z1 12 6 + i)
                      have hx9 : 0 ≤ x ∧ x ≤ 10 := by omega
                      have hww : ∀ b : Int, 0 ≤ b ∧ b < 6 → 0 ≤ Z1 49 b ∧ Z1 49 b ≤ 10 ^ i.toNat := fun b hb9 => by
                        rw [hw b hb9]
                        exact cW_rng hx9 i.toNat b
                      refine a_aload_n hX rfl rfl dX9_fails_74 (pc' := 75) rfl ?_
                      refine a_getfR hX (r := 48) fl_X9_59 rfl (by decide) rfl dX9_fails_75 (pc' := 78) rfl ?_
                      refine a_aload_n hX rfl rfl dX9_fails_78 (pc' := 79) rfl ?_
                      refine a_getfR hX (r := 3) fl_X9_19 rfl (by decide) rfl dX9_fails_79 (pc' := 82) rfl ?_
                      refine a_aload_n hX rfl rfl dX9_fails_82 (pc' := 83) rfl ?_
                      refine a_getfR hX (r := 3) fl_X9_19 rfl (by decide) rfl dX9_fails_83 (pc' := 86) rfl ?_
                      refine a_getfR hX (r := 7) fl_X9_130 rfl (by decide) rfl dX9_fails_86 (pc' := 89) rfl ?_
                      refine a_iload_n hX rfl rfl dX9_fails_89 (pc' := 90) rfl ?_
                      refine a_iald hX rfl (by decide) (by decide) (by omega) hB dX9_fails_90 (pc' := 91) rfl (fun hb => ?_)
                      refine a_aload_n hX rfl rfl dX9_fails_91 (pc' := 92) rfl ?_
                      refine a_getfR hX (r := 12) fl_X9_28 rfl (by decide) rfl dX9_fails_92 (pc' := 95) rfl ?_
                      refine a_getfI hX (ji := 6) rfl hB fl_X9_195 rfl (by decide) rfl dX9_fails_95 (pc' := 98) rfl (fun hb => ?_)
                      refine a_iload hX rfl dX9_fails_98 (pc' := 100) rfl ?_
                      refine a_iadd hX dX9_fails_100 (pc' := 101) rfl ?_
                      refine a_cV2i hX cv_X9_278 (c_drift (by have := fPk hP2 c; omega) (by rw [hz 12 (by omega) (by omega) (by omega)]; omega) hB hP2) rfl (by decide) ⟨by decide, by decide⟩ (Nat.le_of_ble_eq_true rfl) dX9_fails_101 (pc' := 104) rfl ?_
                      refine a_iload hX rfl dX9_fails_104 (pc' := 106) rfl ?_
                      refine a_cV2V hX cv_X9_281 (c_chDay hdr hx9 ⟨Int.le_of_lt (cTen hi.1 (by omega)).1, (cTen hi.1 (by omega)).2⟩ hww (by rw [hw2]; exact ⟨Int.le_of_lt (cTen hi.1 (by omega)).1, (cTen hi.1 (by omega)).2⟩) hB) rfl (by decide) ⟨by decide, by decide⟩ (Nat.le_of_ble_eq_true rfl) dX9_fails_106 (pc' := 109) rfl (fun Z106 Y106 h106 => ?_)
                      obtain ⟨w1, w2, w3, hB, rfl⟩ := h106
                      refine a_iinc6 hX (by decide) rfl dX9_fails_109 (pc' := 112) rfl ?_
                      refine a_goto hX dX9_fails_112 (tgt := 68) (by decide) ?_
                      refine ih (i + 1) Z106 (by omega) hB ?_ (fun b hb9 => ?_) (fun a h1 h2 h3 => by rw [w3 a h1 h2 h3]; exact hz a h1 h2 h3) (by omega)
                      · rw [w2, hw2, show (i + 1).toNat = i.toNat + 1 by omega, Int.pow_succ]
                      · rw [w1 b hb9, cW_s (by omega), hw b hb9, hw _ (by omega), eP2, hz 7 (by omega) (by omega) (by omega), hz 12 (by omega) (by omega) (by omega), vS_15]
                        rfl
                refine L68 (n.toNat + 1) 0 Z62 (by omega) hB u2 (fun b hb9 => ?_) (fun a h1 h2 _ => u3 a h1 h2) (by omega)
                rw [u1 b hb9]
                show _ = if b = vS Z 12 c then 1 else 0
                rw [vS_yd (c := c) (by omega)]
              · refine a_bipush hX rfl dX9_fails_46 (pc' := 48) rfl ?_
                refine a_iret hX dX9_fails_48 (hE _ _ _ ?_)
                exact ⟨_, rfl, by rw [if_pos ⟨c8, by omega⟩, if_neg (by omega)], fun _ _ _ _ => rfl, hB, rfl⟩
      · refine a_iconst hX dX9_fails_21 (pc' := 22) rfl ?_
        refine a_iret hX dX9_fails_22 (hE _ _ _ ?_)
        first
          | exact ⟨_, rfl, by rw [if_neg (fun q => absurd (q.1.symm.trans c8) (by decide))], fun _ _ _ _ => rfl, hB, rfl⟩
          | exact ⟨_, rfl, by rw [if_neg (by omega)], fun _ _ _ _ => rfl, hB, rfl⟩

theorem fPop {n s : Int} (hn : 0 ≤ n ∧ n ≤ 6) (hs : 0 ≤ s ∧ s < 2 ^ n.toNat) : 0 ≤ aPop s ∧ aPop s ≤ n := by
  obtain ⟨n, rfl⟩ := Int.eq_ofNat_of_zero_le hn.1
  obtain ⟨s, rfl⟩ := Int.eq_ofNat_of_zero_le hs.1
  have : ∀ n : Nat, n ≤ 6 → ∀ s : Nat, s < 2 ^ n → 0 ≤ aPop (s : Int) ∧ aPop (s : Int) ≤ (n : Int) := by decide +kernel
  refine this n (by omega) s ?_
  have h := hs.2
  rw [Int.toNat_natCast, ← f2n] at h
  omega
theorem aTwo6 {n : Int} (h : 0 ≤ n ∧ n ≤ 6) : (0 : Int) < 2 ^ n.toNat ∧ (2 : Int) ^ n.toNat ≤ 64 := by
  have : ∀ n : Nat, n ≤ 6 → (0 : Int) < 2 ^ n ∧ (2 : Int) ^ n ≤ 64 := by decide
  exact this _ (by omega)
theorem fSt_s {P : aP} {S : aSk} {s i : Int} (h : 0 ≤ i) : fSt P S s (i + 1).toNat = dPass P (fSt P S s i.toNat) (!aBit s i) := by
  rw [show (i + 1).toNat = i.toNat + 1 by omega]
  show dPass P (fSt P S s i.toNat) (!aBit s (i.toNat : Int)) = _
  rw [Int.toNat_of_nonneg h]
theorem okS_st {P : aP} {S : aSk} (hP : okP P) (h : okS P S) (s : Int) : ∀ n : Nat, okS P (fSt P S s n)
  | 0 => h
  | n + 1 => okS_pass hP (okS_st hP h s n) _

set_option maxHeartbeats 4000000 in
set_option maxRecDepth 100000 in
theorem q_fails {G : aG} {Z : aZ} {Y : aY} {c y n x : Int} {u : Bool} (hc : -2147483648 ≤ c ∧ c < 2147483648) (hy : -2147483648 ≤ y ∧ y < 2147483648) (hn : -2147483648 ≤ n ∧ n < 2147483648) (hx : -2147483648 ≤ x ∧ x < 2147483648) (hd4 : Z 69 15 ≤ 4000) (hB : aB Z) (hP : okP (vQ Z)) (hS : okS (vQ Z) (vR Z 0)) (hd : Z 69 15 ≤ 5000) : aSI G yX10_fails cX10_fails 11 (some .int) 3 73 [.ref (G.1 62), .int (aI c), .int (aI y), .int (aI n), .int (aI x), .int (aI (aTr u))] Z Y (fun r Z' Y' => r = (if pHasC (vQ Z) c = true ∧ 0 ≤ y ∧ y < 6 then (if (1 ≤ n ∧ n ≤ 6) ∧ 0 ≤ x ∧ x ≤ 10 then sFrac (cW (vQ Z) (vQ Z 4 c) (vR Z 0 15) (vR Z 0 c) x n.toNat y) (10 ^ n.toNat) u else -2) else -1) ∧ qTr Z Z' ∧ aB Z' ∧ Y' = Y) := by
  refine aS.of (own := RX10) (by decide +kernel) rfl 5 (Nat.le_of_ble_eq_true rfl) (fun X hX hE => ?_)
  show AW X G 0 [some (.ref (G.1 62)), some (.int (aI c)), some (.int (aI y)), some (.int (aI n)), some (.int (aI x)), some (.int (aI (aTr u))), none, none, none, none, none] [] Z Y
  have hfQ := fQ hP
  have hfR := fR hS
  have hfR1 : 0 ≤ Z 69 15 := hfR.2.2
  have hfR2 : 0 ≤ Z 69 13 ∧ Z 69 13 < 32 := hfR.1
  refine a_aload_n hX rfl rfl dX10_fails_0 (pc' := 1) rfl ?_
  refine a_iload_n hX rfl rfl dX10_fails_1 (pc' := 2) rfl ?_
  refine a_cV1i hX cv_X10_118 (q_isCloud (by omega) hB hP) rfl (by decide) ⟨by decide, by decide⟩ (Nat.le_of_ble_eq_true rfl) dX10_fails_2 (pc' := 5) rfl ?_
  refine a_ifb_eq hX dX10_fails_5 (pc' := 8) rfl (tgt := 20) (by decide) (fun c5 => ?_) (fun c5 => ?_)
  · refine a_iconst hX dX10_fails_20 (pc' := 21) rfl ?_
    refine a_iret hX dX10_fails_21 (hE _ _ _ ?_)
    first
      | exact ⟨_, rfl, by rw [if_neg (fun q => absurd (q.1.symm.trans c5) (by decide))], qTr.rf, hB, rfl⟩
      | exact ⟨_, rfl, by rw [if_neg (by omega)], qTr.rf, hB, rfl⟩
  · have hc1 := qHasC_no c5
    refine a_iload_n hX rfl rfl dX10_fails_8 (pc' := 9) rfl ?_
    refine a_i2l hX (by omega) dX10_fails_9 (pc' := 10) rfl ?_
    refine a_lconst hX (v := 0) rfl dX10_fails_10 (pc' := 11) rfl ?_
    refine a_ldc2J hX (z := 5) w_1094 (by decide) dX10_fails_11 (pc' := 14) rfl ?_
    refine a_cS3i hX cs_X10_68 (q_in (by omega) (by omega) (by omega)) ⟨by decide, by decide⟩ (Nat.le_of_ble_eq_true rfl) dX10_fails_14 (pc' := 17) rfl ?_
    refine a_ifb_ne hX dX10_fails_17 (pc' := 20) rfl (tgt := 22) (by decide) (fun c17 => ?_) (fun c17 => ?_)
    · have c17 := of_decide_eq_true c17
      refine a_iload_n hX rfl rfl dX10_fails_22 (pc' := 23) rfl ?_
      refine a_i2l hX (by omega) dX10_fails_23 (pc' := 24) rfl ?_
      refine a_lconst hX (v := 1) rfl dX10_fails_24 (pc' := 25) rfl ?_
      refine a_ldc2J hX (z := 6) w_1146 (by decide) dX10_fails_25 (pc' := 28) rfl ?_
      refine a_cS3i hX cs_X10_68 (q_in (by omega) (by omega) (by omega)) ⟨by decide, by decide⟩ (Nat.le_of_ble_eq_true rfl) dX10_fails_28 (pc' := 31) rfl ?_
      refine a_ifb_eq hX dX10_fails_31 (pc' := 34) rfl (tgt := 47) (by decide) (fun c31 => ?_) (fun c31 => ?_)
      · have c31 := of_decide_eq_false c31
        refine a_bipush hX rfl dX10_fails_47 (pc' := 49) rfl ?_
        refine a_iret hX dX10_fails_49 (hE _ _ _ ?_)
        exact ⟨_, rfl, by rw [if_pos ⟨c5, by omega⟩, if_neg (by omega)], qTr.rf, hB, rfl⟩
      · have c31 := of_decide_eq_true c31
        refine a_iload hX rfl dX10_fails_34 (pc' := 36) rfl ?_
        refine a_i2l hX (by omega) dX10_fails_36 (pc' := 37) rfl ?_
        refine a_lconst hX (v := 0) rfl dX10_fails_37 (pc' := 38) rfl ?_
        refine a_ldc2J hX (z := 10) w_1147 (by decide) dX10_fails_38 (pc' := 41) rfl ?_
        refine a_cS3i hX cs_X10_68 (q_in (by omega) (by omega) (by omega)) ⟨by decide, by decide⟩ (Nat.le_of_ble_eq_true rfl) dX10_fails_41 (pc' := 44) rfl ?_
        refine a_ifb_ne hX dX10_fails_44 (pc' := 47) rfl (tgt := 50) (by decide) (fun c44 => ?_) (fun c44 => ?_)
        · have c44 := of_decide_eq_true c44
          have htw := aTwo6 (n := n) (by omega)
          refine a_iconst hX dX10_fails_50 (pc' := 51) rfl ?_
          refine a_istore6 hX (by decide) rfl dX10_fails_51 (pc' := 53) rfl ?_
          refine a_iconst hX dX10_fails_53 (pc' := 54) rfl ?_
          refine a_istore7 hX (by decide) rfl dX10_fails_54 (pc' := 56) rfl ?_
          refine a_iconst hX dX10_fails_56 (pc' := 57) rfl ?_
          refine a_istore8 hX (by decide) rfl dX10_fails_57 (pc' := 59) rfl ?_
          have L59 : ∀ (k : Nat) (s : Int) (Z1 : aZ), (0 ≤ s ∧ s ≤ 2 ^ n.toNat) → aB Z1 → qTr Z Z1 → (2 ^ n.toNat - s).toNat < k → AW X G 59 [some (.ref (G.1 62)), some (.int (aI c)), some (.int (aI y)), some (.int (aI n)), some (.int (aI x)), some (.int (aI (aTr u))), some (.int (aI (aSum (fun s => if fSt (vQ Z) (vR Z 0) s n.toNat c = y then fWt n.toNat x s else 0) s.toNat))), some (.int (aI (aSum (fun s => fWt n.toNat x s) s.toNat))), some (.int (aI s)), none, none] [] Z1 Y := by
            intro k
            induction k with
            | zero =>
              intro s Z1 hs hB t1 hn
              omega
            | succ k ih =>
              intro s Z1 hs hB t1 hn
              refine a_iload hX rfl dX10_fails_59 (pc' := 61) rfl ?_
              refine a_iconst hX dX10_fails_61 (pc' := 62) rfl ?_
              refine a_iload_n hX rfl rfl dX10_fails_62 (pc' := 63) rfl ?_
              refine a_ishl hX (by omega) (by omega) (by omega) dX10_fails_63 (pc' := 64) rfl ?_
              refine a_icmp_ge hX (by omega) (by omega) dX10_fails_64 (pc' := 67) rfl (tgt := 172) (by decide) (fun c64 => ?_) (fun c64 => ?_)
              · rw [aTwo] at c64
                obtain rfl : s = 2 ^ n.toNat := by omega
                have e2n : ((2 : Int) ^ n.toNat).toNat = 2 ^ n.toNat := by rw [← f2n, Int.toNat_natCast]
                have eA : aSum (fun s => if fSt (vQ Z) (vR Z 0) s n.toNat c = y then fWt n.toNat x s else 0) ((2 : Int) ^ n.toNat).toNat = cW (vQ Z) (vQ Z 4 c) (vR Z 0 15) (vR Z 0 c) x n.toNat y := by
                  rw [e2n]
                  exact fAb_eq (by rw [vQ_1]; omega) (by rw [vQ_1]; omega) (hS.1 c (by omega)) n.toNat y (by omega) (by omega)
                have eB : aSum (fun s => fWt n.toNat x s) ((2 : Int) ^ n.toNat).toNat = 10 ^ n.toNat := by
                  rw [e2n]
                  exact fBl_eq x n.toNat (by omega)
                have hA := cW_rng (P := vQ Z) (k := vQ Z 4 c) (d0 := vR Z 0 15) (y0 := vR Z 0 c) (x := x) (by omega) n.toNat y
                have hB9 := cTen (i := n) (by omega) (by omega)
                refine a_iload hX rfl dX10_fails_172 (pc' := 174) rfl ?_
                refine a_iload hX rfl dX10_fails_174 (pc' := 176) rfl ?_
                refine a_cS2i hX cs_X10_235 (q_common (by rw [eA]; omega) (by rw [eB]; omega)) ⟨by decide, by decide⟩ (Nat.le_of_ble_eq_true rfl) dX10_fails_176 (pc' := 179) rfl ?_
                rw [eA, eB]
                have hg := aGcd_pos (a := cW (vQ Z) (vQ Z 4 c) (vR Z 0 15) (vR Z 0 c) x n.toNat y) (b := 10 ^ n.toNat) (by omega)
                have hg2 := aGcd_le (a := cW (vQ Z) (vQ Z 4 c) (vR Z 0 15) (vR Z 0 c) x n.toNat y) (b := 10 ^ n.toNat) (by omega)
                refine a_istore8 hX (by decide) rfl dX10_fails_179 (pc' := 181) rfl ?_
                refine a_iload hX rfl dX10_fails_181 (pc' := 183) rfl ?_
                refine a_ifb_eq hX dX10_fails_183 (pc' := 186) rfl (tgt := 194) (by decide) (fun c183 => ?_) (fun c183 => ?_)
                · refine a_iload hX rfl dX10_fails_194 (pc' := 196) rfl ?_
                  refine a_iload hX rfl dX10_fails_196 (pc' := 198) rfl ?_
                  refine a_idiv hX (by omega) (by omega) dX10_fails_198 (pc' := 199) rfl ?_
                  refine a_iret hX dX10_fails_199 (hE _ _ _ ?_)
                  refine ⟨_, rfl, ?_, t1, hB, rfl⟩
                  rw [if_pos ⟨c5, by omega⟩, if_pos (by omega)]
                  unfold sFrac
                  first | rw [if_pos c183] | rw [if_neg (by rw [c183]; decide)]
                · refine a_iload hX rfl dX10_fails_186 (pc' := 188) rfl ?_
                  refine a_iload hX rfl dX10_fails_188 (pc' := 190) rfl ?_
                  refine a_idiv hX (by omega) (by omega) dX10_fails_190 (pc' := 191) rfl ?_
                  refine a_goto hX dX10_fails_191 (tgt := 199) (by decide) ?_
                  refine a_iret hX dX10_fails_199 (hE _ _ _ ?_)
                  refine ⟨_, rfl, ?_, t1, hB, rfl⟩
                  rw [if_pos ⟨c5, by omega⟩, if_pos (by omega)]
                  unfold sFrac
                  first | rw [if_pos c183] | rw [if_neg (by rw [c183]; decide)]
              · rw [aTwo] at c64
                have hpp := fPop (n := n) (s := s) (by omega) (by omega)
                refine a_iload hX rfl dX10_fails_67 (pc' := 69) rfl ?_
                refine a_iload hX rfl dX10_fails_69 (pc' := 71) rfl ?_
                refine a_cS1i hX cs_X10_226 (q_ones (by omega)) ⟨by decide, by decide⟩ (Nat.le_of_ble_eq_true rfl) dX10_fails_71 (pc' := 74) rfl ?_
                refine a_cS2i hX cs_X10_200 (q_power (by omega)) ⟨by decide, by decide⟩ (Nat.le_of_ble_eq_true rfl) dX10_fails_74 (pc' := 77) rfl ?_
                refine a_bipush hX rfl dX10_fails_77 (pc' := 79) rfl ?_
                refine a_iload hX rfl dX10_fails_79 (pc' := 81) rfl ?_
                refine a_isub hX dX10_fails_81 (pc' := 82) rfl ?_
                refine a_iload_n hX rfl rfl dX10_fails_82 (pc' := 83) rfl ?_
                refine a_iload hX rfl dX10_fails_83 (pc' := 85) rfl ?_
                refine a_cS1i hX cs_X10_226 (q_ones (by omega)) ⟨by decide, by decide⟩ (Nat.le_of_ble_eq_true rfl) dX10_fails_85 (pc' := 88) rfl ?_
                refine a_isub hX dX10_fails_88 (pc' := 89) rfl ?_
                refine a_cS2i hX cs_X10_200 (q_power (by omega)) ⟨by decide, by decide⟩ (Nat.le_of_ble_eq_true rfl) dX10_fails_89 (pc' := 92) rfl ?_
                refine a_imul hX dX10_fails_92 (pc' := 93) rfl ?_
                have eW : x ^ (aPop s).toNat * (10 - x) ^ (n - aPop s).toNat = fWt n.toNat x s := by
                  unfold fWt
                  rw [Int.toNat_of_nonneg (show 0 ≤ n by omega)]
                rw [eW]
                refine a_istore9 hX (by decide) rfl dX10_fails_93 (pc' := 95) rfl ?_
                refine a_aload_n hX rfl rfl dX10_fails_95 (pc' := 96) rfl ?_
                refine a_cV0V hX cv_X10_191 (q_layTrial hB) rfl (by decide) ⟨by decide, by decide⟩ (Nat.le_of_ble_eq_true rfl) dX10_fails_96 (pc' := 99) rfl (fun Z96 Y96 h96 => ?_)
                obtain ⟨u1, u2, u3, hB, rfl⟩ := h96
                rw [t1.R0] at u1
                have t96 : qTr Z Z96 := t1.tr ⟨u3, fun j hj => by rw [u2, if_neg (by omega)]⟩
                have eP96 := t96.P
                have hP96 : okP (vQ Z96) := by rw [eP96]; exact hP
                have hd96 : Z96 69 31 ≤ 4000 := by rw [u2, if_pos (by omega), t1.2 (31 - 16) (by omega)]; exact hd4
                refine a_iconst hX dX10_fails_99 (pc' := 100) rfl ?_
                refine a_istore10 hX (by decide) rfl dX10_fails_100 (pc' := 102) rfl ?_
                have L102 : ∀ (m : Nat) (i : Int) (Z2 : aZ), (0 ≤ i ∧ i ≤ n) → rSp Z96 Y96 1 (fSt (vQ Z) (vR Z 0) s i.toNat) Z2 Y96 → (n - i).toNat < m → AW X G 102 [some (.ref (G.1 62)), some (.int (aI c)), some (.int (aI y)), some (.int (aI n)), some (.int (aI x)), some (.int (aI (aTr u))), some (.int (aI (aSum (fun s => if fSt (vQ Z) (vR Z 0) s n.toNat c = y then fWt n.toNat x s else 0) s.toNat))), some (.int (aI (aSum (fun s => fWt n.toNat x s) s.toNat))), some (.int (aI s)), some (.int (aI (fWt n.toNat x s))), some (.int (aI i))] [] Z2 Y96 := by
                  intro m
                  induction m with
                  | zero =>
                    intro i Z2 hi hz2 hm
                    omega
                  | succ m ih2 =>
                    intro i Z2 hi hz2 hm
                    have t2 : qTr Z Z2 := t96.tr ⟨hz2.2.2.1, fun j hj => hz2.2.2.2.1 j (by omega)⟩
                    have eP2 := t2.P
                    have hB := hz2.2.2.2.2.1
                    have hP2 : okP (vQ Z2) := by rw [eP2]; exact hP
                    have hS2 : okS (vQ Z2) (vR Z2 1) := by rw [hz2.1, eP2]; exact okS_st hP hS s i.toNat
                    have hd2 : Z2 69 (16 * 1 + 15) ≤ 4006 := by
                      have e1 := congrFun hz2.1 15
                      rw [fSt_15, vR_hi (by omega), vR_hi (by omega)] at e1
                      have e3 : Z 69 (16 * 0 + 15) = Z 69 15 := rfl
                      omega
                    refine a_iload hX rfl dX10_fails_102 (pc' := 104) rfl ?_
                    refine a_iload_n hX rfl rfl dX10_fails_104 (pc' := 105) rfl ?_
                    refine a_icmp_ge hX (by omega) (by omega) dX10_fails_105 (pc' := 108) rfl (tgt := 135) (by decide) (fun c105 => ?_) (fun c105 => ?_)
                    · refine a_iload hX rfl dX10_fails_135 (pc' := 137) rfl ?_
                      refine a_iload hX rfl dX10_fails_137 (pc' := 139) rfl ?_
                      refine a_iadd hX dX10_fails_139 (pc' := 140) rfl ?_
                      refine a_istore7 hX (by decide) rfl dX10_fails_140 (pc' := 142) rfl ?_
                      obtain rfl : i = n := by omega
                      have e153 : Z2 69 (16 * 1 + c) = fSt (vQ Z) (vR Z 0) s i.toNat c := by
                        rw [← vR_yd (Z := Z2) (l := 1) (c := c) (by rw [hz2.2.2.1 62 (by decide), t96.1 62 (by decide)]; omega), hz2.1]
                      have hr := fSt_rng (P := vQ Z) (S := vR Z 0) (s := s) (c := c) (by rw [vQ_1]; omega) (by rw [vQ_1]; omega) (hS.1 c (by omega)) i.toNat
                      refine a_iload hX rfl dX10_fails_142 (pc' := 144) rfl ?_
                      refine a_aload_n hX rfl rfl dX10_fails_144 (pc' := 145) rfl ?_
                      refine a_getfR hX (r := 69) fl_X10_28 rfl (by decide) rfl dX10_fails_145 (pc' := 148) rfl ?_
                      refine a_bipush hX rfl dX10_fails_148 (pc' := 150) rfl ?_
                      refine a_iload_n hX rfl rfl dX10_fails_150 (pc' := 151) rfl ?_
                      refine a_iadd hX dX10_fails_151 (pc' := 152) rfl ?_
                      refine a_iald hX rfl (by decide) (by decide) (by omega) hB dX10_fails_152 (pc' := 153) rfl (fun hb => ?_)
                      rw [show 16 + c = 16 * 1 + c by omega, e153]
                      refine a_iload_n hX rfl rfl dX10_fails_153 (pc' := 154) rfl ?_
                      refine a_icmp_ne hX (by omega) (by omega) dX10_fails_154 (pc' := 157) rfl (tgt := 162) (by decide) (fun c154 => ?_) (fun c154 => ?_)
                      · refine a_iconst hX dX10_fails_162 (pc' := 163) rfl ?_
                        refine a_iadd hX dX10_fails_163 (pc' := 164) rfl ?_
                        refine a_istore6 hX (by decide) rfl dX10_fails_164 (pc' := 166) rfl ?_
                        refine a_iinc8 hX (by decide) rfl dX10_fails_166 (pc' := 169) rfl ?_
                        refine a_goto hX dX10_fails_169 (tgt := 59) (by decide) ?_
                        have H := ih (s + 1) Z2 (by omega) hB t2 (by omega)
                        rw [aSum_s (by omega), aSum_s (by omega)] at H
                        first | rw [if_pos c154] at H | rw [if_neg c154] at H
                        refine AW.le ?_ H
                        exact ⟨rfl, rfl, rfl, rfl, rfl, rfl, rfl, rfl, rfl, trivial⟩
                      · refine a_iload hX rfl dX10_fails_157 (pc' := 159) rfl ?_
                        refine a_goto hX dX10_fails_159 (tgt := 163) (by decide) ?_
                        refine a_iadd hX dX10_fails_163 (pc' := 164) rfl ?_
                        refine a_istore6 hX (by decide) rfl dX10_fails_164 (pc' := 166) rfl ?_
                        refine a_iinc8 hX (by decide) rfl dX10_fails_166 (pc' := 169) rfl ?_
                        refine a_goto hX dX10_fails_169 (tgt := 59) (by decide) ?_
                        have H := ih (s + 1) Z2 (by omega) hB t2 (by omega)
                        rw [aSum_s (by omega), aSum_s (by omega)] at H
                        first | rw [if_pos c154] at H | rw [if_neg c154] at H
                        refine AW.le ?_ H
                        exact ⟨rfl, rfl, rfl, rfl, rfl, rfl, rfl, rfl, rfl, trivial⟩
                    · have J125 : ∀ (g : Bool), g = (!aBit s i) → AW X G 125 [some (.ref (G.1 62)), some (.int (aI c)), some (.int (aI y)), some (.int (aI n)), some (.int (aI x)), some (.int (aI (aTr u))), some (.int (aI (aSum (fun s => if fSt (vQ Z) (vR Z 0) s n.toNat c = y then fWt n.toNat x s else 0) s.toNat))), some (.int (aI (aSum (fun s => fWt n.toNat x s) s.toNat))), some (.int (aI s)), some (.int (aI (fWt n.toNat x s))), some (.int (aI i))] [.int (aI (aTr g)), .int (aI 1), .ref (G.1 62)] Z2 Y96 := by
                        intro g hg
                        refine a_cV2I hX cv_X10_173 (q_passOn (b := g) (by omega) hB hP2 hS2 (show Z2 69 (16 * 1 + 15) ≤ 5000 by omega)) rfl (by decide) ⟨by decide, by decide⟩ (Nat.le_of_ble_eq_true rfl) dX10_fails_125 (pc' := 128) rfl (fun x125 Z125 Y125 h125 => ?_)
                        obtain ⟨-, g125⟩ := h125
                        rw [eP2, hz2.1, hg] at g125
                        refine a_pop hX rfl dX10_fails_128 (pc' := 129) rfl ?_
                        refine a_iinc10 hX (by decide) rfl dX10_fails_129 (pc' := 132) rfl ?_
                        refine a_goto hX dX10_fails_132 (tgt := 102) (by decide) ?_
                        obtain ⟨g1, g2, g3, g4, g5, g6⟩ := g125
                        rw [g6]
                        refine ih2 (i + 1) Z125 (by omega) ?_ (by omega)
                        refine ⟨by rw [g1, fSt_s hi.1], ?_, fun a ha => by rw [g3 a ha, hz2.2.2.1 a ha], fun j hj => by rw [g4 j hj, hz2.2.2.2.1 j hj], g5, rfl⟩
                        rw [eP96, fSt_s hi.1]
                        rw [eP2] at g2
                        exact g2
                      refine a_aload_n hX rfl rfl dX10_fails_108 (pc' := 109) rfl ?_
                      refine a_iconst hX dX10_fails_109 (pc' := 110) rfl ?_
                      refine a_iload hX rfl dX10_fails_110 (pc' := 112) rfl ?_
                      refine a_iload hX rfl dX10_fails_112 (pc' := 114) rfl ?_
                      refine a_cS2i hX cs_X10_114 (q_has (by omega) (by omega)) ⟨by decide, by decide⟩ (Nat.le_of_ble_eq_true rfl) dX10_fails_114 (pc' := 117) rfl ?_
                      refine a_ifb_ne hX dX10_fails_117 (pc' := 120) rfl (tgt := 124) (by decide) (fun c117 => ?_) (fun c117 => ?_)
                      · refine a_iconst hX dX10_fails_124 (pc' := 125) rfl ?_
                        first
                          | exact J125 true (by rw [c117]; rfl)
                          | exact J125 false (by rw [c117]; rfl)
                      · refine a_iconst hX dX10_fails_120 (pc' := 121) rfl ?_
                        refine a_goto hX dX10_fails_121 (tgt := 125) (by decide) ?_
                        first
                          | exact J125 true (by rw [c117]; rfl)
                          | exact J125 false (by rw [c117]; rfl)
                exact L102 8 0 Z96 (by omega) ⟨by rw [u1]; rfl, okS_st hP96 (by rw [eP96]; exact hS) s 0, fun _ _ => rfl, fun _ _ => rfl, hB, rfl⟩ (by omega)
          exact L59 65 0 Z (by omega) hB qTr.rf (by omega)
        · have c44 := of_decide_eq_false c44
          refine a_bipush hX rfl dX10_fails_47 (pc' := 49) rfl ?_
          refine a_iret hX dX10_fails_49 (hE _ _ _ ?_)
          exact ⟨_, rfl, by rw [if_pos ⟨c5, by omega⟩, if_neg (by omega)], qTr.rf, hB, rfl⟩
    · have c17 := of_decide_eq_false c17
      refine a_iconst hX dX10_fails_20 (pc' := 21) rfl ?_
      refine a_iret hX dX10_fails_21 (hE _ _ _ ?_)
      first
        | exact ⟨_, rfl, by rw [if_neg (fun q => absurd (q.1.symm.trans c5) (by decide))], qTr.rf, hB, rfl⟩
        | exact ⟨_, rfl, by rw [if_neg (by omega)], qTr.rf, hB, rfl⟩

theorem qTr.P {Z Z' : aZ} (h : qTr Z Z') : vQ Z' = vQ Z := vQ_eq (fun a ha => h.1 a (by omega))
theorem qTr.R0 {Z Z' : aZ} (h : qTr Z Z') : vR Z' 0 = vR Z 0 := by
  funext j
  unfold vR
  rw [h.1 62 (by decide)]
  by_cases a1 : j < 16
  · rw [h.2 (16 * 0 + j) (by omega)]
  · by_cases a0 : j < 0
    · omega
    · simp only [if_neg a0, if_neg (show ¬ j < 4 by omega), if_neg (show ¬ j < 8 by omega), if_neg a1]
theorem qTr.tr {Z Z1 Z2 : aZ} (h : qTr Z Z1) (g : qTr Z1 Z2) : qTr Z Z2 := ⟨fun a ha => (g.1 a ha).trans (h.1 a ha), fun j hj => (g.2 j hj).trans (h.2 j hj)⟩
theorem qTr.rf {Z : aZ} : qTr Z Z := ⟨fun _ _ => rfl, fun _ _ => rfl⟩

set_option maxHeartbeats 4000000 in
set_option maxRecDepth 100000 in
theorem q_isRest {G : aG} {Z : aZ} {Y : aY} {a b i j : Int} (hab : a ≠ b) (ha : 0 ≤ a ∧ a < Z 62 1) (hb1 : 0 ≤ b ∧ b < Z 62 1) (hi : 0 ≤ i ∧ i < 3) (hj : 0 ≤ j ∧ j < 3) (hd4 : Z 69 15 ≤ 4000) (hB : aB Z) (hP : okP (vQ Z)) (hS : okS (vQ Z) (vR Z 0)) (hd : Z 69 15 ≤ 5000) : aSI G yX10_isRest cX10_isRest 7 (some .boolean) 5 120 [.ref (G.1 62), .int (aI a), .int (aI b), .int (aI i), .int (aI j)] Z Y (fun x Z' Y' => x = aTr (sRest (vQ Z) (vR Z 0) a b i j) ∧ qTr Z Z' ∧ aB Z' ∧ Y' = Y) := by
  refine aS.of (own := RX10) (by decide +kernel) rfl 2 (Nat.le_of_ble_eq_true rfl) (fun X hX hE => ?_)
  show AW X G 0 [some (.ref (G.1 62)), some (.int (aI a)), some (.int (aI b)), some (.int (aI i)), some (.int (aI j)), none, none] [] Z Y
  have hfQ := fQ hP
  have hfR := fR hS
  have hfR1 : 0 ≤ Z 69 15 := hfR.2.2
  have hfR2 : 0 ≤ Z 69 13 ∧ Z 69 13 < 32 := hfR.1
  refine a_iconst hX dX10_isRest_0 (pc' := 1) rfl ?_
  refine a_istore5 hX (by decide) rfl dX10_isRest_1 (pc' := 3) rfl ?_
  refine a_iconst hX dX10_isRest_3 (pc' := 4) rfl ?_
  refine a_istore6 hX (by decide) rfl dX10_isRest_4 (pc' := 6) rfl ?_
  have L6 : ∀ (n : Nat) (k : Int) (Z1 : aZ), (0 ≤ k ∧ k ≤ 3) → aB Z1 → qTr Z Z1 → (3 - k).toNat < n → AW X G 6 [some (.ref (G.1 62)), some (.int (aI a)), some (.int (aI b)), some (.int (aI i)), some (.int (aI j)), some (.int (aI (aTr (rOkN (rAt (vR Z 0) a) (rAt (vR Z 0) b) (rAl (vQ Z) (vR Z 0) a) (rAl (vQ Z) (vR Z 0) b) i j k.toNat)))), some (.int (aI k))] [] Z1 Y := by
    intro n
    induction n with
    | zero =>
      intro k Z1 hk hB t1 hn
      omega
    | succ n ih =>
      intro k Z1 hk hB t1 hn
      have eP1 : vQ Z1 = vQ Z := t1.P
      have eR1 : vR Z1 0 = vR Z 0 := t1.R0
      have hP1 : okP (vQ Z1) := by rw [eP1]; exact hP
      have hS1 : okS (vQ Z1) (vR Z1 0) := by rw [eP1, eR1]; exact hS
      have hd41 : Z1 69 15 ≤ 4000 := by rw [t1.2 15 (by omega)]; exact hd4
      have hd1 : Z1 69 15 ≤ 5000 := by omega
      have f1 : Z1 62 1 = Z 62 1 := by rw [t1.1 62 (by decide)]
      refine a_iload hX rfl dX10_isRest_6 (pc' := 8) rfl ?_
      refine a_iconst hX dX10_isRest_8 (pc' := 9) rfl ?_
      refine a_icmp_ge hX (by omega) (by omega) dX10_isRest_9 (pc' := 12) rfl (tgt := 73) (by decide) (fun c9 => ?_) (fun c9 => ?_)
      · refine a_iload hX rfl dX10_isRest_73 (pc' := 75) rfl ?_
        refine a_zret hX (aTr_01 _) dX10_isRest_75 (hE _ _ _ ?_)
        obtain rfl : k = 3 := by omega
        exact ⟨_, rfl, rfl, t1, hB, rfl⟩
      · refine a_iload hX rfl dX10_isRest_12 (pc' := 14) rfl ?_
        refine a_ifb_eq hX dX10_isRest_14 (pc' := 17) rfl (tgt := 64) (by decide) (fun c14 => ?_) (fun c14 => ?_)
        · refine a_iconst hX dX10_isRest_64 (pc' := 65) rfl ?_
          refine a_istore5 hX (by decide) rfl dX10_isRest_65 (pc' := 67) rfl ?_
          refine a_iinc6 hX (by decide) rfl dX10_isRest_67 (pc' := 70) rfl ?_
          refine a_goto hX dX10_isRest_70 (tgt := 6) (by decide) ?_
          have eS : (k + 1).toNat = k.toNat + 1 := by omega
          have eN : rOkN (rAt (vR Z 0) a) (rAt (vR Z 0) b) (rAl (vQ Z) (vR Z 0) a) (rAl (vQ Z) (vR Z 0) b) i j (k + 1).toNat = (rOkN (rAt (vR Z 0) a) (rAt (vR Z 0) b) (rAl (vQ Z) (vR Z 0) a) (rAl (vQ Z) (vR Z 0) b) i j k.toNat && decide (rGain (vQ Z) (vR Z 0) a b k j ≤ rGain (vQ Z) (vR Z 0) a b i j ∧ rGain (vQ Z) (vR Z 0) b a k i ≤ rGain (vQ Z) (vR Z 0) b a j i)) := by
            rw [eS, sRest_eq, Int.toNat_of_nonneg hk.1]
          first
            | (have H := ih (k + 1) Z1 (by omega) hB t1 (by omega)
               rw [eN, c14, Bool.false_and] at H
               exact H)
            | (have H := ih (k + 1) Z33 (by omega) hB t33 (by omega)
               rw [eN, c14, Bool.true_and, aTr_neg (by omega)] at H
               exact H)
            | (have H := ih (k + 1) Z54 (by omega) hB t54 (by omega)
               rw [eN, c14, Bool.true_and] at H
               first
                 | (rw [aTr_pos (by omega)] at H; exact H)
                 | (rw [aTr_neg (by omega)] at H; exact H))
        · refine a_aload_n hX rfl rfl dX10_isRest_17 (pc' := 18) rfl ?_
          refine a_iload_n hX rfl rfl dX10_isRest_18 (pc' := 19) rfl ?_
          refine a_iload_n hX rfl rfl dX10_isRest_19 (pc' := 20) rfl ?_
          refine a_iload hX rfl dX10_isRest_20 (pc' := 22) rfl ?_
          refine a_iload hX rfl dX10_isRest_22 (pc' := 24) rfl ?_
          refine a_cV4I hX cv_X10_241 (q_gain hab (by rw [f1]; exact ha) (by rw [f1]; exact hb1) (by omega) (by omega) hd41 hB hP1 hS1 hd1) rfl (by decide) ⟨by decide, by decide⟩ (Nat.le_of_ble_eq_true rfl) dX10_isRest_24 (pc' := 27) rfl (fun x24 Z24 Y24 h24 => ?_)
          obtain ⟨e24, g24, hB, rfl⟩ := h24
          rw [eP1, eR1] at e24
          have t24 : qTr Z Z24 := t1.tr g24
          rw [e24]
          have eP24 : vQ Z24 = vQ Z := t24.P
          have eR24 : vR Z24 0 = vR Z 0 := t24.R0
          have hP24 : okP (vQ Z24) := by rw [eP24]; exact hP
          have hS24 : okS (vQ Z24) (vR Z24 0) := by rw [eP24, eR24]; exact hS
          have hd424 : Z24 69 15 ≤ 4000 := by rw [t24.2 15 (by omega)]; exact hd4
          have hd24 : Z24 69 15 ≤ 5000 := by omega
          have f24 : Z24 62 1 = Z 62 1 := by rw [t24.1 62 (by decide)]
          refine a_aload_n hX rfl rfl dX10_isRest_27 (pc' := 28) rfl ?_
          refine a_iload_n hX rfl rfl dX10_isRest_28 (pc' := 29) rfl ?_
          refine a_iload_n hX rfl rfl dX10_isRest_29 (pc' := 30) rfl ?_
          refine a_iload_n hX rfl rfl dX10_isRest_30 (pc' := 31) rfl ?_
          refine a_iload hX rfl dX10_isRest_31 (pc' := 33) rfl ?_
          refine a_cV4I hX cv_X10_241 (q_gain hab (by rw [f24]; exact ha) (by rw [f24]; exact hb1) (by omega) (by omega) hd424 hB hP24 hS24 hd24) rfl (by decide) ⟨by decide, by decide⟩ (Nat.le_of_ble_eq_true rfl) dX10_isRest_33 (pc' := 36) rfl (fun x33 Z33 Y33 h33 => ?_)
          obtain ⟨e33, g33, hB, rfl⟩ := h33
          rw [eP24, eR24] at e33
          have t33 : qTr Z Z33 := t24.tr g33
          rw [e33]
          have eP33 : vQ Z33 = vQ Z := t33.P
          have eR33 : vR Z33 0 = vR Z 0 := t33.R0
          have hP33 : okP (vQ Z33) := by rw [eP33]; exact hP
          have hS33 : okS (vQ Z33) (vR Z33 0) := by rw [eP33, eR33]; exact hS
          have hd433 : Z33 69 15 ≤ 4000 := by rw [t33.2 15 (by omega)]; exact hd4
          have hd33 : Z33 69 15 ≤ 5000 := by omega
          have f33 : Z33 62 1 = Z 62 1 := by rw [t33.1 62 (by decide)]
          have ra := rGain_rng hP hS (a := a) (by omega) b k j
          have rb := rGain_rng hP hS (a := a) (by omega) b i j
          refine a_icmp_gt hX (by omega) (by omega) dX10_isRest_36 (pc' := 39) rfl (tgt := 64) (by decide) (fun c36 => ?_) (fun c36 => ?_)
          · refine a_iconst hX dX10_isRest_64 (pc' := 65) rfl ?_
            refine a_istore5 hX (by decide) rfl dX10_isRest_65 (pc' := 67) rfl ?_
            refine a_iinc6 hX (by decide) rfl dX10_isRest_67 (pc' := 70) rfl ?_
            refine a_goto hX dX10_isRest_70 (tgt := 6) (by decide) ?_
            have eS : (k + 1).toNat = k.toNat + 1 := by omega
            have eN : rOkN (rAt (vR Z 0) a) (rAt (vR Z 0) b) (rAl (vQ Z) (vR Z 0) a) (rAl (vQ Z) (vR Z 0) b) i j (k + 1).toNat = (rOkN (rAt (vR Z 0) a) (rAt (vR Z 0) b) (rAl (vQ Z) (vR Z 0) a) (rAl (vQ Z) (vR Z 0) b) i j k.toNat && decide (rGain (vQ Z) (vR Z 0) a b k j ≤ rGain (vQ Z) (vR Z 0) a b i j ∧ rGain (vQ Z) (vR Z 0) b a k i ≤ rGain (vQ Z) (vR Z 0) b a j i)) := by
              rw [eS, sRest_eq, Int.toNat_of_nonneg hk.1]
            first
              | (have H := ih (k + 1) Z1 (by omega) hB t1 (by omega)
                 rw [eN, c14, Bool.false_and] at H
                 exact H)
              | (have H := ih (k + 1) Z33 (by omega) hB t33 (by omega)
                 rw [eN, c14, Bool.true_and, aTr_neg (by omega)] at H
                 exact H)
              | (have H := ih (k + 1) Z54 (by omega) hB t54 (by omega)
                 rw [eN, c14, Bool.true_and] at H
                 first
                   | (rw [aTr_pos (by omega)] at H; exact H)
                   | (rw [aTr_neg (by omega)] at H; exact H))
          · refine a_aload_n hX rfl rfl dX10_isRest_39 (pc' := 40) rfl ?_
            refine a_iload_n hX rfl rfl dX10_isRest_40 (pc' := 41) rfl ?_
            refine a_iload_n hX rfl rfl dX10_isRest_41 (pc' := 42) rfl ?_
            refine a_iload hX rfl dX10_isRest_42 (pc' := 44) rfl ?_
            refine a_iload_n hX rfl rfl dX10_isRest_44 (pc' := 45) rfl ?_
            refine a_cV4I hX cv_X10_241 (q_gain (fun q => hab q.symm) (by rw [f33]; exact hb1) (by rw [f33]; exact ha) (by omega) (by omega) hd433 hB hP33 hS33 hd33) rfl (by decide) ⟨by decide, by decide⟩ (Nat.le_of_ble_eq_true rfl) dX10_isRest_45 (pc' := 48) rfl (fun x45 Z45 Y45 h45 => ?_)
            obtain ⟨e45, g45, hB, rfl⟩ := h45
            rw [eP33, eR33] at e45
            have t45 : qTr Z Z45 := t33.tr g45
            rw [e45]
            have eP45 : vQ Z45 = vQ Z := t45.P
            have eR45 : vR Z45 0 = vR Z 0 := t45.R0
            have hP45 : okP (vQ Z45) := by rw [eP45]; exact hP
            have hS45 : okS (vQ Z45) (vR Z45 0) := by rw [eP45, eR45]; exact hS
            have hd445 : Z45 69 15 ≤ 4000 := by rw [t45.2 15 (by omega)]; exact hd4
            have hd45 : Z45 69 15 ≤ 5000 := by omega
            have f45 : Z45 62 1 = Z 62 1 := by rw [t45.1 62 (by decide)]
            refine a_aload_n hX rfl rfl dX10_isRest_48 (pc' := 49) rfl ?_
            refine a_iload_n hX rfl rfl dX10_isRest_49 (pc' := 50) rfl ?_
            refine a_iload_n hX rfl rfl dX10_isRest_50 (pc' := 51) rfl ?_
            refine a_iload hX rfl dX10_isRest_51 (pc' := 53) rfl ?_
            refine a_iload_n hX rfl rfl dX10_isRest_53 (pc' := 54) rfl ?_
            refine a_cV4I hX cv_X10_241 (q_gain (fun q => hab q.symm) (by rw [f45]; exact hb1) (by rw [f45]; exact ha) (by omega) (by omega) hd445 hB hP45 hS45 hd45) rfl (by decide) ⟨by decide, by decide⟩ (Nat.le_of_ble_eq_true rfl) dX10_isRest_54 (pc' := 57) rfl (fun x54 Z54 Y54 h54 => ?_)
            obtain ⟨e54, g54, hB, rfl⟩ := h54
            rw [eP45, eR45] at e54
            have t54 : qTr Z Z54 := t45.tr g54
            rw [e54]
            have eP54 : vQ Z54 = vQ Z := t54.P
            have eR54 : vR Z54 0 = vR Z 0 := t54.R0
            have hP54 : okP (vQ Z54) := by rw [eP54]; exact hP
            have hS54 : okS (vQ Z54) (vR Z54 0) := by rw [eP54, eR54]; exact hS
            have hd454 : Z54 69 15 ≤ 4000 := by rw [t54.2 15 (by omega)]; exact hd4
            have hd54 : Z54 69 15 ≤ 5000 := by omega
            have f54 : Z54 62 1 = Z 62 1 := by rw [t54.1 62 (by decide)]
            have rc := rGain_rng hP hS (a := b) (by omega) a k i
            have rd := rGain_rng hP hS (a := b) (by omega) a j i
            refine a_icmp_gt hX (by omega) (by omega) dX10_isRest_57 (pc' := 60) rfl (tgt := 64) (by decide) (fun c57 => ?_) (fun c57 => ?_)
            · refine a_iconst hX dX10_isRest_64 (pc' := 65) rfl ?_
              refine a_istore5 hX (by decide) rfl dX10_isRest_65 (pc' := 67) rfl ?_
              refine a_iinc6 hX (by decide) rfl dX10_isRest_67 (pc' := 70) rfl ?_
              refine a_goto hX dX10_isRest_70 (tgt := 6) (by decide) ?_
              have eS : (k + 1).toNat = k.toNat + 1 := by omega
              have eN : rOkN (rAt (vR Z 0) a) (rAt (vR Z 0) b) (rAl (vQ Z) (vR Z 0) a) (rAl (vQ Z) (vR Z 0) b) i j (k + 1).toNat = (rOkN (rAt (vR Z 0) a) (rAt (vR Z 0) b) (rAl (vQ Z) (vR Z 0) a) (rAl (vQ Z) (vR Z 0) b) i j k.toNat && decide (rGain (vQ Z) (vR Z 0) a b k j ≤ rGain (vQ Z) (vR Z 0) a b i j ∧ rGain (vQ Z) (vR Z 0) b a k i ≤ rGain (vQ Z) (vR Z 0) b a j i)) := by
                rw [eS, sRest_eq, Int.toNat_of_nonneg hk.1]
              first
                | (have H := ih (k + 1) Z1 (by omega) hB t1 (by omega)
                   rw [eN, c14, Bool.false_and] at H
                   exact H)
                | (have H := ih (k + 1) Z33 (by omega) hB t33 (by omega)
                   rw [eN, c14, Bool.true_and, aTr_neg (by omega)] at H
                   exact H)
                | (have H := ih (k + 1) Z54 (by omega) hB t54 (by omega)
                   rw [eN, c14, Bool.true_and] at H
                   first
                     | (rw [aTr_pos (by omega)] at H; exact H)
                     | (rw [aTr_neg (by omega)] at H; exact H))
            · refine a_iconst hX dX10_isRest_60 (pc' := 61) rfl ?_
              refine a_goto hX dX10_isRest_61 (tgt := 65) (by decide) ?_
              refine a_istore5 hX (by decide) rfl dX10_isRest_65 (pc' := 67) rfl ?_
              refine a_iinc6 hX (by decide) rfl dX10_isRest_67 (pc' := 70) rfl ?_
              refine a_goto hX dX10_isRest_70 (tgt := 6) (by decide) ?_
              have eS : (k + 1).toNat = k.toNat + 1 := by omega
              have eN : rOkN (rAt (vR Z 0) a) (rAt (vR Z 0) b) (rAl (vQ Z) (vR Z 0) a) (rAl (vQ Z) (vR Z 0) b) i j (k + 1).toNat = (rOkN (rAt (vR Z 0) a) (rAt (vR Z 0) b) (rAl (vQ Z) (vR Z 0) a) (rAl (vQ Z) (vR Z 0) b) i j k.toNat && decide (rGain (vQ Z) (vR Z 0) a b k j ≤ rGain (vQ Z) (vR Z 0) a b i j ∧ rGain (vQ Z) (vR Z 0) b a k i ≤ rGain (vQ Z) (vR Z 0) b a j i)) := by
                rw [eS, sRest_eq, Int.toNat_of_nonneg hk.1]
              first
                | (have H := ih (k + 1) Z1 (by omega) hB t1 (by omega)
                   rw [eN, c14, Bool.false_and] at H
                   exact H)
                | (have H := ih (k + 1) Z33 (by omega) hB t33 (by omega)
                   rw [eN, c14, Bool.true_and, aTr_neg (by omega)] at H
                   exact H)
                | (have H := ih (k + 1) Z54 (by omega) hB t54 (by omega)
                   rw [eN, c14, Bool.true_and] at H
                   first
                     | (rw [aTr_pos (by omega)] at H; exact H)
                     | (rw [aTr_neg (by omega)] at H; exact H))
  exact L6 4 0 Z (by omega) hB qTr.rf (by omega)

theorem rFirst_s {r : Int → Int → Bool} {k : Int} (h : 0 ≤ k) : rFirst r (k + 1).toNat = if rFirst r k.toNat = -9 then (if r (k / 3) (k % 3) = true then 10 * (k / 3) + k % 3 else -9) else rFirst r k.toNat := by
  rw [show (k + 1).toNat = k.toNat + 1 by omega]
  show (if rFirst r k.toNat = -9 then (if r ((k.toNat : Int) / 3) ((k.toNat : Int) % 3) = true then 10 * ((k.toNat : Int) / 3) + (k.toNat : Int) % 3 else -9) else rFirst r k.toNat) = _
  rw [Int.toNat_of_nonneg h]
theorem rCount_s {r : Int → Int → Bool} {k : Int} (h : 0 ≤ k) : rCount r (k + 1).toNat = rCount r k.toNat + aTr (r (k / 3) (k % 3)) := aSum_s h
theorem rBoth {r : Int → Int → Bool} : ∀ n : Nat, (0 ≤ rCount r n ∧ rCount r n ≤ n) ∧ (rCount r n = 0 ↔ rFirst r n = -9)
  | 0 => by
    refine ⟨⟨Int.le_refl _, Int.le_refl _⟩, ?_⟩
    constructor <;> intro _ <;> rfl
  | n + 1 => by
    obtain ⟨h1, h2⟩ := rBoth (r := r) n
    have e1 : rCount r (n + 1) = rCount r n + aTr (r ((n : Int) / 3) ((n : Int) % 3)) := rfl
    have e2 : rFirst r (n + 1) = if rFirst r n = -9 then (if r ((n : Int) / 3) ((n : Int) % 3) = true then 10 * ((n : Int) / 3) + (n : Int) % 3 else -9) else rFirst r n := rfl
    rw [e1, e2]
    cases e : r ((n : Int) / 3) ((n : Int) % 3)
    · rw [aTr_f, if_neg (show ¬ false = true by decide)]
      refine ⟨by omega, ?_⟩
      by_cases q : rFirst r n = -9
      · rw [if_pos q]; have := h2.mpr q; omega
      · rw [if_neg q]; have : ¬ rCount r n = 0 := fun z => q (h2.mp z); omega
    · rw [aTr_t, if_pos (show true = true from rfl)]
      refine ⟨by omega, ?_⟩
      by_cases q : rFirst r n = -9
      · rw [if_pos q]; omega
      · rw [if_neg q]; omega

set_option maxHeartbeats 4000000 in
set_option maxRecDepth 100000 in
theorem q_rests {G : aG} {Z : aZ} {Y : aY} {c d w : Int} (hc : -2147483648 ≤ c ∧ c < 2147483648) (hcd : -2147483648 ≤ d ∧ d < 2147483648) (hw : -2147483648 ≤ w ∧ w < 2147483648) (hd4 : Z 69 15 ≤ 4000) (hB : aB Z) (hP : okP (vQ Z)) (hS : okS (vQ Z) (vR Z 0)) (hd : Z 69 15 ≤ 5000) : aSI G yX10_rests cX10_rests 7 (some .int) 6 146 [.ref (G.1 62), .int (aI c), .int (aI d), .int (aI w)] Z Y (fun x Z' Y' => x = (if (pHasC (vQ Z) c = true ∧ pHasC (vQ Z) d = true) then (if c ≠ d ∧ 0 ≤ w ∧ w ≤ 1 then (if w = 0 then rCount (sRest (vQ Z) (vR Z 0) c d) 9 else rFirst (sRest (vQ Z) (vR Z 0) c d) 9) else -2) else -1) ∧ qTr Z Z' ∧ aB Z' ∧ Y' = Y) := by
  refine aS.of (own := RX10) (by decide +kernel) rfl 3 (Nat.le_of_ble_eq_true rfl) (fun X hX hE => ?_)
  show AW X G 0 [some (.ref (G.1 62)), some (.int (aI c)), some (.int (aI d)), some (.int (aI w)), none, none, none] [] Z Y
  have hfQ := fQ hP
  have hfR := fR hS
  have hfR1 : 0 ≤ Z 69 15 := hfR.2.2
  have hfR2 : 0 ≤ Z 69 13 ∧ Z 69 13 < 32 := hfR.1
  refine a_aload_n hX rfl rfl dX10_rests_0 (pc' := 1) rfl ?_
  refine a_iload_n hX rfl rfl dX10_rests_1 (pc' := 2) rfl ?_
  refine a_cV1i hX cv_X10_118 (q_isCloud (by omega) hB hP) rfl (by decide) ⟨by decide, by decide⟩ (Nat.le_of_ble_eq_true rfl) dX10_rests_2 (pc' := 5) rfl ?_
  refine a_ifb_eq hX dX10_rests_5 (pc' := 8) rfl (tgt := 16) (by decide) (fun c5 => ?_) (fun c5 => ?_)
  · refine a_iconst hX dX10_rests_16 (pc' := 17) rfl ?_
    refine a_iret hX dX10_rests_17 (hE _ _ _ ?_)
    first
      | exact ⟨_, rfl, by rw [if_neg (fun q => absurd (q.1.symm.trans c5) (by decide))], qTr.rf, hB, rfl⟩
      | exact ⟨_, rfl, by rw [if_neg (fun q => absurd (q.2.symm.trans c13) (by decide))], qTr.rf, hB, rfl⟩
  · have hc1 := qHasC_no c5
    refine a_aload_n hX rfl rfl dX10_rests_8 (pc' := 9) rfl ?_
    refine a_iload_n hX rfl rfl dX10_rests_9 (pc' := 10) rfl ?_
    refine a_cV1i hX cv_X10_118 (q_isCloud (by omega) hB hP) rfl (by decide) ⟨by decide, by decide⟩ (Nat.le_of_ble_eq_true rfl) dX10_rests_10 (pc' := 13) rfl ?_
    refine a_ifb_ne hX dX10_rests_13 (pc' := 16) rfl (tgt := 18) (by decide) (fun c13 => ?_) (fun c13 => ?_)
    · have hd1 := qHasC_no c13
      refine a_iload_n hX rfl rfl dX10_rests_18 (pc' := 19) rfl ?_
      refine a_iload_n hX rfl rfl dX10_rests_19 (pc' := 20) rfl ?_
      refine a_icmp_eq hX (by omega) (by omega) dX10_rests_20 (pc' := 23) rfl (tgt := 33) (by decide) (fun c20 => ?_) (fun c20 => ?_)
      · refine a_bipush hX rfl dX10_rests_33 (pc' := 35) rfl ?_
        refine a_iret hX dX10_rests_35 (hE _ _ _ ?_)
        exact ⟨_, rfl, by rw [if_pos ⟨c5, c13⟩, if_neg (by omega)], qTr.rf, hB, rfl⟩
      · refine a_iload_n hX rfl rfl dX10_rests_23 (pc' := 24) rfl ?_
        refine a_i2l hX (by omega) dX10_rests_24 (pc' := 25) rfl ?_
        refine a_lconst hX (v := 0) rfl dX10_rests_25 (pc' := 26) rfl ?_
        refine a_lconst hX (v := 1) rfl dX10_rests_26 (pc' := 27) rfl ?_
        refine a_cS3i hX cs_X10_68 (q_in (by omega) (by omega) (by omega)) ⟨by decide, by decide⟩ (Nat.le_of_ble_eq_true rfl) dX10_rests_27 (pc' := 30) rfl ?_
        refine a_ifb_ne hX dX10_rests_30 (pc' := 33) rfl (tgt := 36) (by decide) (fun c30 => ?_) (fun c30 => ?_)
        · have c30 := of_decide_eq_true c30
          refine a_iconst hX dX10_rests_36 (pc' := 37) rfl ?_
          refine a_istore4 hX (by decide) rfl dX10_rests_37 (pc' := 39) rfl ?_
          refine a_bipush hX rfl dX10_rests_39 (pc' := 41) rfl ?_
          refine a_istore5 hX (by decide) rfl dX10_rests_41 (pc' := 43) rfl ?_
          refine a_iconst hX dX10_rests_43 (pc' := 44) rfl ?_
          refine a_istore6 hX (by decide) rfl dX10_rests_44 (pc' := 46) rfl ?_
          have L46 : ∀ (n : Nat) (k : Int) (Z1 : aZ), (0 ≤ k ∧ k ≤ 9) → aB Z1 → qTr Z Z1 → (9 - k).toNat < n → AW X G 46 [some (.ref (G.1 62)), some (.int (aI c)), some (.int (aI d)), some (.int (aI w)), some (.int (aI (rCount (sRest (vQ Z) (vR Z 0) c d) k.toNat))), some (.int (aI (rFirst (sRest (vQ Z) (vR Z 0) c d) k.toNat))), some (.int (aI k))] [] Z1 Y := by
            intro n
            induction n with
            | zero =>
              intro k Z1 hk hB t1 hn
              omega
            | succ n ih =>
              intro k Z1 hk hB t1 hn
              have eP1 : vQ Z1 = vQ Z := t1.P
              have eR1 : vR Z1 0 = vR Z 0 := t1.R0
              have hP1 : okP (vQ Z1) := by rw [eP1]; exact hP
              have hS1 : okS (vQ Z1) (vR Z1 0) := by rw [eP1, eR1]; exact hS
              have hd41 : Z1 69 15 ≤ 4000 := by rw [t1.2 15 (by omega)]; exact hd4
              have hd_1 : Z1 69 15 ≤ 5000 := by omega
              have f1 : Z1 62 1 = Z 62 1 := by rw [t1.1 62 (by decide)]
              have rb := rBoth (r := (sRest (vQ Z) (vR Z 0) c d)) k.toNat
              refine a_iload hX rfl dX10_rests_46 (pc' := 48) rfl ?_
              refine a_bipush hX rfl dX10_rests_48 (pc' := 50) rfl ?_
              refine a_icmp_ge hX (by omega) (by omega) dX10_rests_50 (pc' := 53) rfl (tgt := 103) (by decide) (fun c50 => ?_) (fun c50 => ?_)
              · refine a_iload_n hX rfl rfl dX10_rests_103 (pc' := 104) rfl ?_
                refine a_if_ne hX (by omega) dX10_rests_104 (pc' := 107) rfl (tgt := 112) (by decide) (fun c104 => ?_) (fun c104 => ?_)
                · refine a_iload hX rfl dX10_rests_112 (pc' := 114) rfl ?_
                  refine a_iret hX dX10_rests_114 (hE _ _ _ ?_)
                  obtain rfl : k = 9 := by omega
                  refine ⟨_, rfl, ?_, t1, hB, rfl⟩
                  rw [if_pos ⟨c5, c13⟩, if_pos (by omega)]
                  first | rw [if_pos (by omega)]; rfl | rw [if_neg (by omega)]; rfl
                · refine a_iload hX rfl dX10_rests_107 (pc' := 109) rfl ?_
                  refine a_goto hX dX10_rests_109 (tgt := 114) (by decide) ?_
                  refine a_iret hX dX10_rests_114 (hE _ _ _ ?_)
                  obtain rfl : k = 9 := by omega
                  refine ⟨_, rfl, ?_, t1, hB, rfl⟩
                  rw [if_pos ⟨c5, c13⟩, if_pos (by omega)]
                  first | rw [if_pos (by omega)]; rfl | rw [if_neg (by omega)]; rfl
              · refine a_aload_n hX rfl rfl dX10_rests_53 (pc' := 54) rfl ?_
                refine a_iload_n hX rfl rfl dX10_rests_54 (pc' := 55) rfl ?_
                refine a_iload_n hX rfl rfl dX10_rests_55 (pc' := 56) rfl ?_
                refine a_iload hX rfl dX10_rests_56 (pc' := 58) rfl ?_
                refine a_iconst hX dX10_rests_58 (pc' := 59) rfl ?_
                refine a_idiv hX (by omega) (by omega) dX10_rests_59 (pc' := 60) rfl ?_
                refine a_iload hX rfl dX10_rests_60 (pc' := 62) rfl ?_
                refine a_iconst hX dX10_rests_62 (pc' := 63) rfl ?_
                refine a_irem hX (by omega) (by omega) dX10_rests_63 (pc' := 64) rfl ?_
                refine a_cV4I hX cv_X10_245 (q_isRest c20 (by rw [f1]; exact hc1) (by rw [f1]; exact hd1) (by omega) (by omega) hd41 hB hP1 hS1 hd_1) rfl (by decide) ⟨by decide, by decide⟩ (Nat.le_of_ble_eq_true rfl) dX10_rests_64 (pc' := 67) rfl (fun x64 Z64 Y64 h64 => ?_)
                obtain ⟨e64, g64, hB, rfl⟩ := h64
                rw [eP1, eR1] at e64
                have t64 : qTr Z Z64 := t1.tr g64
                rw [e64]
                refine a_ifb_eq hX dX10_rests_67 (pc' := 70) rfl (tgt := 97) (by decide) (fun c67 => ?_) (fun c67 => ?_)
                · refine a_iinc6 hX (by decide) rfl dX10_rests_97 (pc' := 100) rfl ?_
                  refine a_goto hX dX10_rests_100 (tgt := 46) (by decide) ?_
                  have H := ih (k + 1) Z64 (by omega) hB t64 (by omega)
                  rw [rCount_s hk.1, rFirst_s hk.1, c67] at H
                  first
                    | (rw [aTr_f, Int.add_zero, if_neg (show ¬ false = true by decide)] at H
                       have e9 : (if rFirst (sRest (vQ Z) (vR Z 0) c d) k.toNat = -9 then (-9 : Int) else rFirst (sRest (vQ Z) (vR Z 0) c d) k.toNat) = rFirst (sRest (vQ Z) (vR Z 0) c d) k.toNat := by split <;> omega
                       rw [e9] at H
                       exact H)
                    | (rw [aTr_t, if_pos rfl] at H
                       first
                         | (rw [if_pos (rb.2.mp (by omega))] at H; exact H)
                         | (rw [if_neg (fun z => absurd (rb.2.mpr z) (by omega))] at H; exact H))
                · refine a_iload hX rfl dX10_rests_70 (pc' := 72) rfl ?_
                  refine a_if_ne hX (by omega) dX10_rests_72 (pc' := 75) rfl (tgt := 90) (by decide) (fun c72 => ?_) (fun c72 => ?_)
                  · refine a_iload hX rfl dX10_rests_90 (pc' := 92) rfl ?_
                    refine a_istore5 hX (by decide) rfl dX10_rests_92 (pc' := 94) rfl ?_
                    refine a_iinc4 hX (by decide) rfl dX10_rests_94 (pc' := 97) rfl ?_
                    refine a_iinc6 hX (by decide) rfl dX10_rests_97 (pc' := 100) rfl ?_
                    refine a_goto hX dX10_rests_100 (tgt := 46) (by decide) ?_
                    have H := ih (k + 1) Z64 (by omega) hB t64 (by omega)
                    rw [rCount_s hk.1, rFirst_s hk.1, c67] at H
                    first
                      | (rw [aTr_f, Int.add_zero, if_neg (show ¬ false = true by decide)] at H
                         have e9 : (if rFirst (sRest (vQ Z) (vR Z 0) c d) k.toNat = -9 then (-9 : Int) else rFirst (sRest (vQ Z) (vR Z 0) c d) k.toNat) = rFirst (sRest (vQ Z) (vR Z 0) c d) k.toNat := by split <;> omega
                         rw [e9] at H
                         exact H)
                      | (rw [aTr_t, if_pos rfl] at H
                         first
                           | (rw [if_pos (rb.2.mp (by omega))] at H; exact H)
                           | (rw [if_neg (fun z => absurd (rb.2.mpr z) (by omega))] at H; exact H))
                  · refine a_bipush hX rfl dX10_rests_75 (pc' := 77) rfl ?_
                    refine a_iload hX rfl dX10_rests_77 (pc' := 79) rfl ?_
                    refine a_iconst hX dX10_rests_79 (pc' := 80) rfl ?_
                    refine a_idiv hX (by omega) (by omega) dX10_rests_80 (pc' := 81) rfl ?_
                    refine a_imul hX dX10_rests_81 (pc' := 82) rfl ?_
                    refine a_iload hX rfl dX10_rests_82 (pc' := 84) rfl ?_
                    refine a_iconst hX dX10_rests_84 (pc' := 85) rfl ?_
                    refine a_irem hX (by omega) (by omega) dX10_rests_85 (pc' := 86) rfl ?_
                    refine a_iadd hX dX10_rests_86 (pc' := 87) rfl ?_
                    refine a_goto hX dX10_rests_87 (tgt := 92) (by decide) ?_
                    refine a_istore5 hX (by decide) rfl dX10_rests_92 (pc' := 94) rfl ?_
                    refine a_iinc4 hX (by decide) rfl dX10_rests_94 (pc' := 97) rfl ?_
                    refine a_iinc6 hX (by decide) rfl dX10_rests_97 (pc' := 100) rfl ?_
                    refine a_goto hX dX10_rests_100 (tgt := 46) (by decide) ?_
                    have H := ih (k + 1) Z64 (by omega) hB t64 (by omega)
                    rw [rCount_s hk.1, rFirst_s hk.1, c67] at H
                    first
                      | (rw [aTr_f, Int.add_zero, if_neg (show ¬ false = true by decide)] at H
                         have e9 : (if rFirst (sRest (vQ Z) (vR Z 0) c d) k.toNat = -9 then (-9 : Int) else rFirst (sRest (vQ Z) (vR Z 0) c d) k.toNat) = rFirst (sRest (vQ Z) (vR Z 0) c d) k.toNat := by split <;> omega
                         rw [e9] at H
                         exact H)
                      | (rw [aTr_t, if_pos rfl] at H
                         first
                           | (rw [if_pos (rb.2.mp (by omega))] at H; exact H)
                           | (rw [if_neg (fun z => absurd (rb.2.mpr z) (by omega))] at H; exact H))
          exact L46 10 0 Z (by omega) hB qTr.rf (by omega)
        · have c30 := of_decide_eq_false c30
          refine a_bipush hX rfl dX10_rests_33 (pc' := 35) rfl ?_
          refine a_iret hX dX10_rests_35 (hE _ _ _ ?_)
          exact ⟨_, rfl, by rw [if_pos ⟨c5, c13⟩, if_neg (by omega)], qTr.rf, hB, rfl⟩
    · refine a_iconst hX dX10_rests_16 (pc' := 17) rfl ?_
      refine a_iret hX dX10_rests_17 (hE _ _ _ ?_)
      first
        | exact ⟨_, rfl, by rw [if_neg (fun q => absurd (q.1.symm.trans c5) (by decide))], qTr.rf, hB, rfl⟩
        | exact ⟨_, rfl, by rw [if_neg (fun q => absurd (q.2.symm.trans c13) (by decide))], qTr.rf, hB, rfl⟩

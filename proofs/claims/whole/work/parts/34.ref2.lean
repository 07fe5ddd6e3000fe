theorem qHas_eq {Z : aZ} {l c : Int} (h : 0 ≤ c ∧ c < 4 ∧ c < Z 62 1) : sHas (vQ Z) (vR Z l) c = if Z 64 c = 1 then Z 69 (16 * l + 4 + c) / 2 else Z 69 (16 * l + 4 + c) := by
  unfold sHas
  rw [vR_fl' h, vQ_k]
theorem qOwed_eq {Z : aZ} {l p : Int} (h : 0 ≤ p ∧ p < 5) : sOwed (vQ Z) (vR Z l) p = if aBit (Z 69 (16 * l + 13)) p = true ∨ Z 66 p < Z 69 (16 * l + 15) then 0 else Z 67 p - Z 69 (16 * l + 8 + p) := by
  unfold sOwed sTorn
  rw [vR_hi (show 8 ≤ (13 : Int) ∧ (13 : Int) < 16 by omega), vR_hi (show 8 ≤ (15 : Int) ∧ (15 : Int) < 16 by omega), vR_fi' h, vQ_d, vQ_p]
theorem qCan_eq {Z : aZ} {l c p : Int} (h : 0 ≤ c ∧ c < 4 ∧ c < Z 62 1) : sCan (vQ Z) (vR Z l) c p = decide (Z 69 (16 * l + c) = Z 65 p ∧ 1 ≤ sOwed (vQ Z) (vR Z l) p ∧ 1 ≤ sHas (vQ Z) (vR Z l) c ∧ (Z 68 p = 1 → Z 64 c ≠ 1) ∧ (Z 68 p = 2 → pWind (vQ Z) (Z 69 (16 * l + 15)) = 0)) := by
  unfold sCan sTakes
  refine decide_eq_decide.mpr ?_
  rw [decide_eq_true_iff, vR_yd h, vQ_y, vR_hi (show 8 ≤ (15 : Int) ∧ (15 : Int) < 16 by omega), vQ_d, vQ_pk, vQ_k]
  constructor
  · rintro ⟨a1, a2, a3, -, a5, a6⟩
    exact ⟨a1, a3, a2, a5, a6⟩
  · rintro ⟨a1, a2, a3, a4, a5⟩
    refine ⟨a1, a3, a2, ?_, a4, a5⟩
    unfold sOwed at a2
    rw [vR_hi (show 8 ≤ (15 : Int) ∧ (15 : Int) < 16 by omega), vQ_d] at a2
    split at a2
    · omega
    · rename_i q
      omega
/-- the days on which a cloud over y now is where a paper is and may fall on it -/
def qOn (P : aP) (S : aSk) (c y p : Int) : Nat → Bool
  | 0 => false
  | n + 1 => qOn P S c y p n || decide (pCarry P (P 4 c) y (S 15) n = P 5 p ∧ (P 7 p = 2 → pWind P (S 15 + n) = 0))
theorem qOn_s {P : aP} {S : aSk} {c y p d : Int} (h : 0 ≤ d) : qOn P S c y p (d + 1).toNat = (qOn P S c y p d.toNat || decide (pCarry P (P 4 c) y (S 15) d.toNat = P 5 p ∧ (P 7 p = 2 → pWind P (S 15 + d) = 0))) := by
  rw [show (d + 1).toNat = d.toNat + 1 by omega]
  show (qOn P S c y p d.toNat || decide (pCarry P (P 4 c) y (S 15) d.toNat = P 5 p ∧ (P 7 p = 2 → pWind P (S 15 + (d.toNat : Int)) = 0))) = _
  rw [Int.toNat_of_nonneg h]
theorem qOn_iff {P : aP} {S : aSk} {c y p : Int} : ∀ n : Nat, qOn P S c y p n = true ↔ ∃ d : Nat, d < n ∧ pCarry P (P 4 c) y (S 15) d = P 5 p ∧ (P 7 p = 2 → pWind P (S 15 + d) = 0)
  | 0 => by
    constructor
    · intro h; cases h
    · rintro ⟨d, h, -⟩; omega
  | n + 1 => by
    show (qOn P S c y p n || decide _) = true ↔ _
    rw [Bool.or_eq_true, qOn_iff n, decide_eq_true_iff]
    constructor
    · rintro (⟨d, h, q⟩ | q)
      · exact ⟨d, by omega, q⟩
      · exact ⟨n, by omega, q⟩
    · rintro ⟨d, h, q⟩
      by_cases e : d = n
      · subst e; exact Or.inr q
      · exact Or.inl ⟨d, by omega, q⟩
theorem sServN_iff {P : aP} {S : aSk} {c y p : Int} : ∀ n : Nat, sServN P S c y p n = true ↔ ∃ d : Nat, d < n ∧ pCarry P (P 4 c) y (S 15) d = P 5 p ∧ sTakes P S c p (S 15 + d) = true
  | 0 => by
    constructor
    · intro h; cases h
    · rintro ⟨d, h, -⟩; omega
  | n + 1 => by
    show (sServN P S c y p n || decide _) = true ↔ _
    rw [Bool.or_eq_true, sServN_iff n, decide_eq_true_iff]
    constructor
    · rintro (⟨d, h, q⟩ | q)
      · exact ⟨d, by omega, q⟩
      · exact ⟨n, by omega, q⟩
    · rintro ⟨d, h, q⟩
      by_cases e : d = n
      · subst e; exact Or.inr q
      · exact Or.inl ⟨d, by omega, q⟩
theorem qServ_eq {P : aP} {S : aSk} (hP : okP P) (c y p : Int) : sServ P S c y p = (qOn P S c y p (P 6 p + 1 - S 15).toNat && decide (1 ≤ sOwed P S p ∧ 1 ≤ sHas P S c ∧ (P 7 p = 1 → P 4 c ≠ 1))) := by
  have h9 := hP.2.2.2.2.2.2.1 p
  rw [Bool.eq_iff_iff]
  unfold sServ
  rw [sServN_iff, Bool.and_eq_true, qOn_iff, decide_eq_true_iff]
  unfold sTakes
  constructor
  · rintro ⟨d, h1, h2, h3⟩
    obtain ⟨a1, a2, a3, a4, a5⟩ := of_decide_eq_true h3
    exact ⟨⟨d, by omega, h2, a5⟩, a2, a1, a4⟩
  · rintro ⟨⟨d, h1, h2, h3⟩, a2, a1, a4⟩
    exact ⟨d, by omega, h2, decide_eq_true ⟨a1, a2, by omega, a4, h3⟩⟩

set_option maxHeartbeats 4000000 in
set_option maxRecDepth 100000 in
theorem q_owed {G : aG} {Z : aZ} {Y : aY} {l p : Int} (hp : 0 ≤ p ∧ p < 5) (hl : 0 ≤ l ∧ l ≤ 1) (hB : aB Z) (hP : okP (vQ Z)) (hS : okS (vQ Z) (vR Z l)) (hd : Z 69 (16 * l + 15) ≤ 5000) : aSi G yX10_owed cX10_owed 4 (some .int) 1 21 [.ref (G.1 62), .int (aI l), .int (aI p)] Z Y (sOwed (vQ Z) (vR Z l) p) := by
  refine aS.of (own := RX10) (by decide +kernel) rfl 1 (Nat.le_of_ble_eq_true rfl) (fun X hX hE => ?_)
  show AW X G 0 [some (.ref (G.1 62)), some (.int (aI l)), some (.int (aI p)), none] [] Z Y
  have hfQ := fQ hP
  have hfR := fR hS
  refine a_bipush hX rfl dX10_owed_0 (pc' := 2) rfl ?_
  refine a_iload_n hX rfl rfl dX10_owed_2 (pc' := 3) rfl ?_
  refine a_imul hX dX10_owed_3 (pc' := 4) rfl ?_
  refine a_istore3 hX rfl (by decide) rfl dX10_owed_4 (pc' := 5) rfl ?_
  refine a_aload_n hX rfl rfl dX10_owed_5 (pc' := 6) rfl ?_
  refine a_getfR hX (r := 69) fl_X10_28 rfl (by decide) rfl dX10_owed_6 (pc' := 9) rfl ?_
  refine a_iload_n hX rfl rfl dX10_owed_9 (pc' := 10) rfl ?_
  refine a_bipush hX rfl dX10_owed_10 (pc' := 12) rfl ?_
  refine a_iadd hX dX10_owed_12 (pc' := 13) rfl ?_
  refine a_iald hX rfl (by decide) (by decide) (by omega) hB dX10_owed_13 (pc' := 14) rfl (fun hb => ?_)
  refine a_iload_n hX rfl rfl dX10_owed_14 (pc' := 15) rfl ?_
  refine a_cS2i hX cs_X10_114 (q_has (by omega) (by omega)) ⟨by decide, by decide⟩ (Nat.le_of_ble_eq_true rfl) dX10_owed_15 (pc' := 18) rfl ?_
  refine a_ifb_ne hX dX10_owed_18 (pc' := 21) rfl (tgt := 39) (by decide) (fun c18 => ?_) (fun c18 => ?_)
  · refine a_iconst hX dX10_owed_39 (pc' := 40) rfl ?_
    refine a_goto hX dX10_owed_40 (tgt := 61) (by decide) ?_
    refine a_iret hX dX10_owed_61 (hE _ _ _ ?_)
    refine ⟨aLf ?_, rfl, rfl⟩
    rw [qOwed_eq hp]
    first
      | rw [if_pos (by first | exact Or.inl c18 | exact Or.inr (by omega))]
      | rw [if_neg (by rw [c18]; simp; omega)]
  · refine a_aload_n hX rfl rfl dX10_owed_21 (pc' := 22) rfl ?_
    refine a_getfR hX (r := 66) fl_X10_19 rfl (by decide) rfl dX10_owed_22 (pc' := 25) rfl ?_
    refine a_iload_n hX rfl rfl dX10_owed_25 (pc' := 26) rfl ?_
    refine a_iald hX rfl (by decide) (by decide) (by omega) hB dX10_owed_26 (pc' := 27) rfl (fun hb => ?_)
    refine a_aload_n hX rfl rfl dX10_owed_27 (pc' := 28) rfl ?_
    refine a_getfR hX (r := 69) fl_X10_28 rfl (by decide) rfl dX10_owed_28 (pc' := 31) rfl ?_
    refine a_iload_n hX rfl rfl dX10_owed_31 (pc' := 32) rfl ?_
    refine a_bipush hX rfl dX10_owed_32 (pc' := 34) rfl ?_
    refine a_iadd hX dX10_owed_34 (pc' := 35) rfl ?_
    refine a_iald hX rfl (by decide) (by decide) (by omega) hB dX10_owed_35 (pc' := 36) rfl (fun hb => ?_)
    refine a_icmp_ge hX (by omega) (by omega) dX10_owed_36 (pc' := 39) rfl (tgt := 43) (by decide) (fun c36 => ?_) (fun c36 => ?_)
    · refine a_aload_n hX rfl rfl dX10_owed_43 (pc' := 44) rfl ?_
      refine a_getfR hX (r := 67) fl_X10_22 rfl (by decide) rfl dX10_owed_44 (pc' := 47) rfl ?_
      refine a_iload_n hX rfl rfl dX10_owed_47 (pc' := 48) rfl ?_
      refine a_iald hX rfl (by decide) (by decide) (by omega) hB dX10_owed_48 (pc' := 49) rfl (fun hb => ?_)
      refine a_aload_n hX rfl rfl dX10_owed_49 (pc' := 50) rfl ?_
      refine a_getfR hX (r := 69) fl_X10_28 rfl (by decide) rfl dX10_owed_50 (pc' := 53) rfl ?_
      refine a_iload_n hX rfl rfl dX10_owed_53 (pc' := 54) rfl ?_
      refine a_bipush hX rfl dX10_owed_54 (pc' := 56) rfl ?_
      refine a_iadd hX dX10_owed_56 (pc' := 57) rfl ?_
      refine a_iload_n hX rfl rfl dX10_owed_57 (pc' := 58) rfl ?_
      refine a_iadd hX dX10_owed_58 (pc' := 59) rfl ?_
      refine a_iald hX rfl (by decide) (by decide) (by omega) hB dX10_owed_59 (pc' := 60) rfl (fun hb => ?_)
      refine a_isub hX dX10_owed_60 (pc' := 61) rfl ?_
      refine a_iret hX dX10_owed_61 (hE _ _ _ ?_)
      refine ⟨aLf ?_, rfl, rfl⟩
      rw [qOwed_eq hp]
      first
        | rw [if_pos (by first | exact Or.inl c18 | exact Or.inr (by omega))]
        | rw [if_neg (by rw [c18]; simp; omega)]
    · refine a_iconst hX dX10_owed_39 (pc' := 40) rfl ?_
      refine a_goto hX dX10_owed_40 (tgt := 61) (by decide) ?_
      refine a_iret hX dX10_owed_61 (hE _ _ _ ?_)
      refine ⟨aLf ?_, rfl, rfl⟩
      rw [qOwed_eq hp]
      first
        | rw [if_pos (by first | exact Or.inl c18 | exact Or.inr (by omega))]
        | rw [if_neg (by rw [c18]; simp; omega)]

set_option maxHeartbeats 4000000 in
set_option maxRecDepth 100000 in
theorem q_holds {G : aG} {Z : aZ} {Y : aY} {l c : Int} (hc : 0 ≤ c ∧ c < Z 62 1) (hl : 0 ≤ l ∧ l ≤ 1) (hB : aB Z) (hP : okP (vQ Z)) (hS : okS (vQ Z) (vR Z l)) (hd : Z 69 (16 * l + 15) ≤ 5000) : aSi G yX10_holds cX10_holds 4 (some .int) 0 0 [.ref (G.1 62), .int (aI l), .int (aI c)] Z Y (sHas (vQ Z) (vR Z l) c) := by
  refine aS.of (own := RX10) (by decide +kernel) rfl 1 (Nat.le_of_ble_eq_true rfl) (fun X hX hE => ?_)
  show AW X G 0 [some (.ref (G.1 62)), some (.int (aI l)), some (.int (aI c)), none] [] Z Y
  have hfQ := fQ hP
  have hfR := fR hS
  refine a_aload_n hX rfl rfl dX10_holds_0 (pc' := 1) rfl ?_
  refine a_getfR hX (r := 69) fl_X10_28 rfl (by decide) rfl dX10_holds_1 (pc' := 4) rfl ?_
  refine a_bipush hX rfl dX10_holds_4 (pc' := 6) rfl ?_
  refine a_iload_n hX rfl rfl dX10_holds_6 (pc' := 7) rfl ?_
  refine a_imul hX dX10_holds_7 (pc' := 8) rfl ?_
  refine a_iconst hX dX10_holds_8 (pc' := 9) rfl ?_
  refine a_iadd hX dX10_holds_9 (pc' := 10) rfl ?_
  refine a_iload_n hX rfl rfl dX10_holds_10 (pc' := 11) rfl ?_
  refine a_iadd hX dX10_holds_11 (pc' := 12) rfl ?_
  refine a_iald hX rfl (by decide) (by decide) (by omega) hB dX10_holds_12 (pc' := 13) rfl (fun hb => ?_)
  refine a_istore3 hX rfl (by decide) rfl dX10_holds_13 (pc' := 14) rfl ?_
  refine a_aload_n hX rfl rfl dX10_holds_14 (pc' := 15) rfl ?_
  refine a_getfR hX (r := 64) fl_X10_13 rfl (by decide) rfl dX10_holds_15 (pc' := 18) rfl ?_
  refine a_iload_n hX rfl rfl dX10_holds_18 (pc' := 19) rfl ?_
  refine a_iald hX rfl (by decide) (by decide) (by omega) hB dX10_holds_19 (pc' := 20) rfl (fun hb => ?_)
  refine a_iconst hX dX10_holds_20 (pc' := 21) rfl ?_
  refine a_icmp_ne hX (by omega) (by omega) dX10_holds_21 (pc' := 24) rfl (tgt := 30) (by decide) (fun c21 => ?_) (fun c21 => ?_)
  · refine a_iload_n hX rfl rfl dX10_holds_30 (pc' := 31) rfl ?_
    refine a_iret hX dX10_holds_31 (hE _ _ _ ?_)
    refine ⟨aLf ?_, rfl, rfl⟩
    rw [qHas_eq (by omega)]
    first | rw [if_pos (by omega)] | rw [if_neg (by omega)]
  · refine a_iload_n hX rfl rfl dX10_holds_24 (pc' := 25) rfl ?_
    refine a_iconst hX dX10_holds_25 (pc' := 26) rfl ?_
    have hf := fRf hS (c := c) (by omega)
    refine a_idiv hX (by omega) (by omega) dX10_holds_26 (pc' := 27) rfl ?_
    refine a_goto hX dX10_holds_27 (tgt := 31) (by decide) ?_
    refine a_iret hX dX10_holds_31 (hE _ _ _ ?_)
    refine ⟨aLf ?_, rfl, rfl⟩
    rw [qHas_eq (by omega)]
    first | rw [if_pos (by omega)] | rw [if_neg (by omega)]

set_option maxHeartbeats 4000000 in
set_option maxRecDepth 100000 in
theorem q_takes {G : aG} {Z : aZ} {Y : aY} {c p : Int} (hc : 0 ≤ c ∧ c < Z 62 1) (hp : 0 ≤ p ∧ p < Z 62 2) (hB : aB Z) (hP : okP (vQ Z)) : aSi G yX10_takes cX10_takes 3 (some .boolean) 0 0 [.ref (G.1 62), .int (aI c), .int (aI p)] Z Y (aTr (decide (Z 68 p = 1 → Z 64 c ≠ 1))) := by
  refine aS.of (own := RX10) (by decide +kernel) rfl 0 (Nat.le_of_ble_eq_true rfl) (fun X hX hE => ?_)
  show AW X G 0 [some (.ref (G.1 62)), some (.int (aI c)), some (.int (aI p))] [] Z Y
  have hfQ := fQ hP
  refine a_aload_n hX rfl rfl dX10_takes_0 (pc' := 1) rfl ?_
  refine a_getfR hX (r := 68) fl_X10_25 rfl (by decide) rfl dX10_takes_1 (pc' := 4) rfl ?_
  refine a_iload_n hX rfl rfl dX10_takes_4 (pc' := 5) rfl ?_
  refine a_iald hX rfl (by decide) (by decide) (by omega) hB dX10_takes_5 (pc' := 6) rfl (fun hb => ?_)
  refine a_iconst hX dX10_takes_6 (pc' := 7) rfl ?_
  refine a_icmp_ne hX (by omega) (by omega) dX10_takes_7 (pc' := 10) rfl (tgt := 20) (by decide) (fun c7 => ?_) (fun c7 => ?_)
  · refine a_iconst hX dX10_takes_20 (pc' := 21) rfl ?_
    refine a_goto hX dX10_takes_21 (tgt := 25) (by decide) ?_
    refine a_zret hX (by omega) dX10_takes_25 (hE _ _ _ ?_)
    refine ⟨aLf ?_, rfl, rfl⟩
    first | exact (aTr_pos (by omega)).symm | exact (aTr_neg (by omega)).symm
  · refine a_aload_n hX rfl rfl dX10_takes_10 (pc' := 11) rfl ?_
    refine a_getfR hX (r := 64) fl_X10_13 rfl (by decide) rfl dX10_takes_11 (pc' := 14) rfl ?_
    refine a_iload_n hX rfl rfl dX10_takes_14 (pc' := 15) rfl ?_
    refine a_iald hX rfl (by decide) (by decide) (by omega) hB dX10_takes_15 (pc' := 16) rfl (fun hb => ?_)
    refine a_iconst hX dX10_takes_16 (pc' := 17) rfl ?_
    refine a_icmp_eq hX (by omega) (by omega) dX10_takes_17 (pc' := 20) rfl (tgt := 24) (by decide) (fun c17 => ?_) (fun c17 => ?_)
    · refine a_iconst hX dX10_takes_24 (pc' := 25) rfl ?_
      refine a_zret hX (by omega) dX10_takes_25 (hE _ _ _ ?_)
      refine ⟨aLf ?_, rfl, rfl⟩
      first | exact (aTr_pos (by omega)).symm | exact (aTr_neg (by omega)).symm
    · refine a_iconst hX dX10_takes_20 (pc' := 21) rfl ?_
      refine a_goto hX dX10_takes_21 (tgt := 25) (by decide) ?_
      refine a_zret hX (by omega) dX10_takes_25 (hE _ _ _ ?_)
      refine ⟨aLf ?_, rfl, rfl⟩
      first | exact (aTr_pos (by omega)).symm | exact (aTr_neg (by omega)).symm

set_option maxHeartbeats 4000000 in
set_option maxRecDepth 100000 in
theorem q_canFall {G : aG} {Z : aZ} {Y : aY} {l c p : Int} (hc : -2147483648 ≤ c ∧ c < 2147483648) (hp : -2147483648 ≤ p ∧ p < 2147483648) (hl : 0 ≤ l ∧ l ≤ 1) (hB : aB Z) (hP : okP (vQ Z)) (hS : okS (vQ Z) (vR Z l)) (hd : Z 69 (16 * l + 15) ≤ 5000) : aSi G yX10_canFall cX10_canFall 5 (some .boolean) 2 46 [.ref (G.1 62), .int (aI l), .int (aI c), .int (aI p)] Z Y (aTr (pHasC (vQ Z) c && pHasP (vQ Z) p && sCan (vQ Z) (vR Z l) c p)) := by
  refine aS.of (own := RX10) (by decide +kernel) rfl 1 (Nat.le_of_ble_eq_true rfl) (fun X hX hE => ?_)
  show AW X G 0 [some (.ref (G.1 62)), some (.int (aI l)), some (.int (aI c)), some (.int (aI p)), none] [] Z Y
  have hfQ := fQ hP
  have hfR := fR hS
  refine a_bipush hX rfl dX10_canFall_0 (pc' := 2) rfl ?_
  refine a_iload_n hX rfl rfl dX10_canFall_2 (pc' := 3) rfl ?_
  refine a_imul hX dX10_canFall_3 (pc' := 4) rfl ?_
  refine a_istore4 hX (by decide) rfl dX10_canFall_4 (pc' := 6) rfl ?_
  refine a_aload_n hX rfl rfl dX10_canFall_6 (pc' := 7) rfl ?_
  refine a_iload_n hX rfl rfl dX10_canFall_7 (pc' := 8) rfl ?_
  refine a_cV1i hX cv_X10_118 (q_isCloud (by omega) hB hP) rfl (by decide) ⟨by decide, by decide⟩ (Nat.le_of_ble_eq_true rfl) dX10_canFall_8 (pc' := 11) rfl ?_
  refine a_ifb_eq hX dX10_canFall_11 (pc' := 14) rfl (tgt := 98) (by decide) (fun c11 => ?_) (fun c11 => ?_)
  · refine a_iconst hX dX10_canFall_98 (pc' := 99) rfl ?_
    refine a_zret hX (by omega) dX10_canFall_99 (hE _ _ _ ?_)
    first
      | exact ⟨aLf (aTr_false (by rw [c11]; rfl)).symm, rfl, rfl⟩
      | exact ⟨aLf (aTr_false (by rw [c11, c19]; rfl)).symm, rfl, rfl⟩
      | (refine ⟨aLf ?_, rfl, rfl⟩
         rw [c11, c19, Bool.true_and, Bool.true_and, qCan_eq (by omega)]
         first
           | exact (aTr_pos ⟨c37, by omega, by omega, of_decide_eq_true c64, fun q => by first | exact absurd q c74 | exact c91⟩).symm
           | (refine (aTr_neg ?_).symm
              rintro ⟨a1, a2, a3, a4, a5⟩
              first | exact c37 a1 | exact absurd a4 (of_decide_eq_false c64) | exact c91 (a5 c74) | omega))
  · have hc1 := qHasC_no c11
    refine a_aload_n hX rfl rfl dX10_canFall_14 (pc' := 15) rfl ?_
    refine a_iload_n hX rfl rfl dX10_canFall_15 (pc' := 16) rfl ?_
    refine a_cV1i hX cv_X10_122 (q_isPaper (by omega) hB hP) rfl (by decide) ⟨by decide, by decide⟩ (Nat.le_of_ble_eq_true rfl) dX10_canFall_16 (pc' := 19) rfl ?_
    refine a_ifb_eq hX dX10_canFall_19 (pc' := 22) rfl (tgt := 98) (by decide) (fun c19 => ?_) (fun c19 => ?_)
    · refine a_iconst hX dX10_canFall_98 (pc' := 99) rfl ?_
      refine a_zret hX (by omega) dX10_canFall_99 (hE _ _ _ ?_)
      first
        | exact ⟨aLf (aTr_false (by rw [c11]; rfl)).symm, rfl, rfl⟩
        | exact ⟨aLf (aTr_false (by rw [c11, c19]; rfl)).symm, rfl, rfl⟩
        | (refine ⟨aLf ?_, rfl, rfl⟩
           rw [c11, c19, Bool.true_and, Bool.true_and, qCan_eq (by omega)]
           first
             | exact (aTr_pos ⟨c37, by omega, by omega, of_decide_eq_true c64, fun q => by first | exact absurd q c74 | exact c91⟩).symm
             | (refine (aTr_neg ?_).symm
                rintro ⟨a1, a2, a3, a4, a5⟩
                first | exact c37 a1 | exact absurd a4 (of_decide_eq_false c64) | exact c91 (a5 c74) | omega))
    · have hp1 := qHasP_no c19
      refine a_aload_n hX rfl rfl dX10_canFall_22 (pc' := 23) rfl ?_
      refine a_getfR hX (r := 69) fl_X10_28 rfl (by decide) rfl dX10_canFall_23 (pc' := 26) rfl ?_
      refine a_iload hX rfl dX10_canFall_26 (pc' := 28) rfl ?_
      refine a_iload_n hX rfl rfl dX10_canFall_28 (pc' := 29) rfl ?_
      refine a_iadd hX dX10_canFall_29 (pc' := 30) rfl ?_
      refine a_iald hX rfl (by decide) (by decide) (by omega) hB dX10_canFall_30 (pc' := 31) rfl (fun hb => ?_)
      refine a_aload_n hX rfl rfl dX10_canFall_31 (pc' := 32) rfl ?_
      refine a_getfR hX (r := 65) fl_X10_16 rfl (by decide) rfl dX10_canFall_32 (pc' := 35) rfl ?_
      refine a_iload_n hX rfl rfl dX10_canFall_35 (pc' := 36) rfl ?_
      refine a_iald hX rfl (by decide) (by decide) (by omega) hB dX10_canFall_36 (pc' := 37) rfl (fun hb => ?_)
      refine a_icmp_ne hX (by omega) (by omega) dX10_canFall_37 (pc' := 40) rfl (tgt := 98) (by decide) (fun c37 => ?_) (fun c37 => ?_)
      · refine a_iconst hX dX10_canFall_98 (pc' := 99) rfl ?_
        refine a_zret hX (by omega) dX10_canFall_99 (hE _ _ _ ?_)
        first
          | exact ⟨aLf (aTr_false (by rw [c11]; rfl)).symm, rfl, rfl⟩
          | exact ⟨aLf (aTr_false (by rw [c11, c19]; rfl)).symm, rfl, rfl⟩
          | (refine ⟨aLf ?_, rfl, rfl⟩
             rw [c11, c19, Bool.true_and, Bool.true_and, qCan_eq (by omega)]
             first
               | exact (aTr_pos ⟨c37, by omega, by omega, of_decide_eq_true c64, fun q => by first | exact absurd q c74 | exact c91⟩).symm
               | (refine (aTr_neg ?_).symm
                  rintro ⟨a1, a2, a3, a4, a5⟩
                  first | exact c37 a1 | exact absurd a4 (of_decide_eq_false c64) | exact c91 (a5 c74) | omega))
      · refine a_aload_n hX rfl rfl dX10_canFall_40 (pc' := 41) rfl ?_
        refine a_iload_n hX rfl rfl dX10_canFall_41 (pc' := 42) rfl ?_
        refine a_iload_n hX rfl rfl dX10_canFall_42 (pc' := 43) rfl ?_
        refine a_cV2i hX cv_X10_125 (q_owed (by omega) hl hB hP hS hd) rfl (by decide) ⟨by decide, by decide⟩ (Nat.le_of_ble_eq_true rfl) dX10_canFall_43 (pc' := 46) rfl ?_
        have hw1 := sOwed_rng hP hS (p := p) (by omega)
        refine a_if_le hX (by omega) dX10_canFall_46 (pc' := 49) rfl (tgt := 98) (by decide) (fun c46 => ?_) (fun c46 => ?_)
        · refine a_iconst hX dX10_canFall_98 (pc' := 99) rfl ?_
          refine a_zret hX (by omega) dX10_canFall_99 (hE _ _ _ ?_)
          first
            | exact ⟨aLf (aTr_false (by rw [c11]; rfl)).symm, rfl, rfl⟩
            | exact ⟨aLf (aTr_false (by rw [c11, c19]; rfl)).symm, rfl, rfl⟩
            | (refine ⟨aLf ?_, rfl, rfl⟩
               rw [c11, c19, Bool.true_and, Bool.true_and, qCan_eq (by omega)]
               first
                 | exact (aTr_pos ⟨c37, by omega, by omega, of_decide_eq_true c64, fun q => by first | exact absurd q c74 | exact c91⟩).symm
                 | (refine (aTr_neg ?_).symm
                    rintro ⟨a1, a2, a3, a4, a5⟩
                    first | exact c37 a1 | exact absurd a4 (of_decide_eq_false c64) | exact c91 (a5 c74) | omega))
        · refine a_aload_n hX rfl rfl dX10_canFall_49 (pc' := 50) rfl ?_
          refine a_iload_n hX rfl rfl dX10_canFall_50 (pc' := 51) rfl ?_
          refine a_iload_n hX rfl rfl dX10_canFall_51 (pc' := 52) rfl ?_
          refine a_cV2i hX cv_X10_128 (q_holds (by omega) hl hB hP hS hd) rfl (by decide) ⟨by decide, by decide⟩ (Nat.le_of_ble_eq_true rfl) dX10_canFall_52 (pc' := 55) rfl ?_
          have hw2 := sHas_rng hS (c := c) (by omega)
          refine a_if_le hX (by omega) dX10_canFall_55 (pc' := 58) rfl (tgt := 98) (by decide) (fun c55 => ?_) (fun c55 => ?_)
          · refine a_iconst hX dX10_canFall_98 (pc' := 99) rfl ?_
            refine a_zret hX (by omega) dX10_canFall_99 (hE _ _ _ ?_)
            first
              | exact ⟨aLf (aTr_false (by rw [c11]; rfl)).symm, rfl, rfl⟩
              | exact ⟨aLf (aTr_false (by rw [c11, c19]; rfl)).symm, rfl, rfl⟩
              | (refine ⟨aLf ?_, rfl, rfl⟩
                 rw [c11, c19, Bool.true_and, Bool.true_and, qCan_eq (by omega)]
                 first
                   | exact (aTr_pos ⟨c37, by omega, by omega, of_decide_eq_true c64, fun q => by first | exact absurd q c74 | exact c91⟩).symm
                   | (refine (aTr_neg ?_).symm
                      rintro ⟨a1, a2, a3, a4, a5⟩
                      first | exact c37 a1 | exact absurd a4 (of_decide_eq_false c64) | exact c91 (a5 c74) | omega))
          · refine a_aload_n hX rfl rfl dX10_canFall_58 (pc' := 59) rfl ?_
            refine a_iload_n hX rfl rfl dX10_canFall_59 (pc' := 60) rfl ?_
            refine a_iload_n hX rfl rfl dX10_canFall_60 (pc' := 61) rfl ?_
            refine a_cV2i hX cv_X10_131 (q_takes (by omega) (by omega) hB hP) rfl (by decide) ⟨by decide, by decide⟩ (Nat.le_of_ble_eq_true rfl) dX10_canFall_61 (pc' := 64) rfl ?_
            refine a_ifb_eq hX dX10_canFall_64 (pc' := 67) rfl (tgt := 98) (by decide) (fun c64 => ?_) (fun c64 => ?_)
            · refine a_iconst hX dX10_canFall_98 (pc' := 99) rfl ?_
              refine a_zret hX (by omega) dX10_canFall_99 (hE _ _ _ ?_)
              first
                | exact ⟨aLf (aTr_false (by rw [c11]; rfl)).symm, rfl, rfl⟩
                | exact ⟨aLf (aTr_false (by rw [c11, c19]; rfl)).symm, rfl, rfl⟩
                | (refine ⟨aLf ?_, rfl, rfl⟩
                   rw [c11, c19, Bool.true_and, Bool.true_and, qCan_eq (by omega)]
                   first
                     | exact (aTr_pos ⟨c37, by omega, by omega, of_decide_eq_true c64, fun q => by first | exact absurd q c74 | exact c91⟩).symm
                     | (refine (aTr_neg ?_).symm
                        rintro ⟨a1, a2, a3, a4, a5⟩
                        first | exact c37 a1 | exact absurd a4 (of_decide_eq_false c64) | exact c91 (a5 c74) | omega))
            · refine a_aload_n hX rfl rfl dX10_canFall_67 (pc' := 68) rfl ?_
              refine a_getfR hX (r := 68) fl_X10_25 rfl (by decide) rfl dX10_canFall_68 (pc' := 71) rfl ?_
              refine a_iload_n hX rfl rfl dX10_canFall_71 (pc' := 72) rfl ?_
              refine a_iald hX rfl (by decide) (by decide) (by omega) hB dX10_canFall_72 (pc' := 73) rfl (fun hb => ?_)
              refine a_iconst hX dX10_canFall_73 (pc' := 74) rfl ?_
              refine a_icmp_ne hX (by omega) (by omega) dX10_canFall_74 (pc' := 77) rfl (tgt := 94) (by decide) (fun c74 => ?_) (fun c74 => ?_)
              · refine a_iconst hX dX10_canFall_94 (pc' := 95) rfl ?_
                refine a_goto hX dX10_canFall_95 (tgt := 99) (by decide) ?_
                refine a_zret hX (by omega) dX10_canFall_99 (hE _ _ _ ?_)
                first
                  | exact ⟨aLf (aTr_false (by rw [c11]; rfl)).symm, rfl, rfl⟩
                  | exact ⟨aLf (aTr_false (by rw [c11, c19]; rfl)).symm, rfl, rfl⟩
                  | (refine ⟨aLf ?_, rfl, rfl⟩
                     rw [c11, c19, Bool.true_and, Bool.true_and, qCan_eq (by omega)]
                     first
                       | exact (aTr_pos ⟨c37, by omega, by omega, of_decide_eq_true c64, fun q => by first | exact absurd q c74 | exact c91⟩).symm
                       | (refine (aTr_neg ?_).symm
                          rintro ⟨a1, a2, a3, a4, a5⟩
                          first | exact c37 a1 | exact absurd a4 (of_decide_eq_false c64) | exact c91 (a5 c74) | omega))
              · refine a_aload_n hX rfl rfl dX10_canFall_77 (pc' := 78) rfl ?_
                refine a_aload_n hX rfl rfl dX10_canFall_78 (pc' := 79) rfl ?_
                refine a_getfR hX (r := 69) fl_X10_28 rfl (by decide) rfl dX10_canFall_79 (pc' := 82) rfl ?_
                refine a_iload hX rfl dX10_canFall_82 (pc' := 84) rfl ?_
                refine a_bipush hX rfl dX10_canFall_84 (pc' := 86) rfl ?_
                refine a_iadd hX dX10_canFall_86 (pc' := 87) rfl ?_
                refine a_iald hX rfl (by decide) (by decide) (by omega) hB dX10_canFall_87 (pc' := 88) rfl (fun hb => ?_)
                refine a_cV1i hX cv_X10_134 (q_windOf (by omega) hB hP) rfl (by decide) ⟨by decide, by decide⟩ (Nat.le_of_ble_eq_true rfl) dX10_canFall_88 (pc' := 91) rfl ?_
                have hwr := pWind_rng hP (Z 69 (16 * l + 15))
                refine a_if_ne hX (by omega) dX10_canFall_91 (pc' := 94) rfl (tgt := 98) (by decide) (fun c91 => ?_) (fun c91 => ?_)
                · refine a_iconst hX dX10_canFall_98 (pc' := 99) rfl ?_
                  refine a_zret hX (by omega) dX10_canFall_99 (hE _ _ _ ?_)
                  first
                    | exact ⟨aLf (aTr_false (by rw [c11]; rfl)).symm, rfl, rfl⟩
                    | exact ⟨aLf (aTr_false (by rw [c11, c19]; rfl)).symm, rfl, rfl⟩
                    | (refine ⟨aLf ?_, rfl, rfl⟩
                       rw [c11, c19, Bool.true_and, Bool.true_and, qCan_eq (by omega)]
                       first
                         | exact (aTr_pos ⟨c37, by omega, by omega, of_decide_eq_true c64, fun q => by first | exact absurd q c74 | exact c91⟩).symm
                         | (refine (aTr_neg ?_).symm
                            rintro ⟨a1, a2, a3, a4, a5⟩
                            first | exact c37 a1 | exact absurd a4 (of_decide_eq_false c64) | exact c91 (a5 c74) | omega))
                · refine a_iconst hX dX10_canFall_94 (pc' := 95) rfl ?_
                  refine a_goto hX dX10_canFall_95 (tgt := 99) (by decide) ?_
                  refine a_zret hX (by omega) dX10_canFall_99 (hE _ _ _ ?_)
                  first
                    | exact ⟨aLf (aTr_false (by rw [c11]; rfl)).symm, rfl, rfl⟩
                    | exact ⟨aLf (aTr_false (by rw [c11, c19]; rfl)).symm, rfl, rfl⟩
                    | (refine ⟨aLf ?_, rfl, rfl⟩
                       rw [c11, c19, Bool.true_and, Bool.true_and, qCan_eq (by omega)]
                       first
                         | exact (aTr_pos ⟨c37, by omega, by omega, of_decide_eq_true c64, fun q => by first | exact absurd q c74 | exact c91⟩).symm
                         | (refine (aTr_neg ?_).symm
                            rintro ⟨a1, a2, a3, a4, a5⟩
                            first | exact c37 a1 | exact absurd a4 (of_decide_eq_false c64) | exact c91 (a5 c74) | omega))

set_option maxHeartbeats 4000000 in
set_option maxRecDepth 100000 in
theorem q_owedInAll {G : aG} {Z : aZ} {Y : aY} {l : Int} (hl : 0 ≤ l ∧ l ≤ 1) (hB : aB Z) (hP : okP (vQ Z)) (hS : okS (vQ Z) (vR Z l)) (hd : Z 69 (16 * l + 15) ≤ 5000) : aSi G yX10_owedInAll cX10_owedInAll 4 (some .int) 2 44 [.ref (G.1 62), .int (aI l)] Z Y (sOwedAll (vQ Z) (vR Z l)) := by
  refine aS.of (own := RX10) (by decide +kernel) rfl 2 (Nat.le_of_ble_eq_true rfl) (fun X hX hE => ?_)
  show AW X G 0 [some (.ref (G.1 62)), some (.int (aI l)), none, none] [] Z Y
  have hfQ := fQ hP
  have hfR := fR hS
  refine a_iconst hX dX10_owedInAll_0 (pc' := 1) rfl ?_
  refine a_istore2 hX rfl (by decide) rfl dX10_owedInAll_1 (pc' := 2) rfl ?_
  refine a_iconst hX dX10_owedInAll_2 (pc' := 3) rfl ?_
  refine a_istore3 hX rfl (by decide) rfl dX10_owedInAll_3 (pc' := 4) rfl ?_
  have L4 : ∀ (n : Nat) (i : Int), (0 ≤ i ∧ i ≤ Z 62 2) → (Z 62 2 - i).toNat < n → AW X G 4 [some (.ref (G.1 62)), some (.int (aI l)), some (.int (aI (aSum (sOwed (vQ Z) (vR Z l)) i.toNat))), some (.int (aI i))] [] Z Y := by
    intro n
    induction n with
    | zero =>
      intro i hi hn
      omega
    | succ n ih =>
      intro i hi hn
      refine a_iload_n hX rfl rfl dX10_owedInAll_4 (pc' := 5) rfl ?_
      refine a_aload_n hX rfl rfl dX10_owedInAll_5 (pc' := 6) rfl ?_
      refine a_getfI hX (ji := 2) rfl hB fl_X10_108 rfl (by decide) rfl dX10_owedInAll_6 (pc' := 9) rfl (fun hb => ?_)
      refine a_icmp_ge hX (by omega) (by omega) dX10_owedInAll_9 (pc' := 12) rfl (tgt := 27) (by decide) (fun c9 => ?_) (fun c9 => ?_)
      · refine a_iload_n hX rfl rfl dX10_owedInAll_27 (pc' := 28) rfl ?_
        refine a_iret hX dX10_owedInAll_28 (hE _ _ _ ?_)
        obtain rfl : i = Z 62 2 := by omega
        refine ⟨aLf ?_, rfl, rfl⟩
        unfold sOwedAll
        rw [vQ_2]
      · refine a_iload_n hX rfl rfl dX10_owedInAll_12 (pc' := 13) rfl ?_
        refine a_aload_n hX rfl rfl dX10_owedInAll_13 (pc' := 14) rfl ?_
        refine a_iload_n hX rfl rfl dX10_owedInAll_14 (pc' := 15) rfl ?_
        refine a_iload_n hX rfl rfl dX10_owedInAll_15 (pc' := 16) rfl ?_
        refine a_cV2i hX cv_X10_125 (q_owed (by omega) hl hB hP hS hd) rfl (by decide) ⟨by decide, by decide⟩ (Nat.le_of_ble_eq_true rfl) dX10_owedInAll_16 (pc' := 19) rfl ?_
        refine a_iadd hX dX10_owedInAll_19 (pc' := 20) rfl ?_
        refine a_istore2 hX rfl (by decide) rfl dX10_owedInAll_20 (pc' := 21) rfl ?_
        refine a_iinc3 hX (by decide) rfl dX10_owedInAll_21 (pc' := 24) rfl ?_
        refine a_goto hX dX10_owedInAll_24 (tgt := 4) (by decide) ?_
        have H := ih (i + 1) (by omega) (by omega)
        rw [aSum_s (by omega)] at H
        exact H
  exact L4 6 0 (by omega) (by omega)

def qFilled (P : aP) (S : aSk) : Int := aSum (fun p => S (8 + p)) (P 0 2).toNat

set_option maxHeartbeats 4000000 in
set_option maxRecDepth 100000 in
theorem q_filledInAll {G : aG} {Z : aZ} {Y : aY} {l : Int} (hl : 0 ≤ l ∧ l ≤ 1) (hB : aB Z) (hP : okP (vQ Z)) (hS : okS (vQ Z) (vR Z l)) (hd : Z 69 (16 * l + 15) ≤ 5000) : aSi G yX10_filledInAll cX10_filledInAll 4 (some .int) 0 0 [.ref (G.1 62), .int (aI l)] Z Y (qFilled (vQ Z) (vR Z l)) := by
  refine aS.of (own := RX10) (by decide +kernel) rfl 2 (Nat.le_of_ble_eq_true rfl) (fun X hX hE => ?_)
  show AW X G 0 [some (.ref (G.1 62)), some (.int (aI l)), none, none] [] Z Y
  have hfQ := fQ hP
  have hfR := fR hS
  refine a_iconst hX dX10_filledInAll_0 (pc' := 1) rfl ?_
  refine a_istore2 hX rfl (by decide) rfl dX10_filledInAll_1 (pc' := 2) rfl ?_
  refine a_iconst hX dX10_filledInAll_2 (pc' := 3) rfl ?_
  refine a_istore3 hX rfl (by decide) rfl dX10_filledInAll_3 (pc' := 4) rfl ?_
  have L4 : ∀ (n : Nat) (i : Int), (0 ≤ i ∧ i ≤ Z 62 2) → (Z 62 2 - i).toNat < n → AW X G 4 [some (.ref (G.1 62)), some (.int (aI l)), some (.int (aI (aSum (fun p => vR Z l (8 + p)) i.toNat))), some (.int (aI i))] [] Z Y := by
    intro n
    induction n with
    | zero =>
      intro i hi hn
      omega
    | succ n ih =>
      intro i hi hn
      refine a_iload_n hX rfl rfl dX10_filledInAll_4 (pc' := 5) rfl ?_
      refine a_aload_n hX rfl rfl dX10_filledInAll_5 (pc' := 6) rfl ?_
      refine a_getfI hX (ji := 2) rfl hB fl_X10_108 rfl (by decide) rfl dX10_filledInAll_6 (pc' := 9) rfl (fun hb => ?_)
      refine a_icmp_ge hX (by omega) (by omega) dX10_filledInAll_9 (pc' := 12) rfl (tgt := 35) (by decide) (fun c9 => ?_) (fun c9 => ?_)
      · refine a_iload_n hX rfl rfl dX10_filledInAll_35 (pc' := 36) rfl ?_
        refine a_iret hX dX10_filledInAll_36 (hE _ _ _ ?_)
        obtain rfl : i = Z 62 2 := by omega
        refine ⟨aLf ?_, rfl, rfl⟩
        unfold qFilled
        rw [vQ_2]
      · refine a_iload_n hX rfl rfl dX10_filledInAll_12 (pc' := 13) rfl ?_
        refine a_aload_n hX rfl rfl dX10_filledInAll_13 (pc' := 14) rfl ?_
        refine a_getfR hX (r := 69) fl_X10_28 rfl (by decide) rfl dX10_filledInAll_14 (pc' := 17) rfl ?_
        refine a_bipush hX rfl dX10_filledInAll_17 (pc' := 19) rfl ?_
        refine a_iload_n hX rfl rfl dX10_filledInAll_19 (pc' := 20) rfl ?_
        refine a_imul hX dX10_filledInAll_20 (pc' := 21) rfl ?_
        refine a_bipush hX rfl dX10_filledInAll_21 (pc' := 23) rfl ?_
        refine a_iadd hX dX10_filledInAll_23 (pc' := 24) rfl ?_
        refine a_iload_n hX rfl rfl dX10_filledInAll_24 (pc' := 25) rfl ?_
        refine a_iadd hX dX10_filledInAll_25 (pc' := 26) rfl ?_
        refine a_iald hX rfl (by decide) (by decide) (by omega) hB dX10_filledInAll_26 (pc' := 27) rfl (fun hb => ?_)
        refine a_iadd hX dX10_filledInAll_27 (pc' := 28) rfl ?_
        refine a_istore2 hX rfl (by decide) rfl dX10_filledInAll_28 (pc' := 29) rfl ?_
        refine a_iinc3 hX (by decide) rfl dX10_filledInAll_29 (pc' := 32) rfl ?_
        refine a_goto hX dX10_filledInAll_32 (tgt := 4) (by decide) ?_
        have H := ih (i + 1) (by omega) (by omega)
        rw [aSum_s (by omega), vR_fi' (p := i) (by omega)] at H
        exact H
  exact L4 6 0 (by omega) (by omega)

set_option maxHeartbeats 4000000 in
set_option maxRecDepth 100000 in
theorem q_owedBy {G : aG} {Z : aZ} {Y : aY} {l m : Int} (hm : 0 ≤ m ∧ m < 2147483648) (hl : 0 ≤ l ∧ l ≤ 1) (hB : aB Z) (hP : okP (vQ Z)) (hS : okS (vQ Z) (vR Z l)) (hd : Z 69 (16 * l + 15) ≤ 5000) : aSi G yX10_owedBy cX10_owedBy 5 (some .int) 2 44 [.ref (G.1 62), .int (aI l), .int (aI m)] Z Y (sOwedBy (vQ Z) (vR Z l) m) := by
  refine aS.of (own := RX10) (by decide +kernel) rfl 2 (Nat.le_of_ble_eq_true rfl) (fun X hX hE => ?_)
  show AW X G 0 [some (.ref (G.1 62)), some (.int (aI l)), some (.int (aI m)), none, none] [] Z Y
  have hfQ := fQ hP
  have hfR := fR hS
  refine a_iconst hX dX10_owedBy_0 (pc' := 1) rfl ?_
  refine a_istore3 hX rfl (by decide) rfl dX10_owedBy_1 (pc' := 2) rfl ?_
  refine a_iconst hX dX10_owedBy_2 (pc' := 3) rfl ?_
  refine a_istore4 hX (by decide) rfl dX10_owedBy_3 (pc' := 5) rfl ?_
  have L5 : ∀ (n : Nat) (i : Int), (0 ≤ i ∧ i ≤ Z 62 2) → (Z 62 2 - i).toNat < n → AW X G 5 [some (.ref (G.1 62)), some (.int (aI l)), some (.int (aI m)), some (.int (aI (aSum (fun p => if aBit m p = true then sOwed (vQ Z) (vR Z l) p else 0) i.toNat))), some (.int (aI i))] [] Z Y := by
    intro n
    induction n with
    | zero =>
      intro i hi hn
      omega
    | succ n ih =>
      intro i hi hn
      refine a_iload hX rfl dX10_owedBy_5 (pc' := 7) rfl ?_
      refine a_aload_n hX rfl rfl dX10_owedBy_7 (pc' := 8) rfl ?_
      refine a_getfI hX (ji := 2) rfl hB fl_X10_108 rfl (by decide) rfl dX10_owedBy_8 (pc' := 11) rfl (fun hb => ?_)
      refine a_icmp_ge hX (by omega) (by omega) dX10_owedBy_11 (pc' := 14) rfl (tgt := 43) (by decide) (fun c11 => ?_) (fun c11 => ?_)
      · refine a_iload_n hX rfl rfl dX10_owedBy_43 (pc' := 44) rfl ?_
        refine a_iret hX dX10_owedBy_44 (hE _ _ _ ?_)
        obtain rfl : i = Z 62 2 := by omega
        refine ⟨aLf ?_, rfl, rfl⟩
        unfold sOwedBy
        rw [vQ_2]
      · refine a_iload_n hX rfl rfl dX10_owedBy_14 (pc' := 15) rfl ?_
        refine a_iload_n hX rfl rfl dX10_owedBy_15 (pc' := 16) rfl ?_
        refine a_iload hX rfl dX10_owedBy_16 (pc' := 18) rfl ?_
        refine a_cS2i hX cs_X10_114 (q_has (by omega) (by omega)) ⟨by decide, by decide⟩ (Nat.le_of_ble_eq_true rfl) dX10_owedBy_18 (pc' := 21) rfl ?_
        refine a_ifb_eq hX dX10_owedBy_21 (pc' := 24) rfl (tgt := 34) (by decide) (fun c21 => ?_) (fun c21 => ?_)
        · refine a_iconst hX dX10_owedBy_34 (pc' := 35) rfl ?_
          refine a_iadd hX dX10_owedBy_35 (pc' := 36) rfl ?_
          refine a_istore3 hX rfl (by decide) rfl dX10_owedBy_36 (pc' := 37) rfl ?_
          refine a_iinc4 hX (by decide) rfl dX10_owedBy_37 (pc' := 40) rfl ?_
          refine a_goto hX dX10_owedBy_40 (tgt := 5) (by decide) ?_
          have H := ih (i + 1) (by omega) (by omega)
          rw [aSum_s (by omega), c21] at H
          exact H
        · refine a_aload_n hX rfl rfl dX10_owedBy_24 (pc' := 25) rfl ?_
          refine a_iload_n hX rfl rfl dX10_owedBy_25 (pc' := 26) rfl ?_
          refine a_iload hX rfl dX10_owedBy_26 (pc' := 28) rfl ?_
          refine a_cV2i hX cv_X10_125 (q_owed (by omega) hl hB hP hS hd) rfl (by decide) ⟨by decide, by decide⟩ (Nat.le_of_ble_eq_true rfl) dX10_owedBy_28 (pc' := 31) rfl ?_
          refine a_goto hX dX10_owedBy_31 (tgt := 35) (by decide) ?_
          refine a_iadd hX dX10_owedBy_35 (pc' := 36) rfl ?_
          refine a_istore3 hX rfl (by decide) rfl dX10_owedBy_36 (pc' := 37) rfl ?_
          refine a_iinc4 hX (by decide) rfl dX10_owedBy_37 (pc' := 40) rfl ?_
          refine a_goto hX dX10_owedBy_40 (tgt := 5) (by decide) ?_
          have H := ih (i + 1) (by omega) (by omega)
          rw [aSum_s (by omega), c21] at H
          exact H
  exact L5 6 0 (by omega) (by omega)

set_option maxHeartbeats 4000000 in
set_option maxRecDepth 100000 in
theorem q_canServe {G : aG} {Z : aZ} {Y : aY} {l c p : Int} (hc : 0 ≤ c ∧ c < Z 62 1) (hp : 0 ≤ p ∧ p < Z 62 2) (hl : 0 ≤ l ∧ l ≤ 1) (hB : aB Z) (hP : okP (vQ Z)) (hS : okS (vQ Z) (vR Z l)) (hd : Z 69 (16 * l + 15) ≤ 5000) : aSi G yX10_canServe cX10_canServe 8 (some .boolean) 2 44 [.ref (G.1 62), .int (aI l), .int (aI c), .int (aI p)] Z Y (aTr (sServ (vQ Z) (vR Z l) c (vR Z l c) p)) := by
  refine aS.of (own := RX10) (by decide +kernel) rfl 4 (Nat.le_of_ble_eq_true rfl) (fun X hX hE => ?_)
  show AW X G 0 [some (.ref (G.1 62)), some (.int (aI l)), some (.int (aI c)), some (.int (aI p)), none, none, none, none] [] Z Y
  have hfQ := fQ hP
  have hfR := fR hS
  refine a_bipush hX rfl dX10_canServe_0 (pc' := 2) rfl ?_
  refine a_iload_n hX rfl rfl dX10_canServe_2 (pc' := 3) rfl ?_
  refine a_imul hX dX10_canServe_3 (pc' := 4) rfl ?_
  refine a_istore4 hX (by decide) rfl dX10_canServe_4 (pc' := 6) rfl ?_
  refine a_aload_n hX rfl rfl dX10_canServe_6 (pc' := 7) rfl ?_
  refine a_getfR hX (r := 69) fl_X10_28 rfl (by decide) rfl dX10_canServe_7 (pc' := 10) rfl ?_
  refine a_iload hX rfl dX10_canServe_10 (pc' := 12) rfl ?_
  refine a_iload_n hX rfl rfl dX10_canServe_12 (pc' := 13) rfl ?_
  refine a_iadd hX dX10_canServe_13 (pc' := 14) rfl ?_
  refine a_iald hX rfl (by decide) (by decide) (by omega) hB dX10_canServe_14 (pc' := 15) rfl (fun hb => ?_)
  have hy0 := fRy hS (c := c) (by omega)
  refine a_istore5 hX (by decide) rfl dX10_canServe_15 (pc' := 17) rfl ?_
  refine a_iconst hX dX10_canServe_17 (pc' := 18) rfl ?_
  refine a_istore6 hX (by decide) rfl dX10_canServe_18 (pc' := 20) rfl ?_
  refine a_aload_n hX rfl rfl dX10_canServe_20 (pc' := 21) rfl ?_
  refine a_getfR hX (r := 69) fl_X10_28 rfl (by decide) rfl dX10_canServe_21 (pc' := 24) rfl ?_
  refine a_iload hX rfl dX10_canServe_24 (pc' := 26) rfl ?_
  refine a_bipush hX rfl dX10_canServe_26 (pc' := 28) rfl ?_
  refine a_iadd hX dX10_canServe_28 (pc' := 29) rfl ?_
  refine a_iald hX rfl (by decide) (by decide) (by omega) hB dX10_canServe_29 (pc' := 30) rfl (fun hb => ?_)
  refine a_istore7 hX (by decide) rfl dX10_canServe_30 (pc' := 32) rfl ?_
  have L32 : ∀ (n : Nat) (d : Int), (0 ≤ d ∧ (d ≤ Z 66 p + 1 - Z 69 (16 * l + 15) ∨ d = 0)) → (Z 66 p + 1 - Z 69 (16 * l + 15) - d).toNat < n → AW X G 32 [some (.ref (G.1 62)), some (.int (aI l)), some (.int (aI c)), some (.int (aI p)), some (.int (aI (16 * l))), some (.int (aI (pCarry (vQ Z) (Z 64 c) (Z 69 (16 * l + c)) (Z 69 (16 * l + 15)) d.toNat))), some (.int (aI (aTr (qOn (vQ Z) (vR Z l) c (Z 69 (16 * l + c)) p d.toNat)))), some (.int (aI (Z 69 (16 * l + 15) + d)))] [] Z Y := by
    intro n
    induction n with
    | zero =>
      intro d hi hn
      omega
    | succ n ih =>
      intro d hi hn
      have hcy := pCarry_rng (P := vQ Z) (k := Z 64 c) (d := Z 69 (16 * l + 15)) hy0 d.toNat
      refine a_iload hX rfl dX10_canServe_32 (pc' := 34) rfl ?_
      refine a_aload_n hX rfl rfl dX10_canServe_34 (pc' := 35) rfl ?_
      refine a_getfR hX (r := 66) fl_X10_19 rfl (by decide) rfl dX10_canServe_35 (pc' := 38) rfl ?_
      refine a_iload_n hX rfl rfl dX10_canServe_38 (pc' := 39) rfl ?_
      refine a_iald hX rfl (by decide) (by decide) (by omega) hB dX10_canServe_39 (pc' := 40) rfl (fun hb => ?_)
      have hdu := fQd hP p
      have hkk := fQk hP c
      refine a_icmp_gt hX (by omega) (by omega) dX10_canServe_40 (pc' := 43) rfl (tgt := 110) (by decide) (fun c40 => ?_) (fun c40 => ?_)
      · refine a_iload hX rfl dX10_canServe_110 (pc' := 112) rfl ?_
        refine a_ifb_eq hX dX10_canServe_112 (pc' := 115) rfl (tgt := 146) (by decide) (fun c112 => ?_) (fun c112 => ?_)
        · refine a_iconst hX dX10_canServe_146 (pc' := 147) rfl ?_
          refine a_zret hX (by omega) dX10_canServe_147 (hE _ _ _ ?_)
          refine ⟨aLf ?_, rfl, rfl⟩
          have hdu := fQd hP p
          rw [qServ_eq hP, vR_yd (c := c) (by omega), vQ_d, vR_hi (show 8 ≤ (15 : Int) ∧ (15 : Int) < 16 by omega), vQ_pk, vQ_k]
          have ed : (Z 66 p + 1 - Z 69 (16 * l + 15)).toNat = d.toNat := by omega
          rw [ed]
          first
            | (rw [c112, Bool.false_and]; rfl)
            | (rw [c112, Bool.true_and]
               first
                 | exact (aTr_pos ⟨by omega, by omega, of_decide_eq_true c139⟩).symm
                 | (refine (aTr_neg ?_).symm
                    rintro ⟨a1, a2, a3⟩
                    first | exact absurd a3 (of_decide_eq_false c139) | omega))
        · refine a_aload_n hX rfl rfl dX10_canServe_115 (pc' := 116) rfl ?_
          refine a_iload_n hX rfl rfl dX10_canServe_116 (pc' := 117) rfl ?_
          refine a_iload_n hX rfl rfl dX10_canServe_117 (pc' := 118) rfl ?_
          refine a_cV2i hX cv_X10_125 (q_owed (by omega) hl hB hP hS hd) rfl (by decide) ⟨by decide, by decide⟩ (Nat.le_of_ble_eq_true rfl) dX10_canServe_118 (pc' := 121) rfl ?_
          have hw1 := sOwed_rng hP hS (p := p) (by omega)
          refine a_if_le hX (by omega) dX10_canServe_121 (pc' := 124) rfl (tgt := 146) (by decide) (fun c121 => ?_) (fun c121 => ?_)
          · refine a_iconst hX dX10_canServe_146 (pc' := 147) rfl ?_
            refine a_zret hX (by omega) dX10_canServe_147 (hE _ _ _ ?_)
            refine ⟨aLf ?_, rfl, rfl⟩
            have hdu := fQd hP p
            rw [qServ_eq hP, vR_yd (c := c) (by omega), vQ_d, vR_hi (show 8 ≤ (15 : Int) ∧ (15 : Int) < 16 by omega), vQ_pk, vQ_k]
            have ed : (Z 66 p + 1 - Z 69 (16 * l + 15)).toNat = d.toNat := by omega
            rw [ed]
            first
              | (rw [c112, Bool.false_and]; rfl)
              | (rw [c112, Bool.true_and]
                 first
                   | exact (aTr_pos ⟨by omega, by omega, of_decide_eq_true c139⟩).symm
                   | (refine (aTr_neg ?_).symm
                      rintro ⟨a1, a2, a3⟩
                      first | exact absurd a3 (of_decide_eq_false c139) | omega))
          · refine a_aload_n hX rfl rfl dX10_canServe_124 (pc' := 125) rfl ?_
            refine a_iload_n hX rfl rfl dX10_canServe_125 (pc' := 126) rfl ?_
            refine a_iload_n hX rfl rfl dX10_canServe_126 (pc' := 127) rfl ?_
            refine a_cV2i hX cv_X10_128 (q_holds (by omega) hl hB hP hS hd) rfl (by decide) ⟨by decide, by decide⟩ (Nat.le_of_ble_eq_true rfl) dX10_canServe_127 (pc' := 130) rfl ?_
            have hw2 := sHas_rng hS (c := c) (by omega)
            refine a_if_le hX (by omega) dX10_canServe_130 (pc' := 133) rfl (tgt := 146) (by decide) (fun c130 => ?_) (fun c130 => ?_)
            · refine a_iconst hX dX10_canServe_146 (pc' := 147) rfl ?_
              refine a_zret hX (by omega) dX10_canServe_147 (hE _ _ _ ?_)
              refine ⟨aLf ?_, rfl, rfl⟩
              have hdu := fQd hP p
              rw [qServ_eq hP, vR_yd (c := c) (by omega), vQ_d, vR_hi (show 8 ≤ (15 : Int) ∧ (15 : Int) < 16 by omega), vQ_pk, vQ_k]
              have ed : (Z 66 p + 1 - Z 69 (16 * l + 15)).toNat = d.toNat := by omega
              rw [ed]
              first
                | (rw [c112, Bool.false_and]; rfl)
                | (rw [c112, Bool.true_and]
                   first
                     | exact (aTr_pos ⟨by omega, by omega, of_decide_eq_true c139⟩).symm
                     | (refine (aTr_neg ?_).symm
                        rintro ⟨a1, a2, a3⟩
                        first | exact absurd a3 (of_decide_eq_false c139) | omega))
            · refine a_aload_n hX rfl rfl dX10_canServe_133 (pc' := 134) rfl ?_
              refine a_iload_n hX rfl rfl dX10_canServe_134 (pc' := 135) rfl ?_
              refine a_iload_n hX rfl rfl dX10_canServe_135 (pc' := 136) rfl ?_
              refine a_cV2i hX cv_X10_131 (q_takes (by omega) (by omega) hB hP) rfl (by decide) ⟨by decide, by decide⟩ (Nat.le_of_ble_eq_true rfl) dX10_canServe_136 (pc' := 139) rfl ?_
              refine a_ifb_eq hX dX10_canServe_139 (pc' := 142) rfl (tgt := 146) (by decide) (fun c139 => ?_) (fun c139 => ?_)
              · refine a_iconst hX dX10_canServe_146 (pc' := 147) rfl ?_
                refine a_zret hX (by omega) dX10_canServe_147 (hE _ _ _ ?_)
                refine ⟨aLf ?_, rfl, rfl⟩
                have hdu := fQd hP p
                rw [qServ_eq hP, vR_yd (c := c) (by omega), vQ_d, vR_hi (show 8 ≤ (15 : Int) ∧ (15 : Int) < 16 by omega), vQ_pk, vQ_k]
                have ed : (Z 66 p + 1 - Z 69 (16 * l + 15)).toNat = d.toNat := by omega
                rw [ed]
                first
                  | (rw [c112, Bool.false_and]; rfl)
                  | (rw [c112, Bool.true_and]
                     first
                       | exact (aTr_pos ⟨by omega, by omega, of_decide_eq_true c139⟩).symm
                       | (refine (aTr_neg ?_).symm
                          rintro ⟨a1, a2, a3⟩
                          first | exact absurd a3 (of_decide_eq_false c139) | omega))
              · refine a_iconst hX dX10_canServe_142 (pc' := 143) rfl ?_
                refine a_goto hX dX10_canServe_143 (tgt := 147) (by decide) ?_
                refine a_zret hX (by omega) dX10_canServe_147 (hE _ _ _ ?_)
                refine ⟨aLf ?_, rfl, rfl⟩
                have hdu := fQd hP p
                rw [qServ_eq hP, vR_yd (c := c) (by omega), vQ_d, vR_hi (show 8 ≤ (15 : Int) ∧ (15 : Int) < 16 by omega), vQ_pk, vQ_k]
                have ed : (Z 66 p + 1 - Z 69 (16 * l + 15)).toNat = d.toNat := by omega
                rw [ed]
                first
                  | (rw [c112, Bool.false_and]; rfl)
                  | (rw [c112, Bool.true_and]
                     first
                       | exact (aTr_pos ⟨by omega, by omega, of_decide_eq_true c139⟩).symm
                       | (refine (aTr_neg ?_).symm
                          rintro ⟨a1, a2, a3⟩
                          first | exact absurd a3 (of_decide_eq_false c139) | omega))
      · refine a_iload hX rfl dX10_canServe_43 (pc' := 45) rfl ?_
        refine a_ifb_ne hX dX10_canServe_45 (pc' := 48) rfl (tgt := 78) (by decide) (fun c45 => ?_) (fun c45 => ?_)
        · refine a_iconst hX dX10_canServe_78 (pc' := 79) rfl ?_
          refine a_goto hX dX10_canServe_79 (tgt := 83) (by decide) ?_
          refine a_istore6 hX (by decide) rfl dX10_canServe_83 (pc' := 85) rfl ?_
          refine a_iload hX rfl dX10_canServe_85 (pc' := 87) rfl ?_
          refine a_aload_n hX rfl rfl dX10_canServe_87 (pc' := 88) rfl ?_
          refine a_getfR hX (r := 64) fl_X10_13 rfl (by decide) rfl dX10_canServe_88 (pc' := 91) rfl ?_
          refine a_iload_n hX rfl rfl dX10_canServe_91 (pc' := 92) rfl ?_
          refine a_iald hX rfl (by decide) (by decide) (by omega) hB dX10_canServe_92 (pc' := 93) rfl (fun hb => ?_)
          refine a_aload_n hX rfl rfl dX10_canServe_93 (pc' := 94) rfl ?_
          refine a_iload hX rfl dX10_canServe_94 (pc' := 96) rfl ?_
          refine a_cV1i hX cv_X10_134 (q_windOf (by omega) hB hP) rfl (by decide) ⟨by decide, by decide⟩ (Nat.le_of_ble_eq_true rfl) dX10_canServe_96 (pc' := 99) rfl ?_
          have hwr := pWind_rng hP (Z 69 (16 * l + 15) + d)
          refine a_cS3i hX cs_X10_138 (q_blown (by omega) (by omega) (by omega)) ⟨by decide, by decide⟩ (Nat.le_of_ble_eq_true rfl) dX10_canServe_99 (pc' := 102) rfl ?_
          refine a_istore5 hX (by decide) rfl dX10_canServe_102 (pc' := 104) rfl ?_
          refine a_iinc7 hX (by decide) rfl dX10_canServe_104 (pc' := 107) rfl ?_
          refine a_goto hX dX10_canServe_107 (tgt := 32) (by decide) ?_
          have H := ih (d + 1) (by omega) (by omega)
          rw [show (d + 1).toNat = d.toNat + 1 by omega, pCarry_s, ← show (d + 1).toNat = d.toNat + 1 by omega, qOn_s (by omega), Int.toNat_of_nonneg hi.1, vR_hi (show 8 ≤ (15 : Int) ∧ (15 : Int) < 16 by omega), vQ_k, vQ_y, vQ_pk, show Z 69 (16 * l + 15) + (d + 1) = Z 69 (16 * l + 15) + d + 1 by omega] at H
          first
            | (rw [c45, Bool.true_or] at H; exact H)
            | (rw [c45, Bool.false_or] at H
               by_cases e : pCarry (vQ Z) (Z 64 c) (Z 69 (16 * l + c)) (Z 69 (16 * l + 15)) d.toNat = Z 65 p ∧ (Z 68 p = 2 → pWind (vQ Z) (Z 69 (16 * l + 15) + d) = 0)
               · rw [aTr_pos e] at H
                 first | exact H | exact absurd e.1 c56 | exact absurd (e.2 c66) c75
               · rw [aTr_neg e] at H
                 first
                   | exact H
                   | (refine absurd ⟨c56, fun q => ?_⟩ e
                      first | exact c75 | exact absurd q c66))
        · refine a_iload hX rfl dX10_canServe_48 (pc' := 50) rfl ?_
          refine a_aload_n hX rfl rfl dX10_canServe_50 (pc' := 51) rfl ?_
          refine a_getfR hX (r := 65) fl_X10_16 rfl (by decide) rfl dX10_canServe_51 (pc' := 54) rfl ?_
          refine a_iload_n hX rfl rfl dX10_canServe_54 (pc' := 55) rfl ?_
          refine a_iald hX rfl (by decide) (by decide) (by omega) hB dX10_canServe_55 (pc' := 56) rfl (fun hb => ?_)
          refine a_icmp_ne hX (by omega) (by omega) dX10_canServe_56 (pc' := 59) rfl (tgt := 82) (by decide) (fun c56 => ?_) (fun c56 => ?_)
          · refine a_iconst hX dX10_canServe_82 (pc' := 83) rfl ?_
            refine a_istore6 hX (by decide) rfl dX10_canServe_83 (pc' := 85) rfl ?_
            refine a_iload hX rfl dX10_canServe_85 (pc' := 87) rfl ?_
            refine a_aload_n hX rfl rfl dX10_canServe_87 (pc' := 88) rfl ?_
            refine a_getfR hX (r := 64) fl_X10_13 rfl (by decide) rfl dX10_canServe_88 (pc' := 91) rfl ?_
            refine a_iload_n hX rfl rfl dX10_canServe_91 (pc' := 92) rfl ?_
            refine a_iald hX rfl (by decide) (by decide) (by omega) hB dX10_canServe_92 (pc' := 93) rfl (fun hb => ?_)
            refine a_aload_n hX rfl rfl dX10_canServe_93 (pc' := 94) rfl ?_
            refine a_iload hX rfl dX10_canServe_94 (pc' := 96) rfl ?_
            refine a_cV1i hX cv_X10_134 (q_windOf (by omega) hB hP) rfl (by decide) ⟨by decide, by decide⟩ (Nat.le_of_ble_eq_true rfl) dX10_canServe_96 (pc' := 99) rfl ?_
            have hwr := pWind_rng hP (Z 69 (16 * l + 15) + d)
            refine a_cS3i hX cs_X10_138 (q_blown (by omega) (by omega) (by omega)) ⟨by decide, by decide⟩ (Nat.le_of_ble_eq_true rfl) dX10_canServe_99 (pc' := 102) rfl ?_
            refine a_istore5 hX (by decide) rfl dX10_canServe_102 (pc' := 104) rfl ?_
            refine a_iinc7 hX (by decide) rfl dX10_canServe_104 (pc' := 107) rfl ?_
            refine a_goto hX dX10_canServe_107 (tgt := 32) (by decide) ?_
            have H := ih (d + 1) (by omega) (by omega)
            rw [show (d + 1).toNat = d.toNat + 1 by omega, pCarry_s, ← show (d + 1).toNat = d.toNat + 1 by omega, qOn_s (by omega), Int.toNat_of_nonneg hi.1, vR_hi (show 8 ≤ (15 : Int) ∧ (15 : Int) < 16 by omega), vQ_k, vQ_y, vQ_pk, show Z 69 (16 * l + 15) + (d + 1) = Z 69 (16 * l + 15) + d + 1 by omega] at H
            first
              | (rw [c45, Bool.true_or] at H; exact H)
              | (rw [c45, Bool.false_or] at H
                 by_cases e : pCarry (vQ Z) (Z 64 c) (Z 69 (16 * l + c)) (Z 69 (16 * l + 15)) d.toNat = Z 65 p ∧ (Z 68 p = 2 → pWind (vQ Z) (Z 69 (16 * l + 15) + d) = 0)
                 · rw [aTr_pos e] at H
                   first | exact H | exact absurd e.1 c56 | exact absurd (e.2 c66) c75
                 · rw [aTr_neg e] at H
                   first
                     | exact H
                     | (refine absurd ⟨c56, fun q => ?_⟩ e
                        first | exact c75 | exact absurd q c66))
          · refine a_aload_n hX rfl rfl dX10_canServe_59 (pc' := 60) rfl ?_
            refine a_getfR hX (r := 68) fl_X10_25 rfl (by decide) rfl dX10_canServe_60 (pc' := 63) rfl ?_
            refine a_iload_n hX rfl rfl dX10_canServe_63 (pc' := 64) rfl ?_
            refine a_iald hX rfl (by decide) (by decide) (by omega) hB dX10_canServe_64 (pc' := 65) rfl (fun hb => ?_)
            refine a_iconst hX dX10_canServe_65 (pc' := 66) rfl ?_
            refine a_icmp_ne hX (by omega) (by omega) dX10_canServe_66 (pc' := 69) rfl (tgt := 78) (by decide) (fun c66 => ?_) (fun c66 => ?_)
            · refine a_iconst hX dX10_canServe_78 (pc' := 79) rfl ?_
              refine a_goto hX dX10_canServe_79 (tgt := 83) (by decide) ?_
              refine a_istore6 hX (by decide) rfl dX10_canServe_83 (pc' := 85) rfl ?_
              refine a_iload hX rfl dX10_canServe_85 (pc' := 87) rfl ?_
              refine a_aload_n hX rfl rfl dX10_canServe_87 (pc' := 88) rfl ?_
              refine a_getfR hX (r := 64) fl_X10_13 rfl (by decide) rfl dX10_canServe_88 (pc' := 91) rfl ?_
              refine a_iload_n hX rfl rfl dX10_canServe_91 (pc' := 92) rfl ?_
              refine a_iald hX rfl (by decide) (by decide) (by omega) hB dX10_canServe_92 (pc' := 93) rfl (fun hb => ?_)
              refine a_aload_n hX rfl rfl dX10_canServe_93 (pc' := 94) rfl ?_
              refine a_iload hX rfl dX10_canServe_94 (pc' := 96) rfl ?_
              refine a_cV1i hX cv_X10_134 (q_windOf (by omega) hB hP) rfl (by decide) ⟨by decide, by decide⟩ (Nat.le_of_ble_eq_true rfl) dX10_canServe_96 (pc' := 99) rfl ?_
              have hwr := pWind_rng hP (Z 69 (16 * l + 15) + d)
              refine a_cS3i hX cs_X10_138 (q_blown (by omega) (by omega) (by omega)) ⟨by decide, by decide⟩ (Nat.le_of_ble_eq_true rfl) dX10_canServe_99 (pc' := 102) rfl ?_
              refine a_istore5 hX (by decide) rfl dX10_canServe_102 (pc' := 104) rfl ?_
              refine a_iinc7 hX (by decide) rfl dX10_canServe_104 (pc' := 107) rfl ?_
              refine a_goto hX dX10_canServe_107 (tgt := 32) (by decide) ?_
              have H := ih (d + 1) (by omega) (by omega)
              rw [show (d + 1).toNat = d.toNat + 1 by omega, pCarry_s, ← show (d + 1).toNat = d.toNat + 1 by omega, qOn_s (by omega), Int.toNat_of_nonneg hi.1, vR_hi (show 8 ≤ (15 : Int) ∧ (15 : Int) < 16 by omega), vQ_k, vQ_y, vQ_pk, show Z 69 (16 * l + 15) + (d + 1) = Z 69 (16 * l + 15) + d + 1 by omega] at H
              first
                | (rw [c45, Bool.true_or] at H; exact H)
                | (rw [c45, Bool.false_or] at H
                   by_cases e : pCarry (vQ Z) (Z 64 c) (Z 69 (16 * l + c)) (Z 69 (16 * l + 15)) d.toNat = Z 65 p ∧ (Z 68 p = 2 → pWind (vQ Z) (Z 69 (16 * l + 15) + d) = 0)
                   · rw [aTr_pos e] at H
                     first | exact H | exact absurd e.1 c56 | exact absurd (e.2 c66) c75
                   · rw [aTr_neg e] at H
                     first
                       | exact H
                       | (refine absurd ⟨c56, fun q => ?_⟩ e
                          first | exact c75 | exact absurd q c66))
            · refine a_aload_n hX rfl rfl dX10_canServe_69 (pc' := 70) rfl ?_
              refine a_iload hX rfl dX10_canServe_70 (pc' := 72) rfl ?_
              refine a_cV1i hX cv_X10_134 (q_windOf (by omega) hB hP) rfl (by decide) ⟨by decide, by decide⟩ (Nat.le_of_ble_eq_true rfl) dX10_canServe_72 (pc' := 75) rfl ?_
              have hwr := pWind_rng hP (Z 69 (16 * l + 15) + d)
              refine a_if_ne hX (by omega) dX10_canServe_75 (pc' := 78) rfl (tgt := 82) (by decide) (fun c75 => ?_) (fun c75 => ?_)
              · refine a_iconst hX dX10_canServe_82 (pc' := 83) rfl ?_
                refine a_istore6 hX (by decide) rfl dX10_canServe_83 (pc' := 85) rfl ?_
                refine a_iload hX rfl dX10_canServe_85 (pc' := 87) rfl ?_
                refine a_aload_n hX rfl rfl dX10_canServe_87 (pc' := 88) rfl ?_
                refine a_getfR hX (r := 64) fl_X10_13 rfl (by decide) rfl dX10_canServe_88 (pc' := 91) rfl ?_
                refine a_iload_n hX rfl rfl dX10_canServe_91 (pc' := 92) rfl ?_
                refine a_iald hX rfl (by decide) (by decide) (by omega) hB dX10_canServe_92 (pc' := 93) rfl (fun hb => ?_)
                refine a_aload_n hX rfl rfl dX10_canServe_93 (pc' := 94) rfl ?_
                refine a_iload hX rfl dX10_canServe_94 (pc' := 96) rfl ?_
                refine a_cV1i hX cv_X10_134 (q_windOf (by omega) hB hP) rfl (by decide) ⟨by decide, by decide⟩ (Nat.le_of_ble_eq_true rfl) dX10_canServe_96 (pc' := 99) rfl ?_
                have hwr := pWind_rng hP (Z 69 (16 * l + 15) + d)
                refine a_cS3i hX cs_X10_138 (q_blown (by omega) (by omega) (by omega)) ⟨by decide, by decide⟩ (Nat.le_of_ble_eq_true rfl) dX10_canServe_99 (pc' := 102) rfl ?_
                refine a_istore5 hX (by decide) rfl dX10_canServe_102 (pc' := 104) rfl ?_
                refine a_iinc7 hX (by decide) rfl dX10_canServe_104 (pc' := 107) rfl ?_
                refine a_goto hX dX10_canServe_107 (tgt := 32) (by decide) ?_
                have H := ih (d + 1) (by omega) (by omega)
                rw [show (d + 1).toNat = d.toNat + 1 by omega, pCarry_s, ← show (d + 1).toNat = d.toNat + 1 by omega, qOn_s (by omega), Int.toNat_of_nonneg hi.1, vR_hi (show 8 ≤ (15 : Int) ∧ (15 : Int) < 16 by omega), vQ_k, vQ_y, vQ_pk, show Z 69 (16 * l + 15) + (d + 1) = Z 69 (16 * l + 15) + d + 1 by omega] at H
                first
                  | (rw [c45, Bool.true_or] at H; exact H)
                  | (rw [c45, Bool.false_or] at H
                     by_cases e : pCarry (vQ Z) (Z 64 c) (Z 69 (16 * l + c)) (Z 69 (16 * l + 15)) d.toNat = Z 65 p ∧ (Z 68 p = 2 → pWind (vQ Z) (Z 69 (16 * l + 15) + d) = 0)
                     · rw [aTr_pos e] at H
                       first | exact H | exact absurd e.1 c56 | exact absurd (e.2 c66) c75
                     · rw [aTr_neg e] at H
                       first
                         | exact H
                         | (refine absurd ⟨c56, fun q => ?_⟩ e
                            first | exact c75 | exact absurd q c66))
              · refine a_iconst hX dX10_canServe_78 (pc' := 79) rfl ?_
                refine a_goto hX dX10_canServe_79 (tgt := 83) (by decide) ?_
                refine a_istore6 hX (by decide) rfl dX10_canServe_83 (pc' := 85) rfl ?_
                refine a_iload hX rfl dX10_canServe_85 (pc' := 87) rfl ?_
                refine a_aload_n hX rfl rfl dX10_canServe_87 (pc' := 88) rfl ?_
                refine a_getfR hX (r := 64) fl_X10_13 rfl (by decide) rfl dX10_canServe_88 (pc' := 91) rfl ?_
                refine a_iload_n hX rfl rfl dX10_canServe_91 (pc' := 92) rfl ?_
                refine a_iald hX rfl (by decide) (by decide) (by omega) hB dX10_canServe_92 (pc' := 93) rfl (fun hb => ?_)
                refine a_aload_n hX rfl rfl dX10_canServe_93 (pc' := 94) rfl ?_
                refine a_iload hX rfl dX10_canServe_94 (pc' := 96) rfl ?_
                refine a_cV1i hX cv_X10_134 (q_windOf (by omega) hB hP) rfl (by decide) ⟨by decide, by decide⟩ (Nat.le_of_ble_eq_true rfl) dX10_canServe_96 (pc' := 99) rfl ?_
                have hwr := pWind_rng hP (Z 69 (16 * l + 15) + d)
                refine a_cS3i hX cs_X10_138 (q_blown (by omega) (by omega) (by omega)) ⟨by decide, by decide⟩ (Nat.le_of_ble_eq_true rfl) dX10_canServe_99 (pc' := 102) rfl ?_
                refine a_istore5 hX (by decide) rfl dX10_canServe_102 (pc' := 104) rfl ?_
                refine a_iinc7 hX (by decide) rfl dX10_canServe_104 (pc' := 107) rfl ?_
                refine a_goto hX dX10_canServe_107 (tgt := 32) (by decide) ?_
                have H := ih (d + 1) (by omega) (by omega)
                rw [show (d + 1).toNat = d.toNat + 1 by omega, pCarry_s, ← show (d + 1).toNat = d.toNat + 1 by omega, qOn_s (by omega), Int.toNat_of_nonneg hi.1, vR_hi (show 8 ≤ (15 : Int) ∧ (15 : Int) < 16 by omega), vQ_k, vQ_y, vQ_pk, show Z 69 (16 * l + 15) + (d + 1) = Z 69 (16 * l + 15) + d + 1 by omega] at H
                first
                  | (rw [c45, Bool.true_or] at H; exact H)
                  | (rw [c45, Bool.false_or] at H
                     by_cases e : pCarry (vQ Z) (Z 64 c) (Z 69 (16 * l + c)) (Z 69 (16 * l + 15)) d.toNat = Z 65 p ∧ (Z 68 p = 2 → pWind (vQ Z) (Z 69 (16 * l + 15) + d) = 0)
                     · rw [aTr_pos e] at H
                       first | exact H | exact absurd e.1 c56 | exact absurd (e.2 c66) c75
                     · rw [aTr_neg e] at H
                       first
                         | exact H
                         | (refine absurd ⟨c56, fun q => ?_⟩ e
                            first | exact c75 | exact absurd q c66))
  have H := L32 ((Z 66 p + 1 - Z 69 (16 * l + 15)).toNat + 1) 0 (by omega) (by omega)
  rw [Int.add_zero] at H
  exact H

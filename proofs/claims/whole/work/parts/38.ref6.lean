def okN (Z : aZ) : Prop := (0 ≤ Z 62 23 ∧ Z 62 23 < 14) ∧ (0 ≤ Z 62 22 ∧ Z 62 22 ≤ 14)
def qRow (Z Z' : aZ) : Prop := Z' 62 23 = (Z 62 23 + 1) % 14 ∧ Z' 62 22 = (if Z 62 22 < 14 then Z 62 22 + 1 else 14) ∧ (∀ j : Int, j ≠ 22 → j ≠ 23 → Z' 62 j = Z 62 j) ∧ ∀ j : Int, Z' 75 j = if 16 * Z 62 23 ≤ j ∧ j < 16 * Z 62 23 + 16 then Z 69 (j - 16 * Z 62 23) else Z 75 j
/-- what keeping an act does in the reference -/
def qRem (Z Z' : aZ) : Prop := qRow Z Z' ∧ ∀ a : Nat, a ≠ 62 → a ≠ 75 → Z' a = Z a
/-- an act done in the reference: the level 0 becomes S' -/
def qDid (Z : aZ) (S' : aSk) (Z' : aZ) : Prop := vR Z' 0 = S' ∧ okS (vQ Z) S' ∧ qRow Z Z' ∧ ∀ a : Nat, a ≠ 62 → a ≠ 69 → a ≠ 75 → Z' a = Z a
theorem qRem.P {Z Z' : aZ} (h : qRem Z Z') : vQ Z' = vQ Z := vQ_eq2 (h.1.2.2.1 0 (by decide) (by decide)) (h.1.2.2.1 1 (by decide) (by decide)) (h.1.2.2.1 2 (by decide) (by decide)) (fun a ha => h.2 a (by omega) (by omega))
theorem qRem.R {Z Z' : aZ} (h : qRem Z Z') (l : Int) : vR Z' l = vR Z l := vR_eq l (h.1.2.2.1 1 (by decide) (by decide)) (h.2 69 (by decide) (by decide))
theorem qRem.did {Z Z1 Z2 : aZ} {Y Y' : aY} {S' : aSk} (h : qRem Z Z1) (g : rSp Z1 Y 0 S' Z2 Y') : qDid Z S' Z2 := by
  obtain ⟨g1, g2, g3, g4, g5, g6⟩ := g
  rw [h.P] at g2
  obtain ⟨⟨h1, h2, h3, h4⟩, h5⟩ := h
  have e62 := g3 62 (by decide)
  have e75 := g3 75 (by decide)
  exact ⟨g1, g2, ⟨by rw [e62]; exact h1, by rw [e62]; exact h2, fun j a b => by rw [e62]; exact h3 j a b, fun j => by rw [e75]; exact h4 j⟩, fun a a1 a2 a3 => by rw [g3 a a2, h5 a a1 a3]⟩
theorem dDays_c {P : aP} {S : aSk} {c : Int} (hc : 0 ≤ c ∧ c < P 0 1) (h4 : P 0 1 ≤ 4) : ∀ n : Nat, dDays P S n c = pCarry P (P 4 c) (S c) (S 15) n
  | 0 => rfl
  | n + 1 => by
    show dDay P (dDays P S n) c = _
    unfold dDay
    rw [if_neg (by omega), if_neg (by omega), if_pos hc, dDays_c hc h4 n, dDays_15]
    rfl
theorem dDays_lo {P : aP} {S : aSk} (h4 : P 0 1 ≤ 4) {j : Int} (hj : 8 ≤ j ∧ j < 14) : ∀ n : Nat, dDays P S n j = S j
  | 0 => rfl
  | n + 1 => by
    show dDay P (dDays P S n) j = _
    unfold dDay
    rw [if_neg (by omega), if_neg (by omega), if_neg (by omega), dDays_lo h4 hj n]
theorem aSum_add {f g : Int → Int} : ∀ n : Nat, aSum f n + aSum g n = aSum (fun i => f i + g i) n
  | 0 => rfl
  | n + 1 => by
    have := aSum_add (f := f) (g := g) n
    show aSum f n + f n + (aSum g n + g n) = aSum (fun i => f i + g i) n + (f n + g n)
    omega
theorem dDays_14 {P : aP} {S : aSk} (hP : okP P) : ∀ n : Nat, dDays P S n 14 = sUmb P S (S 15 + n)
  | 0 => by
    show S 14 = _
    unfold sUmb
    have : aSum (fun p => if P 6 p < S 15 + ((0 : Nat) : Int) then sOwed P S p else 0) (P 0 2).toNat = aSum (fun _ => 0) (P 0 2).toNat := aSum_congr _ (fun p _ => by
      by_cases e : P 6 p < S 15
      · rw [if_pos (by omega)]
        unfold sOwed
        rw [if_pos (Or.inr e)]
      · rw [if_neg (by omega)])
    rw [this]
    have z : ∀ n : Nat, aSum (fun _ => (0 : Int)) n = 0 := fun n => by
      induction n with
      | zero => rfl
      | succ n ih => show aSum (fun _ => (0 : Int)) n + 0 = 0; rw [ih]; rfl
    rw [z]
    omega
  | n + 1 => by
    have h4 := hP.2.1.2
    have h5 := hP.2.2.1
    show dDay P (dDays P S n) 14 = _
    unfold dDay
    rw [if_neg (by omega), if_pos rfl, sMore_eq, dDays_14 hP n, dDays_15]
    unfold sUmb
    rw [Int.add_assoc, aSum_add]
    congr 1
    refine aSum_congr _ (fun p hp => ?_)
    have eo : P 6 p = S 15 + n → sOwed P (dDays P S n) p = sOwed P S p := fun q => by
      unfold sOwed sTorn
      rw [dDays_15, dDays_lo h4 (by omega), dDays_lo h4 (by omega)]
      by_cases t : aBit (S 13) p = true
      · rw [if_pos (Or.inl t), if_pos (Or.inl t)]
      · rw [if_neg (fun a => a.elim t (by omega)), if_neg (fun a => a.elim t (by omega))]
    by_cases e1 : P 6 p < S 15 + n
    · rw [if_pos e1, if_neg (by omega), if_pos (by omega)]; omega
    · rw [if_neg e1]
      by_cases e2 : P 6 p = S 15 + n
      · rw [if_pos e2, if_pos (by omega), eo e2]; omega
      · rw [if_neg e2, if_neg (by omega)]; rfl

set_option maxHeartbeats 4000000 in
set_option maxRecDepth 100000 in
theorem q_write {G : aG} {Z : aZ} {Y : aY} {l : Int} (hl : -2147483648 ≤ l ∧ l < 2147483648) (hB : aB Z) (hT : 0 ≤ Z 62 17 ∧ Z 62 17 ≤ 52) : aSI G yX10_write cX10_write 2 (some .int) 1 25 [.ref (G.1 62), .int (aI l)] Z Y (fun x Z' Y' => x = (if 0 ≤ l ∧ l ≤ 255 then (if Z 62 17 < 52 then Z 62 17 + 1 else -4) else -2) ∧ Z' = (if 0 ≤ l ∧ l ≤ 255 ∧ Z 62 17 < 52 then aU (aU Z 73 (Z 62 17) l) 62 17 (Z 62 17 + 1) else Z) ∧ aB Z' ∧ Y' = Y) := by
  refine aS.of (own := RX10) (by decide +kernel) rfl 0 (Nat.le_of_ble_eq_true rfl) (fun X hX hE => ?_)
  show AW X G 0 [some (.ref (G.1 62)), some (.int (aI l))] [] Z Y
  refine a_iload_n hX rfl rfl dX10_write_0 (pc' := 1) rfl ?_
  refine a_i2l hX (by omega) dX10_write_1 (pc' := 2) rfl ?_
  refine a_lconst hX (v := 0) rfl dX10_write_2 (pc' := 3) rfl ?_
  refine a_ldc2J hX (z := 255) w_904 (by decide) dX10_write_3 (pc' := 6) rfl ?_
  refine a_cS3i hX cs_X10_68 (q_in (by omega) (by omega) (by omega)) ⟨by decide, by decide⟩ (Nat.le_of_ble_eq_true rfl) dX10_write_6 (pc' := 9) rfl ?_
  refine a_ifb_ne hX dX10_write_9 (pc' := 12) rfl (tgt := 15) (by decide) (fun c9 => ?_) (fun c9 => ?_)
  · have c9 := of_decide_eq_true c9
    refine a_aload_n hX rfl rfl dX10_write_15 (pc' := 16) rfl ?_
    refine a_getfI hX (ji := 17) rfl hB fl_X10_72 rfl (by decide) rfl dX10_write_16 (pc' := 19) rfl (fun hb => ?_)
    refine a_bipush hX rfl dX10_write_19 (pc' := 21) rfl ?_
    refine a_icmp_ne hX (by omega) (by omega) dX10_write_21 (pc' := 24) rfl (tgt := 27) (by decide) (fun c21 => ?_) (fun c21 => ?_)
    · refine a_aload_n hX rfl rfl dX10_write_27 (pc' := 28) rfl ?_
      refine a_getfR hX (r := 73) fl_X10_40 rfl (by decide) rfl dX10_write_28 (pc' := 31) rfl ?_
      refine a_aload_n hX rfl rfl dX10_write_31 (pc' := 32) rfl ?_
      refine a_getfI hX (ji := 17) rfl hB fl_X10_72 rfl (by decide) rfl dX10_write_32 (pc' := 35) rfl (fun hb => ?_)
      refine a_iload_n hX rfl rfl dX10_write_35 (pc' := 36) rfl ?_
      refine a_iastB hX rfl (by decide) (by decide) (by omega) hB (by omega) dX10_write_36 (pc' := 37) rfl (fun hB => ?_)
      refine a_aload_n hX rfl rfl dX10_write_37 (pc' := 38) rfl ?_
      refine a_dup hX rfl dX10_write_38 (pc' := 39) rfl ?_
      refine a_getfI hX (ji := 17) rfl hB fl_X10_72 rfl (by decide) rfl dX10_write_39 (pc' := 42) rfl (fun hb => ?_)
      rw [aU_ne (show 62 ≠ 73 by decide)]
      refine a_iconst hX dX10_write_42 (pc' := 43) rfl ?_
      refine a_iadd hX dX10_write_43 (pc' := 44) rfl ?_
      refine a_putfIB hX fl_X10_72 nf_9_17 (ji := 17) rfl rfl (by decide) rfl hB (by omega) dX10_write_44 (pc' := 47) rfl (fun hB => ?_)
      refine a_aload_n hX rfl rfl dX10_write_47 (pc' := 48) rfl ?_
      refine a_getfI hX (ji := 17) rfl hB fl_X10_72 rfl (by decide) rfl dX10_write_48 (pc' := 51) rfl (fun hb => ?_)
      refine a_iret hX dX10_write_51 (hE _ _ _ ?_)
      exact ⟨_, rfl, by rw [if_pos (by omega), if_pos (by omega), aU_eq], (if_pos (by omega)).symm, hB, rfl⟩
    · refine a_bipush hX rfl dX10_write_24 (pc' := 26) rfl ?_
      refine a_iret hX dX10_write_26 (hE _ _ _ ?_)
      exact ⟨_, rfl, by rw [if_pos (by omega), if_neg (by omega)], by rw [if_neg (by omega)], hB, rfl⟩
  · have c9 := of_decide_eq_false c9
    refine a_bipush hX rfl dX10_write_12 (pc' := 14) rfl ?_
    refine a_iret hX dX10_write_14 (hE _ _ _ ?_)
    exact ⟨_, rfl, (if_neg (by omega)).symm, (if_neg (by omega)).symm, hB, rfl⟩

set_option maxHeartbeats 4000000 in
set_option maxRecDepth 100000 in
theorem q_wipe {G : aG} {Z : aZ} {Y : aY} (hB : aB Z) (hT : 0 ≤ Z 62 17 ∧ Z 62 17 ≤ 52) : aSI G yX10_wipe cX10_wipe 2 (some .int) 0 0 [.ref (G.1 62)] Z Y (fun x Z' Y' => x = Z 62 17 ∧ Z' = aU Z 62 17 0 ∧ aB Z' ∧ Y' = Y) := by
  refine aS.of (own := RX10) (by decide +kernel) rfl 1 (Nat.le_of_ble_eq_true rfl) (fun X hX hE => ?_)
  show AW X G 0 [some (.ref (G.1 62)), none] [] Z Y
  refine a_aload_n hX rfl rfl dX10_wipe_0 (pc' := 1) rfl ?_
  refine a_getfI hX (ji := 17) rfl hB fl_X10_72 rfl (by decide) rfl dX10_wipe_1 (pc' := 4) rfl (fun hb => ?_)
  refine a_istore1 hX rfl (by decide) rfl dX10_wipe_4 (pc' := 5) rfl ?_
  refine a_aload_n hX rfl rfl dX10_wipe_5 (pc' := 6) rfl ?_
  refine a_iconst hX dX10_wipe_6 (pc' := 7) rfl ?_
  refine a_putfIB hX fl_X10_72 nf_9_17 (ji := 17) rfl rfl (by decide) rfl hB (by omega) dX10_wipe_7 (pc' := 10) rfl (fun hB => ?_)
  refine a_iload_n hX rfl rfl dX10_wipe_10 (pc' := 11) rfl ?_
  refine a_iret hX dX10_wipe_11 (hE _ _ _ ?_)
  exact ⟨_, rfl, rfl, rfl, hB, rfl⟩

set_option maxHeartbeats 4000000 in
set_option maxRecDepth 100000 in
theorem q_keepAct {G : aG} {Z : aZ} {Y : aY} (hB : aB Z) (hN : okN Z) : aSV G yX10_keepAct cX10_keepAct 2 none 0 0 [.ref (G.1 62)] Z Y (fun Z' Y' => qRem Z Z' ∧ aB Z' ∧ Y' = Y) := by
  refine aS.of (own := RX10) (by decide +kernel) rfl 1 (Nat.le_of_ble_eq_true rfl) (fun X hX hE => ?_)
  show AW X G 0 [some (.ref (G.1 62)), none] [] Z Y
  refine a_iconst hX dX10_keepAct_0 (pc' := 1) rfl ?_
  refine a_istore1 hX rfl (by decide) rfl dX10_keepAct_1 (pc' := 2) rfl ?_
  have L2 : ∀ (n : Nat) (i : Int) (Z1 : aZ), (0 ≤ i ∧ i ≤ 16) → aB Z1 → (∀ j : Int, Z1 75 j = if 16 * Z 62 23 ≤ j ∧ j < 16 * Z 62 23 + i then Z 69 (j - 16 * Z 62 23) else Z 75 j) → (∀ a : Nat, a ≠ 75 → Z1 a = Z a) → (16 - i).toNat < n → AW X G 2 [some (.ref (G.1 62)), some (.int (aI i))] [] Z1 Y := by
    intro n
    induction n with
    | zero =>
      intro i Z1 hi hB hj hz hn
      omega
    | succ n ih =>
      intro i Z1 hi hB hj hz hn
      have f62 : Z1 62 = Z 62 := hz 62 (by decide)
      have f23 : 0 ≤ Z1 62 23 ∧ Z1 62 23 < 14 := by rw [f62]; exact hN.1
      have f22 : 0 ≤ Z1 62 22 ∧ Z1 62 22 ≤ 14 := by rw [f62]; exact hN.2
      refine a_iload_n hX rfl rfl dX10_keepAct_2 (pc' := 3) rfl ?_
      refine a_bipush hX rfl dX10_keepAct_3 (pc' := 5) rfl ?_
      refine a_icmp_ge hX (by omega) (by omega) dX10_keepAct_5 (pc' := 8) rfl (tgt := 34) (by decide) (fun c5 => ?_) (fun c5 => ?_)
      · refine a_aload_n hX rfl rfl dX10_keepAct_34 (pc' := 35) rfl ?_
        refine a_aload_n hX rfl rfl dX10_keepAct_35 (pc' := 36) rfl ?_
        refine a_getfI hX (ji := 23) rfl hB fl_X10_167 rfl (by decide) rfl dX10_keepAct_36 (pc' := 39) rfl (fun hb => ?_)
        refine a_iconst hX dX10_keepAct_39 (pc' := 40) rfl ?_
        refine a_iadd hX dX10_keepAct_40 (pc' := 41) rfl ?_
        refine a_bipush hX rfl dX10_keepAct_41 (pc' := 43) rfl ?_
        refine a_irem hX (by omega) (by omega) dX10_keepAct_43 (pc' := 44) rfl ?_
        refine a_putfIB hX fl_X10_167 nf_9_23 (ji := 23) rfl rfl (by decide) rfl hB (by omega) dX10_keepAct_44 (pc' := 47) rfl (fun hB => ?_)
        refine a_aload_n hX rfl rfl dX10_keepAct_47 (pc' := 48) rfl ?_
        refine a_aload_n hX rfl rfl dX10_keepAct_48 (pc' := 49) rfl ?_
        refine a_getfI hX (ji := 22) rfl hB fl_X10_111 rfl (by decide) rfl dX10_keepAct_49 (pc' := 52) rfl (fun hb => ?_)
        refine a_bipush hX rfl dX10_keepAct_52 (pc' := 54) rfl ?_
        refine a_icmp_ge hX (by omega) (by omega) dX10_keepAct_54 (pc' := 57) rfl (tgt := 66) (by decide) (fun c54 => ?_) (fun c54 => ?_)
        · refine a_bipush hX rfl dX10_keepAct_66 (pc' := 68) rfl ?_
          refine a_putfIB hX fl_X10_111 nf_9_22 (ji := 22) rfl rfl (by decide) rfl hB (by omega) dX10_keepAct_68 (pc' := 71) rfl (fun hB => ?_)
          refine a_vret hX dX10_keepAct_71 (hE _ _ _ ?_)
          obtain rfl : i = 16 := by omega
          have g1 : (aU Z1 62 23 ((Z1 62 23 + 1) % 14)) 62 22 = Z 62 22 := by rw [aU_nj (by decide), f62]
          refine ⟨rfl, ⟨⟨?_, ?_, fun j h1 h2 => ?_, fun j => ?_⟩, fun a h1 h2 => ?_⟩, hB, rfl⟩
          · rw [aU_nj (by decide), aU_eq, f62]
          · rw [aU_eq]
            first | rw [g1, if_pos (by omega)] | rw [if_neg (by omega)]
          · rw [aU_nj h1, aU_nj h2, f62]
          · rw [aU_row (by decide), aU_row (by decide)]; exact hj j
          · rw [aU_row h1, aU_row h1, hz a h2]
        · refine a_aload_n hX rfl rfl dX10_keepAct_57 (pc' := 58) rfl ?_
          refine a_getfI hX (ji := 22) rfl hB fl_X10_111 rfl (by decide) rfl dX10_keepAct_58 (pc' := 61) rfl (fun hb => ?_)
          refine a_iconst hX dX10_keepAct_61 (pc' := 62) rfl ?_
          refine a_iadd hX dX10_keepAct_62 (pc' := 63) rfl ?_
          refine a_goto hX dX10_keepAct_63 (tgt := 68) (by decide) ?_
          refine a_putfIB hX fl_X10_111 nf_9_22 (ji := 22) rfl rfl (by decide) rfl hB (by omega) dX10_keepAct_68 (pc' := 71) rfl (fun hB => ?_)
          refine a_vret hX dX10_keepAct_71 (hE _ _ _ ?_)
          obtain rfl : i = 16 := by omega
          have g1 : (aU Z1 62 23 ((Z1 62 23 + 1) % 14)) 62 22 = Z 62 22 := by rw [aU_nj (by decide), f62]
          refine ⟨rfl, ⟨⟨?_, ?_, fun j h1 h2 => ?_, fun j => ?_⟩, fun a h1 h2 => ?_⟩, hB, rfl⟩
          · rw [aU_nj (by decide), aU_eq, f62]
          · rw [aU_eq]
            first | rw [g1, if_pos (by omega)] | rw [if_neg (by omega)]
          · rw [aU_nj h1, aU_nj h2, f62]
          · rw [aU_row (by decide), aU_row (by decide)]; exact hj j
          · rw [aU_row h1, aU_row h1, hz a h2]
      · refine a_aload_n hX rfl rfl dX10_keepAct_8 (pc' := 9) rfl ?_
        refine a_getfR hX (r := 75) fl_X10_50 rfl (by decide) rfl dX10_keepAct_9 (pc' := 12) rfl ?_
        refine a_bipush hX rfl dX10_keepAct_12 (pc' := 14) rfl ?_
        refine a_aload_n hX rfl rfl dX10_keepAct_14 (pc' := 15) rfl ?_
        refine a_getfI hX (ji := 23) rfl hB fl_X10_167 rfl (by decide) rfl dX10_keepAct_15 (pc' := 18) rfl (fun hb => ?_)
        refine a_imul hX dX10_keepAct_18 (pc' := 19) rfl ?_
        refine a_iload_n hX rfl rfl dX10_keepAct_19 (pc' := 20) rfl ?_
        refine a_iadd hX dX10_keepAct_20 (pc' := 21) rfl ?_
        refine a_aload_n hX rfl rfl dX10_keepAct_21 (pc' := 22) rfl ?_
        refine a_getfR hX (r := 69) fl_X10_28 rfl (by decide) rfl dX10_keepAct_22 (pc' := 25) rfl ?_
        refine a_iload_n hX rfl rfl dX10_keepAct_25 (pc' := 26) rfl ?_
        refine a_iald hX rfl (by decide) (by decide) (by omega) hB dX10_keepAct_26 (pc' := 27) rfl (fun hb => ?_)
        refine a_iastB hX rfl (by decide) (by decide) (by omega) hB (by omega) dX10_keepAct_27 (pc' := 28) rfl (fun hB => ?_)
        refine a_iinc1 hX (by decide) rfl dX10_keepAct_28 (pc' := 31) rfl ?_
        refine a_goto hX dX10_keepAct_31 (tgt := 2) (by decide) ?_
        refine ih (i + 1) _ (by omega) hB (fun j => ?_) (fun a ha => by rw [aU_row ha]; exact hz a ha) (by omega)
        rw [aU_at, f62]
        by_cases e : j = 16 * Z 62 23 + i
        · rw [if_pos e, if_pos (by omega), hz 69 (by decide), e, show 16 * Z 62 23 + i - 16 * Z 62 23 = i by omega]
        · rw [if_neg e, hj]
          by_cases e2 : 16 * Z 62 23 ≤ j ∧ j < 16 * Z 62 23 + i
          · rw [if_pos e2, if_pos (by omega)]
          · rw [if_neg e2, if_neg (by omega)]
  exact L2 17 0 Z (by omega) hB (fun j => by rw [if_neg (by omega)]) (fun _ _ => rfl) (by omega)

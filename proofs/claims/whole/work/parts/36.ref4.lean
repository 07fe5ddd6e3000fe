/-- what a method leaves that makes the reference's level l into S' -/
def rSp (Z : aZ) (Y : aY) (l : Int) (S' : aSk) (Z' : aZ) (Y' : aY) : Prop := vR Z' l = S' ∧ okS (vQ Z) S' ∧ (∀ a : Nat, a ≠ 69 → Z' a = Z a) ∧ (∀ j : Int, ¬ (16 * l ≤ j ∧ j < 16 * l + 16) → Z' 69 j = Z 69 j) ∧ aB Z' ∧ Y' = Y
theorem vR_u {Z : aZ} {l j v : Int} (hj : 0 ≤ j ∧ j < 16) (h1 : j < 4 → j < Z 62 1) (h2 : 4 ≤ j ∧ j < 8 → j - 4 < Z 62 1) : vR (aU Z 69 (16 * l + j) v) l = fun i => if i = j then v else vR Z l i := by
  funext i
  unfold vR
  rw [aU_row (show 62 ≠ 69 by decide)]
  simp only [aU_at]
  by_cases e : i = j
  · subst e
    rw [if_pos rfl, if_neg (show ¬ i < 0 by omega)]
    by_cases a1 : i < 4
    · rw [if_pos a1, if_pos (h1 a1), if_pos rfl]
    · rw [if_neg a1]
      by_cases a2 : i < 8
      · rw [if_pos a2, if_pos (h2 ⟨by omega, a2⟩), if_pos rfl]
      · rw [if_neg a2, if_pos hj.2, if_pos rfl]
  · rw [if_neg e, if_neg (show ¬ 16 * l + i = 16 * l + j by omega)]
theorem rSp_P {Z Z' : aZ} {Y Y' : aY} {l : Int} {S' : aSk} (h : rSp Z Y l S' Z' Y') : vQ Z' = vQ Z := vQ_eq (fun a ha => h.2.2.1 a (by omega))
theorem rSp_R {Z Z' : aZ} {Y Y' : aY} {l l2 : Int} {S' : aSk} (h : rSp Z Y l S' Z' Y') (hl : l2 ≠ l) : vR Z' l2 = vR Z l2 := by
  funext j
  unfold vR
  rw [h.2.2.1 62 (by decide)]
  by_cases a0 : j < 0
  · simp only [if_pos a0]
  by_cases a1 : j < 16
  · rw [h.2.2.2.1 (16 * l2 + j) (by omega)]
  · rw [if_neg a0, if_neg (show ¬ j < 4 by omega), if_neg (show ¬ j < 8 by omega), if_neg a1, if_neg a0, if_neg (show ¬ j < 4 by omega), if_neg (show ¬ j < 8 by omega), if_neg a1]
/-- no wind: the day goes, nothing drifts -/
def dWait (P : aP) (S : aSk) : aSk := fun j => if j = 15 then S 15 + 1 else if j = 14 then S 14 + sMore P S else S j
theorem sMore_eq {P : aP} {S : aSk} : sMore P S = aSum (fun p => if P 6 p = S 15 then sOwed P S p else 0) (P 0 2).toNat := by
  unfold sMore sUmb
  have : aSum (fun p => if P 6 p < S 15 + 1 then sOwed P S p else 0) (P 0 2).toNat = aSum (fun p => if P 6 p = S 15 then sOwed P S p else 0) (P 0 2).toNat := aSum_congr _ (fun p _ => by
    by_cases e : P 6 p = S 15
    · rw [if_pos e, if_pos (by omega)]
    · rw [if_neg e]
      by_cases e2 : P 6 p < S 15
      · rw [if_pos (by omega)]
        unfold sOwed
        rw [if_pos (Or.inr e2)]
      · rw [if_neg (by omega)])
  omega
theorem okS_wait {P : aP} {S : aSk} (hP : okP P) (h : okS P S) : okS P (dWait P S) := by
  have hm := sMore_rng hP h
  obtain ⟨a1, a2, a3, a4, a5, a6⟩ := h
  have ne : ∀ j : Int, j ≠ 14 → j ≠ 15 → dWait P S j = S j := fun j h2 h3 => by unfold dWait; rw [if_neg h3, if_neg h2]
  have e14 : dWait P S 14 = S 14 + sMore P S := by unfold dWait; rw [if_neg (by omega), if_pos rfl]
  have e15 : dWait P S 15 = S 15 + 1 := by unfold dWait; rw [if_pos rfl]
  refine ⟨fun d hd => ?_, fun d hd => ?_, fun q hq => ?_, ?_, ?_, ?_⟩
  · rw [ne _ (by omega) (by omega)]; exact a1 d hd
  · rw [ne _ (by omega) (by omega)]; exact a2 d hd
  · rw [ne _ (by omega) (by omega)]; exact a3 q hq
  · rw [ne _ (by omega) (by omega)]; exact a4
  · rw [e14, e15]; omega
  · rw [e15]; omega

set_option maxHeartbeats 4000000 in
set_option maxRecDepth 100000 in
theorem q_fallOn {G : aG} {Z : aZ} {Y : aY} {l c p : Int} (hc : 0 ≤ c ∧ c < Z 62 1) (hp : 0 ≤ p ∧ p < Z 62 2) (h1 : 1 ≤ sHas (vQ Z) (vR Z l) c) (h2 : 1 ≤ sOwed (vQ Z) (vR Z l) p) (hl : 0 ≤ l ∧ l ≤ 1) (hB : aB Z) (hP : okP (vQ Z)) (hS : okS (vQ Z) (vR Z l)) (hd : Z 69 (16 * l + 15) ≤ 5000) : aSV G yX10_fallOn cX10_fallOn 5 none 0 0 [.ref (G.1 62), .int (aI l), .int (aI c), .int (aI p)] Z Y (rSp Z Y l (dDrop (vQ Z) (vR Z l) c p)) := by
  refine aS.of (own := RX10) (by decide +kernel) rfl 1 (Nat.le_of_ble_eq_true rfl) (fun X hX hE => ?_)
  show AW X G 0 [some (.ref (G.1 62)), some (.int (aI l)), some (.int (aI c)), some (.int (aI p)), none] [] Z Y
  have hfQ := fQ hP
  have hfR := fR hS
  refine a_bipush hX rfl dX10_fallOn_0 (pc' := 2) rfl ?_
  refine a_iload_n hX rfl rfl dX10_fallOn_2 (pc' := 3) rfl ?_
  refine a_imul hX dX10_fallOn_3 (pc' := 4) rfl ?_
  refine a_istore4 hX (by decide) rfl dX10_fallOn_4 (pc' := 6) rfl ?_
  refine a_aload_n hX rfl rfl dX10_fallOn_6 (pc' := 7) rfl ?_
  refine a_getfR hX (r := 69) fl_X10_28 rfl (by decide) rfl dX10_fallOn_7 (pc' := 10) rfl ?_
  refine a_iload hX rfl dX10_fallOn_10 (pc' := 12) rfl ?_
  refine a_iconst hX dX10_fallOn_12 (pc' := 13) rfl ?_
  refine a_iadd hX dX10_fallOn_13 (pc' := 14) rfl ?_
  refine a_iload_n hX rfl rfl dX10_fallOn_14 (pc' := 15) rfl ?_
  refine a_iadd hX dX10_fallOn_15 (pc' := 16) rfl ?_
  refine a_dup2 hX rfl rfl dX10_fallOn_16 (pc' := 17) rfl ?_
  have hf := fRf hS (c := c) (by omega)
  have hi9 := fRi hS (p := p) (by omega)
  have hp9 := fQp hP p
  refine a_iald hX rfl (by decide) (by decide) (by omega) hB dX10_fallOn_17 (pc' := 18) rfl (fun hb => ?_)
  refine a_aload_n hX rfl rfl dX10_fallOn_18 (pc' := 19) rfl ?_
  refine a_getfR hX (r := 64) fl_X10_13 rfl (by decide) rfl dX10_fallOn_19 (pc' := 22) rfl ?_
  refine a_iload_n hX rfl rfl dX10_fallOn_22 (pc' := 23) rfl ?_
  refine a_iald hX rfl (by decide) (by decide) (by omega) hB dX10_fallOn_23 (pc' := 24) rfl (fun hb => ?_)
  refine a_iconst hX dX10_fallOn_24 (pc' := 25) rfl ?_
  refine a_icmp_ne hX (by omega) (by omega) dX10_fallOn_25 (pc' := 28) rfl (tgt := 32) (by decide) (fun c25 => ?_) (fun c25 => ?_)
  · refine a_iconst hX dX10_fallOn_32 (pc' := 33) rfl ?_
    refine a_isub hX dX10_fallOn_33 (pc' := 34) rfl ?_
    refine a_iastB hX rfl (by decide) (by decide) (by omega) hB (by omega) dX10_fallOn_34 (pc' := 35) rfl (fun hB => ?_)
    refine a_aload_n hX rfl rfl dX10_fallOn_35 (pc' := 36) rfl ?_
    refine a_getfR hX (r := 69) fl_X10_28 rfl (by decide) rfl dX10_fallOn_36 (pc' := 39) rfl ?_
    refine a_iload hX rfl dX10_fallOn_39 (pc' := 41) rfl ?_
    refine a_bipush hX rfl dX10_fallOn_41 (pc' := 43) rfl ?_
    refine a_iadd hX dX10_fallOn_43 (pc' := 44) rfl ?_
    refine a_iload_n hX rfl rfl dX10_fallOn_44 (pc' := 45) rfl ?_
    refine a_iadd hX dX10_fallOn_45 (pc' := 46) rfl ?_
    refine a_dup2 hX rfl rfl dX10_fallOn_46 (pc' := 47) rfl ?_
    refine a_iald hX rfl (by decide) (by decide) (by omega) hB dX10_fallOn_47 (pc' := 48) rfl (fun hb => ?_)
    rw [aU_nj (show 16 * l + 8 + p ≠ 16 * l + 4 + c by omega)]
    refine a_iconst hX dX10_fallOn_48 (pc' := 49) rfl ?_
    refine a_iadd hX dX10_fallOn_49 (pc' := 50) rfl ?_
    refine a_iastB hX rfl (by decide) (by decide) (by omega) hB (by omega) dX10_fallOn_50 (pc' := 51) rfl (fun hB => ?_)
    refine a_vret hX dX10_fallOn_51 (hE _ _ _ ?_)
    refine ⟨rfl, ?_, okS_drop hS (by omega) (by omega) h1 h2, fun a ha => by rw [aU_row ha, aU_row ha], fun j hj => by rw [aU_nj (by omega), aU_nj (by omega)], hB, rfl⟩
    rw [show 16 * l + 8 + p = 16 * l + (8 + p) by omega, show 16 * l + 4 + c = 16 * l + (4 + c) by omega, vR_u (by omega) (fun _ => by omega) (fun _ => by omega), vR_u (by omega) (fun _ => by omega) (fun _ => by omega)]
    funext j
    unfold dDrop
    rw [← vR_hi (Z := Z) (l := l) (j := 8 + p) (by omega), ← vR_fl (Z := Z) (l := l) (c := c) (by omega), vQ_k]
    first | rw [if_pos (show Z 64 c = 1 by omega)] | rw [if_neg (show ¬ Z 64 c = 1 by omega)]
  · refine a_iconst hX dX10_fallOn_28 (pc' := 29) rfl ?_
    refine a_goto hX dX10_fallOn_29 (tgt := 33) (by decide) ?_
    refine a_isub hX dX10_fallOn_33 (pc' := 34) rfl ?_
    refine a_iastB hX rfl (by decide) (by decide) (by omega) hB (by omega) dX10_fallOn_34 (pc' := 35) rfl (fun hB => ?_)
    refine a_aload_n hX rfl rfl dX10_fallOn_35 (pc' := 36) rfl ?_
    refine a_getfR hX (r := 69) fl_X10_28 rfl (by decide) rfl dX10_fallOn_36 (pc' := 39) rfl ?_
    refine a_iload hX rfl dX10_fallOn_39 (pc' := 41) rfl ?_
    refine a_bipush hX rfl dX10_fallOn_41 (pc' := 43) rfl ?_
    refine a_iadd hX dX10_fallOn_43 (pc' := 44) rfl ?_
    refine a_iload_n hX rfl rfl dX10_fallOn_44 (pc' := 45) rfl ?_
    refine a_iadd hX dX10_fallOn_45 (pc' := 46) rfl ?_
    refine a_dup2 hX rfl rfl dX10_fallOn_46 (pc' := 47) rfl ?_
    refine a_iald hX rfl (by decide) (by decide) (by omega) hB dX10_fallOn_47 (pc' := 48) rfl (fun hb => ?_)
    rw [aU_nj (show 16 * l + 8 + p ≠ 16 * l + 4 + c by omega)]
    refine a_iconst hX dX10_fallOn_48 (pc' := 49) rfl ?_
    refine a_iadd hX dX10_fallOn_49 (pc' := 50) rfl ?_
    refine a_iastB hX rfl (by decide) (by decide) (by omega) hB (by omega) dX10_fallOn_50 (pc' := 51) rfl (fun hB => ?_)
    refine a_vret hX dX10_fallOn_51 (hE _ _ _ ?_)
    refine ⟨rfl, ?_, okS_drop hS (by omega) (by omega) h1 h2, fun a ha => by rw [aU_row ha, aU_row ha], fun j hj => by rw [aU_nj (by omega), aU_nj (by omega)], hB, rfl⟩
    rw [show 16 * l + 8 + p = 16 * l + (8 + p) by omega, show 16 * l + 4 + c = 16 * l + (4 + c) by omega, vR_u (by omega) (fun _ => by omega) (fun _ => by omega), vR_u (by omega) (fun _ => by omega) (fun _ => by omega)]
    funext j
    unfold dDrop
    rw [← vR_hi (Z := Z) (l := l) (j := 8 + p) (by omega), ← vR_fl (Z := Z) (l := l) (c := c) (by omega), vQ_k]
    first | rw [if_pos (show Z 64 c = 1 by omega)] | rw [if_neg (show ¬ Z 64 c = 1 by omega)]

set_option maxHeartbeats 4000000 in
set_option maxRecDepth 100000 in
theorem q_tearOn {G : aG} {Z : aZ} {Y : aY} {l p : Int} (hp : 0 ≤ p ∧ p < Z 62 2) (hl : 0 ≤ l ∧ l ≤ 1) (hB : aB Z) (hP : okP (vQ Z)) (hS : okS (vQ Z) (vR Z l)) (hd : Z 69 (16 * l + 15) ≤ 5000) : aSV G yX10_tearOn cX10_tearOn 3 none 0 0 [.ref (G.1 62), .int (aI l), .int (aI p)] Z Y (rSp Z Y l (dRip (vR Z l) p)) := by
  refine aS.of (own := RX10) (by decide +kernel) rfl 0 (Nat.le_of_ble_eq_true rfl) (fun X hX hE => ?_)
  show AW X G 0 [some (.ref (G.1 62)), some (.int (aI l)), some (.int (aI p))] [] Z Y
  have hfQ := fQ hP
  have hfR := fR hS
  refine a_aload_n hX rfl rfl dX10_tearOn_0 (pc' := 1) rfl ?_
  refine a_getfR hX (r := 69) fl_X10_28 rfl (by decide) rfl dX10_tearOn_1 (pc' := 4) rfl ?_
  refine a_bipush hX rfl dX10_tearOn_4 (pc' := 6) rfl ?_
  refine a_iload_n hX rfl rfl dX10_tearOn_6 (pc' := 7) rfl ?_
  refine a_imul hX dX10_tearOn_7 (pc' := 8) rfl ?_
  refine a_bipush hX rfl dX10_tearOn_8 (pc' := 10) rfl ?_
  refine a_iadd hX dX10_tearOn_10 (pc' := 11) rfl ?_
  refine a_dup2 hX rfl rfl dX10_tearOn_11 (pc' := 12) rfl ?_
  refine a_iald hX rfl (by decide) (by decide) (by omega) hB dX10_tearOn_12 (pc' := 13) rfl (fun hb => ?_)
  refine a_iconst hX dX10_tearOn_13 (pc' := 14) rfl ?_
  refine a_iload_n hX rfl rfl dX10_tearOn_14 (pc' := 15) rfl ?_
  have hw := aPow2 (p := p) (by omega)
  refine a_ishl hX (by omega) (by omega) (by omega) dX10_tearOn_15 (pc' := 16) rfl ?_
  refine a_ior hX (by omega) (by omega) dX10_tearOn_16 (pc' := 17) rfl ?_
  have hor := aOr_rng (x := Z 69 (16 * l + 13)) (y := 1 * 2 ^ p.toNat) (n := 5) (by omega) (by omega)
  refine a_iastB hX rfl (by decide) (by decide) (by omega) hB (by omega) dX10_tearOn_17 (pc' := 18) rfl (fun hB => ?_)
  refine a_aload_n hX rfl rfl dX10_tearOn_18 (pc' := 19) rfl ?_
  refine a_getfR hX (r := 69) fl_X10_28 rfl (by decide) rfl dX10_tearOn_19 (pc' := 22) rfl ?_
  refine a_bipush hX rfl dX10_tearOn_22 (pc' := 24) rfl ?_
  refine a_iload_n hX rfl rfl dX10_tearOn_24 (pc' := 25) rfl ?_
  refine a_imul hX dX10_tearOn_25 (pc' := 26) rfl ?_
  refine a_bipush hX rfl dX10_tearOn_26 (pc' := 28) rfl ?_
  refine a_iadd hX dX10_tearOn_28 (pc' := 29) rfl ?_
  refine a_iload_n hX rfl rfl dX10_tearOn_29 (pc' := 30) rfl ?_
  refine a_iadd hX dX10_tearOn_30 (pc' := 31) rfl ?_
  refine a_iconst hX dX10_tearOn_31 (pc' := 32) rfl ?_
  refine a_iastB hX rfl (by decide) (by decide) (by omega) hB (by omega) dX10_tearOn_32 (pc' := 33) rfl (fun hB => ?_)
  refine a_vret hX dX10_tearOn_33 (hE _ _ _ ?_)
  refine ⟨rfl, ?_, okS_rip hP hS (by omega), fun a ha => by rw [aU_row ha, aU_row ha], fun j hj => by rw [aU_nj (by omega), aU_nj (by omega)], hB, rfl⟩
  rw [show 16 * l + 8 + p = 16 * l + (8 + p) by omega, vR_u (by omega) (fun _ => by omega) (fun _ => by omega), vR_u (by omega) (fun _ => by omega) (fun _ => by omega)]
  funext j
  unfold dRip
  rw [vR_hi (l := l) (j := 13) (by omega), aTwo]

set_option maxHeartbeats 4000000 in
set_option maxRecDepth 100000 in
theorem q_puffOn {G : aG} {Z : aZ} {Y : aY} {l c : Int} {on : Bool} (hc : 0 ≤ c ∧ c < Z 62 1) (hl : 0 ≤ l ∧ l ≤ 1) (hB : aB Z) (hP : okP (vQ Z)) (hS : okS (vQ Z) (vR Z l)) (hd : Z 69 (16 * l + 15) ≤ 5000) : aSV G yX10_puffOn cX10_puffOn 4 none 0 0 [.ref (G.1 62), .int (aI l), .int (aI c), .int (aI (aTr on))] Z Y (rSp Z Y l (dPush (vR Z l) c on)) := by
  refine aS.of (own := RX10) (by decide +kernel) rfl 0 (Nat.le_of_ble_eq_true rfl) (fun X hX hE => ?_)
  show AW X G 0 [some (.ref (G.1 62)), some (.int (aI l)), some (.int (aI c)), some (.int (aI (aTr on)))] [] Z Y
  have hfQ := fQ hP
  have hfR := fR hS
  refine a_aload_n hX rfl rfl dX10_puffOn_0 (pc' := 1) rfl ?_
  refine a_getfR hX (r := 69) fl_X10_28 rfl (by decide) rfl dX10_puffOn_1 (pc' := 4) rfl ?_
  refine a_bipush hX rfl dX10_puffOn_4 (pc' := 6) rfl ?_
  refine a_iload_n hX rfl rfl dX10_puffOn_6 (pc' := 7) rfl ?_
  refine a_imul hX dX10_puffOn_7 (pc' := 8) rfl ?_
  refine a_iload_n hX rfl rfl dX10_puffOn_8 (pc' := 9) rfl ?_
  refine a_iadd hX dX10_puffOn_9 (pc' := 10) rfl ?_
  refine a_aload_n hX rfl rfl dX10_puffOn_10 (pc' := 11) rfl ?_
  refine a_getfR hX (r := 69) fl_X10_28 rfl (by decide) rfl dX10_puffOn_11 (pc' := 14) rfl ?_
  refine a_bipush hX rfl dX10_puffOn_14 (pc' := 16) rfl ?_
  refine a_iload_n hX rfl rfl dX10_puffOn_16 (pc' := 17) rfl ?_
  refine a_imul hX dX10_puffOn_17 (pc' := 18) rfl ?_
  refine a_iload_n hX rfl rfl dX10_puffOn_18 (pc' := 19) rfl ?_
  refine a_iadd hX dX10_puffOn_19 (pc' := 20) rfl ?_
  have hy := fRy hS (c := c) (by omega)
  refine a_iald hX rfl (by decide) (by decide) (by omega) hB dX10_puffOn_20 (pc' := 21) rfl (fun hb => ?_)
  refine a_iload_n hX rfl rfl dX10_puffOn_21 (pc' := 22) rfl ?_
  refine a_ifb_eq hX dX10_puffOn_22 (pc' := 25) rfl (tgt := 29) (by decide) (fun c22 => ?_) (fun c22 => ?_)
  · refine a_iconst hX dX10_puffOn_29 (pc' := 30) rfl ?_
    refine a_iadd hX dX10_puffOn_30 (pc' := 31) rfl ?_
    refine a_bipush hX rfl dX10_puffOn_31 (pc' := 33) rfl ?_
    refine a_irem hX (by omega) (by omega) dX10_puffOn_33 (pc' := 34) rfl ?_
    refine a_iastB hX rfl (by decide) (by decide) (by omega) hB (by omega) dX10_puffOn_34 (pc' := 35) rfl (fun hB => ?_)
    refine a_vret hX dX10_puffOn_35 (hE _ _ _ ?_)
    refine ⟨rfl, ?_, okS_push hS (by omega), fun a ha => by rw [aU_row ha], fun j hj => by rw [aU_nj (by omega)], hB, rfl⟩
    rw [vR_u (by omega) (fun _ => by omega) (fun _ => by omega)]
    funext j
    unfold dPush
    rw [vR_yd (l := l) (c := c) (by omega), c22]
    split
    · simp only [Bool.false_eq_true, ↓reduceIte]; try omega
    · rfl
  · refine a_iconst hX dX10_puffOn_25 (pc' := 26) rfl ?_
    refine a_goto hX dX10_puffOn_26 (tgt := 30) (by decide) ?_
    refine a_iadd hX dX10_puffOn_30 (pc' := 31) rfl ?_
    refine a_bipush hX rfl dX10_puffOn_31 (pc' := 33) rfl ?_
    refine a_irem hX (by omega) (by omega) dX10_puffOn_33 (pc' := 34) rfl ?_
    refine a_iastB hX rfl (by decide) (by decide) (by omega) hB (by omega) dX10_puffOn_34 (pc' := 35) rfl (fun hB => ?_)
    refine a_vret hX dX10_puffOn_35 (hE _ _ _ ?_)
    refine ⟨rfl, ?_, okS_push hS (by omega), fun a ha => by rw [aU_row ha], fun j hj => by rw [aU_nj (by omega)], hB, rfl⟩
    rw [vR_u (by omega) (fun _ => by omega) (fun _ => by omega)]
    funext j
    unfold dPush
    rw [vR_yd (l := l) (c := c) (by omega), c22]
    split
    · simp only [Bool.false_eq_true, ↓reduceIte]; try omega
    · rfl

set_option maxHeartbeats 4000000 in
set_option maxRecDepth 100000 in
theorem q_blow {G : aG} {Z : aZ} {Y : aY} {l : Int} (hl : 0 ≤ l ∧ l ≤ 1) (hB : aB Z) (hP : okP (vQ Z)) (hS : okS (vQ Z) (vR Z l)) (hd : Z 69 (16 * l + 15) ≤ 5000) : aSV G yX10_blow cX10_blow 5 none 1 24 [.ref (G.1 62), .int (aI l)] Z Y (fun Z' Y' => (∀ j : Int, Z' 69 j = if 16 * l ≤ j ∧ j < 16 * l + Z 62 1 then (Z 69 j + pDrift (vQ Z) (Z 64 (j - 16 * l)) (Z 69 (16 * l + 15))) % 6 else Z 69 j) ∧ (∀ a : Nat, a ≠ 69 → Z' a = Z a) ∧ aB Z' ∧ Y' = Y) := by
  refine aS.of (own := RX10) (by decide +kernel) rfl 3 (Nat.le_of_ble_eq_true rfl) (fun X hX hE => ?_)
  show AW X G 0 [some (.ref (G.1 62)), some (.int (aI l)), none, none, none] [] Z Y
  have hfQ := fQ hP
  have hfR := fR hS
  refine a_bipush hX rfl dX10_blow_0 (pc' := 2) rfl ?_
  refine a_iload_n hX rfl rfl dX10_blow_2 (pc' := 3) rfl ?_
  refine a_imul hX dX10_blow_3 (pc' := 4) rfl ?_
  refine a_istore2 hX rfl (by decide) rfl dX10_blow_4 (pc' := 5) rfl ?_
  refine a_aload_n hX rfl rfl dX10_blow_5 (pc' := 6) rfl ?_
  refine a_aload_n hX rfl rfl dX10_blow_6 (pc' := 7) rfl ?_
  refine a_getfR hX (r := 69) fl_X10_28 rfl (by decide) rfl dX10_blow_7 (pc' := 10) rfl ?_
  refine a_iload_n hX rfl rfl dX10_blow_10 (pc' := 11) rfl ?_
  refine a_bipush hX rfl dX10_blow_11 (pc' := 13) rfl ?_
  refine a_iadd hX dX10_blow_13 (pc' := 14) rfl ?_
  refine a_iald hX rfl (by decide) (by decide) (by omega) hB dX10_blow_14 (pc' := 15) rfl (fun hb => ?_)
  refine a_cV1i hX cv_X10_134 (q_windOf (by omega) hB hP) rfl (by decide) ⟨by decide, by decide⟩ (Nat.le_of_ble_eq_true rfl) dX10_blow_15 (pc' := 18) rfl ?_
  refine a_istore3 hX rfl (by decide) rfl dX10_blow_18 (pc' := 19) rfl ?_
  refine a_iconst hX dX10_blow_19 (pc' := 20) rfl ?_
  refine a_istore4 hX (by decide) rfl dX10_blow_20 (pc' := 22) rfl ?_
  have L22 : ∀ (n : Nat) (i : Int) (Z1 : aZ), (0 ≤ i ∧ i ≤ Z 62 1) → aB Z1 → (∀ j : Int, Z1 69 j = if 16 * l ≤ j ∧ j < 16 * l + i then (Z 69 j + pDrift (vQ Z) (Z 64 (j - 16 * l)) (Z 69 (16 * l + 15))) % 6 else Z 69 j) → (∀ a : Nat, a ≠ 69 → Z1 a = Z a) → (Z 62 1 - i).toNat < n → AW X G 22 [some (.ref (G.1 62)), some (.int (aI l)), some (.int (aI (16 * l))), some (.int (aI (pWind (vQ Z) (Z 69 (16 * l + 15))))), some (.int (aI i))] [] Z1 Y := by
    intro n
    induction n with
    | zero =>
      intro i Z1 hi hB hj hz hn
      omega
    | succ n ih =>
      intro i Z1 hi hB hj hz hn
      have f621 : Z1 62 1 = Z 62 1 := by rw [hz 62 (by omega)]
      have f64 : Z1 64 = Z 64 := hz 64 (by omega)
      have hwr := pWind_rng hP (Z 69 (16 * l + 15))
      refine a_iload hX rfl dX10_blow_22 (pc' := 24) rfl ?_
      refine a_aload_n hX rfl rfl dX10_blow_24 (pc' := 25) rfl ?_
      refine a_getfI hX (ji := 1) rfl hB fl_X10_105 rfl (by decide) rfl dX10_blow_25 (pc' := 28) rfl (fun hb => ?_)
      refine a_icmp_ge hX (by omega) (by omega) dX10_blow_28 (pc' := 31) rfl (tgt := 66) (by decide) (fun c28 => ?_) (fun c28 => ?_)
      · refine a_vret hX dX10_blow_66 (hE _ _ _ ?_)
        obtain rfl : i = Z 62 1 := by omega
        exact ⟨rfl, hj, hz, hB, rfl⟩
      · refine a_aload_n hX rfl rfl dX10_blow_31 (pc' := 32) rfl ?_
        refine a_getfR hX (r := 69) fl_X10_28 rfl (by decide) rfl dX10_blow_32 (pc' := 35) rfl ?_
        refine a_iload_n hX rfl rfl dX10_blow_35 (pc' := 36) rfl ?_
        refine a_iload hX rfl dX10_blow_36 (pc' := 38) rfl ?_
        refine a_iadd hX dX10_blow_38 (pc' := 39) rfl ?_
        refine a_aload_n hX rfl rfl dX10_blow_39 (pc' := 40) rfl ?_
        refine a_getfR hX (r := 69) fl_X10_28 rfl (by decide) rfl dX10_blow_40 (pc' := 43) rfl ?_
        refine a_iload_n hX rfl rfl dX10_blow_43 (pc' := 44) rfl ?_
        refine a_iload hX rfl dX10_blow_44 (pc' := 46) rfl ?_
        refine a_iadd hX dX10_blow_46 (pc' := 47) rfl ?_
        refine a_iald hX rfl (by decide) (by decide) (by omega) hB dX10_blow_47 (pc' := 48) rfl (fun hb => ?_)
        refine a_aload_n hX rfl rfl dX10_blow_48 (pc' := 49) rfl ?_
        refine a_getfR hX (r := 64) fl_X10_13 rfl (by decide) rfl dX10_blow_49 (pc' := 52) rfl ?_
        refine a_iload hX rfl dX10_blow_52 (pc' := 54) rfl ?_
        refine a_iald hX rfl (by decide) (by decide) (by omega) hB dX10_blow_54 (pc' := 55) rfl (fun hb => ?_)
        refine a_iload_n hX rfl rfl dX10_blow_55 (pc' := 56) rfl ?_
        have hy := fRy hS (c := i) (by omega)
        have e69 : Z1 69 (16 * l + i) = Z 69 (16 * l + i) := by rw [hj, if_neg (by omega)]
        have hk := fQk hP i
        rw [f64, e69]
        refine a_cS3i hX cs_X10_138 (q_blown (by omega) (by omega) (by omega)) ⟨by decide, by decide⟩ (Nat.le_of_ble_eq_true rfl) dX10_blow_56 (pc' := 59) rfl ?_
        have hmd := Int.emod_nonneg (Z 69 (16 * l + i) + pWay (pWind (vQ Z) (Z 69 (16 * l + 15))) * pPace (Z 64 i)) (show (6 : Int) ≠ 0 by omega)
        have hmd2 := Int.emod_lt_of_pos (Z 69 (16 * l + i) + pWay (pWind (vQ Z) (Z 69 (16 * l + 15))) * pPace (Z 64 i)) (show (0 : Int) < 6 by omega)
        rw [← f64, ← e69] at hmd hmd2 ⊢
        refine a_iastB hX rfl (by decide) (by decide) (by omega) hB (by omega) dX10_blow_59 (pc' := 60) rfl (fun hB => ?_)
        refine a_iinc4 hX (by decide) rfl dX10_blow_60 (pc' := 63) rfl ?_
        refine a_goto hX dX10_blow_63 (tgt := 22) (by decide) ?_
        refine ih (i + 1) _ (by omega) hB (fun j => ?_) (fun a ha => by rw [aU_row ha]; exact hz a ha) (by omega)
        rw [aU_at]
        by_cases e : j = 16 * l + i
        · rw [if_pos e, if_pos (by omega), hj, if_neg (by omega), e, show 16 * l + i - 16 * l = i by omega, f64]
          rfl
        · rw [if_neg e, hj]
          by_cases e2 : 16 * l ≤ j ∧ j < 16 * l + i
          · rw [if_pos e2, if_pos (by omega)]
          · rw [if_neg e2, if_neg (by omega)]
  exact L22 5 0 Z (by omega) hB (fun j => by rw [if_neg (by omega)]) (fun _ _ => rfl) (by omega)

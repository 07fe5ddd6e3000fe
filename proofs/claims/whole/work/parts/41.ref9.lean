theorem aOrs_congr {f g : Int → Int} : ∀ n : Nat, (∀ i : Int, 0 ≤ i ∧ i < n → f i = g i) → aOrs f n = aOrs g n
  | 0, _ => rfl
  | n + 1, h => by
    show aOr (aOrs f n) (f n) = aOr (aOrs g n) (g n)
    rw [aOrs_congr n (fun i hi => h i (by omega)), h n (by omega)]
def sCn (S : aSk) (P : aP) : Int → Int := fun c => sServs P S c (S c)
def sFill (P : aP) (S : aSk) (pr : Int) : Int := vFill (P 0 1).toNat (P 0 2).toNat (sHas P S) (fun c => sServs P S c (S c)) (sOwed P S) pr
theorem nBit {f : Int → Bool} {n : Nat} {i : Int} (hi : 0 ≤ i) : aBit ((nBits f n : Nat) : Int) i = (decide (i < n) && f i) := aBit_bits f n hi
theorem rMost_eq {P : aP} {S : aSk} {th : Int} (h0 : 0 ≤ th) : rMost P S th = sFill P S th := by
  unfold rMost sFill vFill
  refine Int.le_antisymm ?_ ?_
  · refine vMin_ge (vMin_le0 _) _ (fun s hs hk => ?_)
    have hsub := (vSub_bits (by omega) h0).mp hk
    refine Int.le_trans (vMin_le (2 ^ (P 0 1).toNat) (nBits (fun c => !aBit s c) (P 0 1).toNat) (nBits_lt _ _) rfl) (Int.le_of_eq ?_)
    unfold rCut vCut
    have e1 : rCost P S th ((nBits (fun c => !aBit s c) (P 0 1).toNat : Nat) : Int) (P 0 1).toNat = aSum (fun c => if aBit s c = true then 0 else if aBit th c = true then sHas P S c else 0) (P 0 1).toNat := aSum_congr _ (fun c hc => by
      rw [nBit hc.1, decide_eq_true hc.2]
      cases aBit s c <;> simp)
    have e2 : rReach P S th ((nBits (fun c => !aBit s c) (P 0 1).toNat : Nat) : Int) (P 0 1).toNat = aOrs (fun c => if aBit s c = true then sServs P S c (S c) else 0) (P 0 1).toNat := aOrs_congr _ (fun c hc => by
      rw [nBit hc.1, decide_eq_true hc.2]
      unfold rSv
      cases e : aBit s c
      · simp
      · rw [hsub c hc.1 e]; simp)
    rw [e1, e2]
    rfl
  · refine vMin_ge (vMin_le0 _) _ (fun s hs _ => ?_)
    refine Int.le_trans (vMin_le (2 ^ (P 0 1).toNat) (nBits (fun c => aBit th c && !aBit s c) (P 0 1).toNat) (nBits_lt _ _) ?_) (Int.le_of_eq ?_)
    · rw [vSub_bits (by omega) h0]
      intro k hk hb
      rw [nBit hk] at hb
      simp only [Bool.and_eq_true] at hb
      exact hb.2.1
    · unfold rCut vCut
      have e1 : rCost P S th s (P 0 1).toNat = aSum (fun c => if aBit ((nBits (fun c => aBit th c && !aBit s c) (P 0 1).toNat : Nat) : Int) c = true then 0 else if aBit th c = true then sHas P S c else 0) (P 0 1).toNat := aSum_congr _ (fun c hc => by
        rw [nBit hc.1, decide_eq_true hc.2]
        cases aBit s c <;> cases aBit th c <;> simp)
      have e2 : rReach P S th s (P 0 1).toNat = aOrs (fun c => if aBit ((nBits (fun c => aBit th c && !aBit s c) (P 0 1).toNat : Nat) : Int) c = true then sServs P S c (S c) else 0) (P 0 1).toNat := aOrs_congr _ (fun c hc => by
        rw [nBit hc.1, decide_eq_true hc.2]
        unfold rSv
        cases aBit s c <;> cases aBit th c <;> simp)
      rw [e1, e2]
      rfl
theorem nBits_all : ∀ n : Nat, n ≤ 4 → nBits (fun _ => true) n = 2 ^ n - 1 := by decide
theorem sFill_15 {P : aP} {S : aSk} (hP : okP P) : sFill P S 15 = sMost P S := by
  have h4 := hP.2.1
  have hb : ∀ k : Int, 0 ≤ k ∧ k < 4 → aBit 15 k = true := fun k hk => by
    have : k = 0 ∨ k = 1 ∨ k = 2 ∨ k = 3 := by omega
    rcases this with rfl | rfl | rfl | rfl <;> decide
  have e2 : (2 : Int) ^ (P 0 1).toNat - 1 = ((nBits (fun _ => true) (P 0 1).toNat : Nat) : Int) := by
    rw [nBits_all _ (by omega)]
    have := Nat.one_le_two_pow (n := (P 0 1).toNat)
    have e : ((2 : Int) ^ (P 0 1).toNat) = ((2 ^ (P 0 1).toNat : Nat) : Int) := by simp
    rw [e]
    omega
  rw [← rMost_eq (by decide)]
  unfold sMost
  rw [show vFill (P 0 1).toNat (P 0 2).toNat (sHas P S) (fun c => sServs P S c (S c)) (sOwed P S) (2 ^ (P 0 1).toNat - 1) = rMost P S (2 ^ (P 0 1).toNat - 1) from (rMost_eq (by rw [e2]; omega)).symm]
  unfold rMost
  refine vMin_congr (fun s => ?_) _
  unfold rCut
  have e1 : rCost P S 15 s (P 0 1).toNat = rCost P S (2 ^ (P 0 1).toNat - 1) s (P 0 1).toNat := aSum_congr _ (fun c hc => by
    rw [e2, nBit hc.1, decide_eq_true hc.2, hb c (by omega)]; rfl)
  have e3 : rReach P S 15 s (P 0 1).toNat = rReach P S (2 ^ (P 0 1).toNat - 1) s (P 0 1).toNat := aOrs_congr _ (fun c hc => by
    unfold rSv
    rw [e2, nBit hc.1, decide_eq_true hc.2, hb c (by omega)]; rfl)
  rw [e1, e3]
theorem sLacks_eq {P : aP} {S : aSk} {p : Int} (hp : 0 ≤ p ∧ p < P 0 2) : sLacks P S p = max 0 (sOwed P S p - aSum (fun c => if sServ P S c (S c) p = true then sHas P S c else 0) (P 0 1).toNat) := by
  unfold sLacks
  congr 2
  refine aSum_congr _ (fun c hc => ?_)
  unfold sServs
  rw [aBit_bits _ _ hp.1, decide_eq_true (by omega : p < ((P 0 2).toNat : Int)), Bool.true_and]
/-- the trial laid aside -/
def qTr (Z Z' : aZ) : Prop := (∀ a : Nat, a ≠ 69 → Z' a = Z a) ∧ ∀ j : Int, j < 16 → Z' 69 j = Z 69 j

set_option maxHeartbeats 4000000 in
set_option maxRecDepth 100000 in
theorem q_seed {G : aG} {Z : aZ} {Y : aY} {v : Int64} (hB : aB Z) : aSJ G yX10_seed cX10_seed 5 (some .long) 0 0 [.ref (G.1 62), .long v] Z Y (fun x Z' Y' => x = Y 62 ∧ Z' = Z ∧ Y' = aUy Y 62 v) := by
  refine aS.of (own := RX10) (by decide +kernel) rfl 2 (Nat.le_of_ble_eq_true rfl) (fun X hX hE => ?_)
  show AW X G 0 [some (.ref (G.1 62)), some (.long v), none, none, none] [] Z Y
  refine a_aload_n hX rfl rfl dX10_seed_0 (pc' := 1) rfl ?_
  refine a_getfJ hX fl_X10_253 rfl (by decide) rfl dX10_seed_1 (pc' := 4) rfl ?_
  refine a_lstore3 hX rfl (by decide) rfl dX10_seed_4 (pc' := 5) rfl ?_
  refine a_aload_n hX rfl rfl dX10_seed_5 (pc' := 6) rfl ?_
  refine a_lload_n hX rfl rfl dX10_seed_6 (pc' := 7) rfl ?_
  refine a_putfJ hX fl_X10_253 nf_9_28 rfl (by decide) (fun i => by match i with | 0 => decide | 1 => decide | 2 => decide | 3 => decide | 4 => decide | 5 => decide | 6 => decide | 7 => decide | 8 => decide | 9 => decide | 10 => decide | 11 => decide | 12 => decide | 13 => decide | 14 => decide | 15 => decide | 16 => decide | 17 => decide | 18 => decide | 19 => decide | 20 => decide | 21 => decide | 22 => decide | 23 => decide | 24 => decide | 25 => decide | 26 => decide | 27 => decide | 28 => decide | 29 => decide | 30 => decide | n + 31 => simp) dX10_seed_7 (pc' := 10) rfl ?_
  refine a_lload_n hX rfl rfl dX10_seed_10 (pc' := 11) rfl ?_
  refine a_lret hX dX10_seed_11 (hE _ _ _ ?_)
  exact ⟨_, rfl, rfl, rfl, rfl⟩

set_option maxHeartbeats 4000000 in
set_option maxRecDepth 100000 in
theorem q_where {G : aG} {Z : aZ} {Y : aY} {c n : Int} (hc : -2147483648 ≤ c ∧ c < 2147483648) (hn : -2147483648 ≤ n ∧ n < 2147483648) (hd4 : Z 69 15 ≤ 4000) (hB : aB Z) (hP : okP (vQ Z)) (hS : okS (vQ Z) (vR Z 0)) (hd : Z 69 15 ≤ 5000) : aSI G yX10_where cX10_where 3 (some .int) 4 95 [.ref (G.1 62), .int (aI c), .int (aI n)] Z Y (fun x Z' Y' => x = (if pHasC (vQ Z) c = true then (if 0 ≤ n ∧ n ≤ 20 then pCarry (vQ Z) (vQ Z 4 c) (vR Z 0 c) (vR Z 0 15) n.toNat else -2) else -1) ∧ qTr Z Z' ∧ aB Z' ∧ Y' = Y) := by
  refine aS.of (own := RX10) (by decide +kernel) rfl 0 (Nat.le_of_ble_eq_true rfl) (fun X hX hE => ?_)
  show AW X G 0 [some (.ref (G.1 62)), some (.int (aI c)), some (.int (aI n))] [] Z Y
  have hfQ := fQ hP
  have hfR := fR hS
  have hfR1 : 0 ≤ Z 69 15 := hfR.2.2
  have hfR2 : 0 ≤ Z 69 13 ∧ Z 69 13 < 32 := hfR.1
  refine a_aload_n hX rfl rfl dX10_where_0 (pc' := 1) rfl ?_
  refine a_iload_n hX rfl rfl dX10_where_1 (pc' := 2) rfl ?_
  refine a_cV1i hX cv_X10_118 (q_isCloud (by omega) hB hP) rfl (by decide) ⟨by decide, by decide⟩ (Nat.le_of_ble_eq_true rfl) dX10_where_2 (pc' := 5) rfl ?_
  refine a_ifb_ne hX dX10_where_5 (pc' := 8) rfl (tgt := 10) (by decide) (fun c5 => ?_) (fun c5 => ?_)
  · have hc1 := qHasC_no c5
    refine a_iload_n hX rfl rfl dX10_where_10 (pc' := 11) rfl ?_
    refine a_i2l hX (by omega) dX10_where_11 (pc' := 12) rfl ?_
    refine a_lconst hX (v := 0) rfl dX10_where_12 (pc' := 13) rfl ?_
    refine a_ldc2J hX (z := 20) w_1034 (by decide) dX10_where_13 (pc' := 16) rfl ?_
    refine a_cS3i hX cs_X10_68 (q_in (by omega) (by omega) (by omega)) ⟨by decide, by decide⟩ (Nat.le_of_ble_eq_true rfl) dX10_where_16 (pc' := 19) rfl ?_
    refine a_ifb_ne hX dX10_where_19 (pc' := 22) rfl (tgt := 25) (by decide) (fun c19 => ?_) (fun c19 => ?_)
    · have c19 := of_decide_eq_true c19
      refine a_aload_n hX rfl rfl dX10_where_25 (pc' := 26) rfl ?_
      refine a_cV0V hX cv_X10_191 (q_layTrial hB) rfl (by decide) ⟨by decide, by decide⟩ (Nat.le_of_ble_eq_true rfl) dX10_where_26 (pc' := 29) rfl (fun Z26 Y26 h26 => ?_)
      obtain ⟨u1, u2, u3, hB, rfl⟩ := h26
      have eP : vQ Z26 = vQ Z := vQ_eq (fun a ha => u3 a (by omega))
      have hP1 : okP (vQ Z26) := by rw [eP]; exact hP
      have hS1 : okS (vQ Z26) (vR Z26 1) := by rw [eP, u1]; exact hS
      have hd1 : Z26 69 31 ≤ 4000 := by rw [u2, if_pos (by omega)]; exact hd4
      refine a_aload_n hX rfl rfl dX10_where_29 (pc' := 30) rfl ?_
      refine a_iload_n hX rfl rfl dX10_where_30 (pc' := 31) rfl ?_
      refine a_cV1V hX cv_X10_194 (q_goOn hB hP1 hS1 (by omega) hd1) rfl (by decide) ⟨by decide, by decide⟩ (Nat.le_of_ble_eq_true rfl) dX10_where_31 (pc' := 34) rfl (fun Z31 Y31 h31 => ?_)
      rw [eP, u1] at h31
      obtain ⟨w1, w2, w3, w4, hB, rfl⟩ := h31
      have hTr : qTr Z Z31 := ⟨fun a ha => by rw [w3 a ha, u3 a ha], fun j hj => by rw [w4 j (by omega), u2, if_neg (by omega)]⟩
      refine a_aload_n hX rfl rfl dX10_where_34 (pc' := 35) rfl ?_
      refine a_getfR hX (r := 69) fl_X10_28 rfl (by decide) rfl dX10_where_35 (pc' := 38) rfl ?_
      refine a_bipush hX rfl dX10_where_38 (pc' := 40) rfl ?_
      refine a_iload_n hX rfl rfl dX10_where_40 (pc' := 41) rfl ?_
      refine a_iadd hX dX10_where_41 (pc' := 42) rfl ?_
      refine a_iald hX rfl (by decide) (by decide) (by omega) hB dX10_where_42 (pc' := 43) rfl (fun hb => ?_)
      refine a_iret hX dX10_where_43 (hE _ _ _ ?_)
      refine ⟨_, rfl, ?_, hTr, hB, rfl⟩
      have e := congrFun w1 c
      rw [dDays_c (by rw [vQ_1]; omega) (by rw [vQ_1]; omega), vR_yd (Z := Z31) (l := 1) (by rw [hTr.1 62 (by decide)]; omega)] at e
      rw [c5, if_pos rfl, if_pos (by omega), ← e]
      rfl
    · have c19 := of_decide_eq_false c19
      refine a_bipush hX rfl dX10_where_22 (pc' := 24) rfl ?_
      refine a_iret hX dX10_where_24 (hE _ _ _ ?_)
      exact ⟨_, rfl, by rw [c5, if_pos rfl, if_neg (by omega)], ⟨fun _ _ => rfl, fun _ _ => rfl⟩, hB, rfl⟩
  · refine a_iconst hX dX10_where_8 (pc' := 9) rfl ?_
    refine a_iret hX dX10_where_9 (hE _ _ _ ?_)
    exact ⟨_, rfl, by rw [c5]; rfl, ⟨fun _ _ => rfl, fun _ _ => rfl⟩, hB, rfl⟩

set_option maxHeartbeats 4000000 in
set_option maxRecDepth 100000 in
theorem q_umbrellas {G : aG} {Z : aZ} {Y : aY} {n : Int} (hn : -2147483648 ≤ n ∧ n < 2147483648) (hd4 : Z 69 15 ≤ 4000) (hB : aB Z) (hP : okP (vQ Z)) (hS : okS (vQ Z) (vR Z 0)) (hd : Z 69 15 ≤ 5000) : aSI G yX10_umbrellas cX10_umbrellas 2 (some .int) 4 95 [.ref (G.1 62), .int (aI n)] Z Y (fun x Z' Y' => x = (if 0 ≤ n ∧ n ≤ 20 then sUmb (vQ Z) (vR Z 0) (vR Z 0 15 + n) else -2) ∧ qTr Z Z' ∧ aB Z' ∧ Y' = Y) := by
  refine aS.of (own := RX10) (by decide +kernel) rfl 0 (Nat.le_of_ble_eq_true rfl) (fun X hX hE => ?_)
  show AW X G 0 [some (.ref (G.1 62)), some (.int (aI n))] [] Z Y
  have hfQ := fQ hP
  have hfR := fR hS
  have hfR1 : 0 ≤ Z 69 15 := hfR.2.2
  have hfR2 : 0 ≤ Z 69 13 ∧ Z 69 13 < 32 := hfR.1
  refine a_iload_n hX rfl rfl dX10_umbrellas_0 (pc' := 1) rfl ?_
  refine a_i2l hX (by omega) dX10_umbrellas_1 (pc' := 2) rfl ?_
  refine a_lconst hX (v := 0) rfl dX10_umbrellas_2 (pc' := 3) rfl ?_
  refine a_ldc2J hX (z := 20) w_1034 (by decide) dX10_umbrellas_3 (pc' := 6) rfl ?_
  refine a_cS3i hX cs_X10_68 (q_in (by omega) (by omega) (by omega)) ⟨by decide, by decide⟩ (Nat.le_of_ble_eq_true rfl) dX10_umbrellas_6 (pc' := 9) rfl ?_
  refine a_ifb_ne hX dX10_umbrellas_9 (pc' := 12) rfl (tgt := 15) (by decide) (fun c9 => ?_) (fun c9 => ?_)
  · have c9 := of_decide_eq_true c9
    refine a_aload_n hX rfl rfl dX10_umbrellas_15 (pc' := 16) rfl ?_
    refine a_cV0V hX cv_X10_191 (q_layTrial hB) rfl (by decide) ⟨by decide, by decide⟩ (Nat.le_of_ble_eq_true rfl) dX10_umbrellas_16 (pc' := 19) rfl (fun Z16 Y16 h16 => ?_)
    obtain ⟨u1, u2, u3, hB, rfl⟩ := h16
    have eP : vQ Z16 = vQ Z := vQ_eq (fun a ha => u3 a (by omega))
    have hP1 : okP (vQ Z16) := by rw [eP]; exact hP
    have hS1 : okS (vQ Z16) (vR Z16 1) := by rw [eP, u1]; exact hS
    have hd1 : Z16 69 31 ≤ 4000 := by rw [u2, if_pos (by omega)]; exact hd4
    refine a_aload_n hX rfl rfl dX10_umbrellas_19 (pc' := 20) rfl ?_
    refine a_iload_n hX rfl rfl dX10_umbrellas_20 (pc' := 21) rfl ?_
    refine a_cV1V hX cv_X10_194 (q_goOn hB hP1 hS1 (by omega) hd1) rfl (by decide) ⟨by decide, by decide⟩ (Nat.le_of_ble_eq_true rfl) dX10_umbrellas_21 (pc' := 24) rfl (fun Z21 Y21 h21 => ?_)
    rw [eP, u1] at h21
    obtain ⟨w1, w2, w3, w4, hB, rfl⟩ := h21
    have hTr : qTr Z Z21 := ⟨fun a ha => by rw [w3 a ha, u3 a ha], fun j hj => by rw [w4 j (by omega), u2, if_neg (by omega)]⟩
    refine a_aload_n hX rfl rfl dX10_umbrellas_24 (pc' := 25) rfl ?_
    refine a_getfR hX (r := 69) fl_X10_28 rfl (by decide) rfl dX10_umbrellas_25 (pc' := 28) rfl ?_
    refine a_bipush hX rfl dX10_umbrellas_28 (pc' := 30) rfl ?_
    refine a_iald hX rfl (by decide) (by decide) (by omega) hB dX10_umbrellas_30 (pc' := 31) rfl (fun hb => ?_)
    refine a_iret hX dX10_umbrellas_31 (hE _ _ _ ?_)
    refine ⟨_, rfl, ?_, hTr, hB, rfl⟩
    have e := congrFun w1 14
    rw [dDays_14 hP, vR_hi (by omega), Int.toNat_of_nonneg (by omega)] at e
    rw [if_pos (by omega), ← e]
    rfl
  · have c9 := of_decide_eq_false c9
    refine a_bipush hX rfl dX10_umbrellas_12 (pc' := 14) rfl ?_
    refine a_iret hX dX10_umbrellas_14 (hE _ _ _ ?_)
    exact ⟨_, rfl, by rw [if_neg (by omega)], ⟨fun _ _ => rfl, fun _ _ => rfl⟩, hB, rfl⟩

set_option maxHeartbeats 4000000 in
set_option maxRecDepth 100000 in
theorem q_most {G : aG} {Z : aZ} {Y : aY} (h15 : Z 62 20 = 15) (hB : aB Z) (hP : okP (vQ Z)) (hS : okS (vQ Z) (vR Z 0)) (hd : Z 69 15 ≤ 5000) : aSI G yX10_most cX10_most 1 (some .int) 5 121 [.ref (G.1 62)] Z Y (fun x Z' Y' => x = sMost (vQ Z) (vR Z 0) ∧ (∀ a : Nat, a ≠ 74 → Z' a = Z a) ∧ aB Z' ∧ Y' = Y) := by
  refine aS.of (own := RX10) (by decide +kernel) rfl 0 (Nat.le_of_ble_eq_true rfl) (fun X hX hE => ?_)
  show AW X G 0 [some (.ref (G.1 62))] [] Z Y
  have hfQ := fQ hP
  have hfR := fR hS
  have hfR1 : 0 ≤ Z 69 15 := hfR.2.2
  have hfR2 : 0 ≤ Z 69 13 ∧ Z 69 13 < 32 := hfR.1
  refine a_aload_n hX rfl rfl dX10_most_0 (pc' := 1) rfl ?_
  refine a_iconst hX dX10_most_1 (pc' := 2) rfl ?_
  refine a_cV1I hX cv_X10_197 (q_mostOn (by omega) (by omega) hB hP hS hd) rfl (by decide) ⟨by decide, by decide⟩ (Nat.le_of_ble_eq_true rfl) dX10_most_2 (pc' := 5) rfl (fun x2 Z2 Y2 h2 => ?_)
  obtain ⟨e2, z2, hB, rfl⟩ := h2
  refine a_iret hX dX10_most_5 (hE _ _ _ ?_)
  exact ⟨_, rfl, by rw [e2, h15, rMost_eq (by decide), sFill_15 hP], z2, hB, rfl⟩

set_option maxHeartbeats 4000000 in
set_option maxRecDepth 100000 in
theorem q_lacks {G : aG} {Z : aZ} {Y : aY} {p : Int} (hp : -2147483648 ≤ p ∧ p < 2147483648) (hB : aB Z) (hP : okP (vQ Z)) (hS : okS (vQ Z) (vR Z 0)) (hd : Z 69 15 ≤ 5000) : aSi G yX10_lacks cX10_lacks 4 (some .int) 3 71 [.ref (G.1 62), .int (aI p)] Z Y (if pHasP (vQ Z) p = true then sLacks (vQ Z) (vR Z 0) p else -1) := by
  refine aS.of (own := RX10) (by decide +kernel) rfl 2 (Nat.le_of_ble_eq_true rfl) (fun X hX hE => ?_)
  show AW X G 0 [some (.ref (G.1 62)), some (.int (aI p)), none, none] [] Z Y
  have hfQ := fQ hP
  have hfR := fR hS
  have hfR1 : 0 ≤ Z 69 15 := hfR.2.2
  have hfR2 : 0 ≤ Z 69 13 ∧ Z 69 13 < 32 := hfR.1
  refine a_aload_n hX rfl rfl dX10_lacks_0 (pc' := 1) rfl ?_
  refine a_iload_n hX rfl rfl dX10_lacks_1 (pc' := 2) rfl ?_
  refine a_cV1i hX cv_X10_122 (q_isPaper (by omega) hB hP) rfl (by decide) ⟨by decide, by decide⟩ (Nat.le_of_ble_eq_true rfl) dX10_lacks_2 (pc' := 5) rfl ?_
  refine a_ifb_ne hX dX10_lacks_5 (pc' := 8) rfl (tgt := 10) (by decide) (fun c5 => ?_) (fun c5 => ?_)
  · have hp1 := qHasP_no c5
    refine a_aload_n hX rfl rfl dX10_lacks_10 (pc' := 11) rfl ?_
    refine a_iconst hX dX10_lacks_11 (pc' := 12) rfl ?_
    refine a_iload_n hX rfl rfl dX10_lacks_12 (pc' := 13) rfl ?_
    refine a_cV2i hX cv_X10_125 (q_owed (by omega) (by omega) hB hP hS hd) rfl (by decide) ⟨by decide, by decide⟩ (Nat.le_of_ble_eq_true rfl) dX10_lacks_13 (pc' := 16) rfl ?_
    refine a_istore2 hX rfl (by decide) rfl dX10_lacks_16 (pc' := 17) rfl ?_
    refine a_iconst hX dX10_lacks_17 (pc' := 18) rfl ?_
    refine a_istore3 hX rfl (by decide) rfl dX10_lacks_18 (pc' := 19) rfl ?_
    have L19 : ∀ (n : Nat) (i : Int), (0 ≤ i ∧ i ≤ Z 62 1) → (Z 62 1 - i).toNat < n → AW X G 19 [some (.ref (G.1 62)), some (.int (aI p)), some (.int (aI (max 0 (sOwed (vQ Z) (vR Z 0) p - aSum (fun c => if sServ (vQ Z) (vR Z 0) c (vR Z 0 c) p = true then sHas (vQ Z) (vR Z 0) c else 0) i.toNat)))), some (.int (aI i))] [] Z Y := by
      intro n
      induction n with
      | zero =>
        intro i hi hn
        omega
      | succ n ih =>
        intro i hi hn
        have ho := sOwed_rng hP hS (p := p) (by omega)
        have hh : i < Z 62 1 → 0 ≤ sHas (vQ Z) (vR Z 0) i ∧ sHas (vQ Z) (vR Z 0) i ≤ 9 := fun q => sHas_rng hS (c := i) (by omega)
        have ht := aSum_rng (f := fun c => if sServ (vQ Z) (vR Z 0) c (vR Z 0 c) p = true then sHas (vQ Z) (vR Z 0) c else 0) (a := 0) (b := 9) i.toNat (fun c hc => by
          have := sHas_rng hS (c := c) (by omega)
          try dsimp only
          split <;> omega)
        have hmx : 0 ≤ max 0 (sOwed (vQ Z) (vR Z 0) p - aSum (fun c => if sServ (vQ Z) (vR Z 0) c (vR Z 0 c) p = true then sHas (vQ Z) (vR Z 0) c else 0) i.toNat) ∧ max 0 (sOwed (vQ Z) (vR Z 0) p - aSum (fun c => if sServ (vQ Z) (vR Z 0) c (vR Z 0 c) p = true then sHas (vQ Z) (vR Z 0) c else 0) i.toNat) ≤ 9 := by omega
        refine a_iload_n hX rfl rfl dX10_lacks_19 (pc' := 20) rfl ?_
        refine a_aload_n hX rfl rfl dX10_lacks_20 (pc' := 21) rfl ?_
        refine a_getfI hX (ji := 1) rfl hB fl_X10_105 rfl (by decide) rfl dX10_lacks_21 (pc' := 24) rfl (fun hb => ?_)
        refine a_icmp_ge hX (by omega) (by omega) dX10_lacks_24 (pc' := 27) rfl (tgt := 60) (by decide) (fun c24 => ?_) (fun c24 => ?_)
        · refine a_iload_n hX rfl rfl dX10_lacks_60 (pc' := 61) rfl ?_
          refine a_iret hX dX10_lacks_61 (hE _ _ _ ?_)
          obtain rfl : i = Z 62 1 := by omega
          refine ⟨aLf ?_, rfl, rfl⟩
          rw [c5, if_pos rfl, sLacks_eq (by rw [vQ_2]; omega), vQ_1]
        · refine a_iload_n hX rfl rfl dX10_lacks_27 (pc' := 28) rfl ?_
          refine a_aload_n hX rfl rfl dX10_lacks_28 (pc' := 29) rfl ?_
          refine a_iconst hX dX10_lacks_29 (pc' := 30) rfl ?_
          refine a_iload_n hX rfl rfl dX10_lacks_30 (pc' := 31) rfl ?_
          refine a_iload_n hX rfl rfl dX10_lacks_31 (pc' := 32) rfl ?_
          refine a_cV3i hX cv_X10_145 (q_canServe (by omega) (by omega) (by omega) hB hP hS hd) rfl (by decide) ⟨by decide, by decide⟩ (Nat.le_of_ble_eq_true rfl) dX10_lacks_32 (pc' := 35) rfl ?_
          refine a_ifb_eq hX dX10_lacks_35 (pc' := 38) rfl (tgt := 51) (by decide) (fun c35 => ?_) (fun c35 => ?_)
          · refine a_iconst hX dX10_lacks_51 (pc' := 52) rfl ?_
            refine a_isub hX dX10_lacks_52 (pc' := 53) rfl ?_
            refine a_istore2 hX rfl (by decide) rfl dX10_lacks_53 (pc' := 54) rfl ?_
            refine a_iinc3 hX (by decide) rfl dX10_lacks_54 (pc' := 57) rfl ?_
            refine a_goto hX dX10_lacks_57 (tgt := 19) (by decide) ?_
            have H := ih (i + 1) (by omega) (by omega)
            rw [aSum_s hi.1] at H
            have hh2 := hh (by omega)
            first
              | (rw [if_pos c35, show max 0 (sOwed (vQ Z) (vR Z 0) p - (aSum (fun c => if sServ (vQ Z) (vR Z 0) c (vR Z 0 c) p = true then sHas (vQ Z) (vR Z 0) c else 0) i.toNat + sHas (vQ Z) (vR Z 0) i)) = max 0 (sOwed (vQ Z) (vR Z 0) p - aSum (fun c => if sServ (vQ Z) (vR Z 0) c (vR Z 0 c) p = true then sHas (vQ Z) (vR Z 0) c else 0) i.toNat) - min (max 0 (sOwed (vQ Z) (vR Z 0) p - aSum (fun c => if sServ (vQ Z) (vR Z 0) c (vR Z 0 c) p = true then sHas (vQ Z) (vR Z 0) c else 0) i.toNat)) (sHas (vQ Z) (vR Z 0) i) by omega] at H
                 exact H)
              | (rw [if_neg (by rw [c35]; decide), Int.add_zero] at H
                 rw [Int.sub_zero]
                 exact H)
          · refine a_iload_n hX rfl rfl dX10_lacks_38 (pc' := 39) rfl ?_
            refine a_aload_n hX rfl rfl dX10_lacks_39 (pc' := 40) rfl ?_
            refine a_iconst hX dX10_lacks_40 (pc' := 41) rfl ?_
            refine a_iload_n hX rfl rfl dX10_lacks_41 (pc' := 42) rfl ?_
            refine a_cV2i hX cv_X10_128 (q_holds (by omega) (by omega) hB hP hS hd) rfl (by decide) ⟨by decide, by decide⟩ (Nat.le_of_ble_eq_true rfl) dX10_lacks_42 (pc' := 45) rfl ?_
            have hh2 := hh (by omega)
            refine a_cS2i hX cs_X10_161 (q_lesser (by omega) (by omega)) ⟨by decide, by decide⟩ (Nat.le_of_ble_eq_true rfl) dX10_lacks_45 (pc' := 48) rfl ?_
            refine a_goto hX dX10_lacks_48 (tgt := 52) (by decide) ?_
            refine a_isub hX dX10_lacks_52 (pc' := 53) rfl ?_
            refine a_istore2 hX rfl (by decide) rfl dX10_lacks_53 (pc' := 54) rfl ?_
            refine a_iinc3 hX (by decide) rfl dX10_lacks_54 (pc' := 57) rfl ?_
            refine a_goto hX dX10_lacks_57 (tgt := 19) (by decide) ?_
            have H := ih (i + 1) (by omega) (by omega)
            rw [aSum_s hi.1] at H
            have hh2 := hh (by omega)
            first
              | (rw [if_pos c35, show max 0 (sOwed (vQ Z) (vR Z 0) p - (aSum (fun c => if sServ (vQ Z) (vR Z 0) c (vR Z 0 c) p = true then sHas (vQ Z) (vR Z 0) c else 0) i.toNat + sHas (vQ Z) (vR Z 0) i)) = max 0 (sOwed (vQ Z) (vR Z 0) p - aSum (fun c => if sServ (vQ Z) (vR Z 0) c (vR Z 0 c) p = true then sHas (vQ Z) (vR Z 0) c else 0) i.toNat) - min (max 0 (sOwed (vQ Z) (vR Z 0) p - aSum (fun c => if sServ (vQ Z) (vR Z 0) c (vR Z 0 c) p = true then sHas (vQ Z) (vR Z 0) c else 0) i.toNat)) (sHas (vQ Z) (vR Z 0) i) by omega] at H
                 exact H)
              | (rw [if_neg (by rw [c35]; decide), Int.add_zero] at H
                 rw [Int.sub_zero]
                 exact H)
    have H := L19 5 0 (by omega) (by omega)
    have ho := sOwed_rng hP hS (p := p) (by omega)
    have e : max 0 (sOwed (vQ Z) (vR Z 0) p - aSum (fun c => if sServ (vQ Z) (vR Z 0) c (vR Z 0 c) p = true then sHas (vQ Z) (vR Z 0) c else 0) (0 : Int).toNat) = sOwed (vQ Z) (vR Z 0) p := by
      show max 0 (sOwed (vQ Z) (vR Z 0) p - 0) = _
      omega
    rw [e] at H
    exact H
  · refine a_iconst hX dX10_lacks_8 (pc' := 9) rfl ?_
    refine a_iret hX dX10_lacks_9 (hE _ _ _ ?_)
    refine ⟨aLf ?_, rfl, rfl⟩
    rw [c5]; rfl

/-! THE REFERENCE -/
theorem fQ {Z : aZ} (h : okP (vQ Z)) : (0 ≤ Z 62 0 ∧ Z 62 0 ≤ 4) ∧ (0 ≤ Z 62 1 ∧ Z 62 1 ≤ 4) ∧ (0 ≤ Z 62 2 ∧ Z 62 2 ≤ 5) := by
  have h1 := h.1
  have h2 := h.2.1
  have h3 := h.2.2.1
  rw [vQ_0] at h1
  rw [vQ_1] at h2
  rw [vQ_2] at h3
  exact ⟨h1, h2, h3⟩
theorem fQw {Z : aZ} (h : okP (vQ Z)) (j : Int) : 0 ≤ Z 63 j ∧ Z 63 j ≤ 2 := h.2.2.2.1 j
theorem fQk {Z : aZ} (h : okP (vQ Z)) (j : Int) : 0 ≤ Z 64 j ∧ Z 64 j ≤ 3 := h.2.2.2.2.1 j
theorem fQy {Z : aZ} (h : okP (vQ Z)) (j : Int) : 0 ≤ Z 65 j ∧ Z 65 j ≤ 5 := h.2.2.2.2.2.1 j
theorem fQd {Z : aZ} (h : okP (vQ Z)) (j : Int) : 0 ≤ Z 66 j ∧ Z 66 j ≤ 9 := h.2.2.2.2.2.2.1 j
theorem fQpk {Z : aZ} (h : okP (vQ Z)) (j : Int) : 0 ≤ Z 68 j ∧ Z 68 j ≤ 3 := h.2.2.2.2.2.2.2.1 j
theorem fQp {Z : aZ} (h : okP (vQ Z)) (j : Int) : 0 ≤ Z 67 j ∧ Z 67 j ≤ 9 := h.2.2.2.2.2.2.2.2 j
theorem fR {Z : aZ} {l : Int} (h : okS (vQ Z) (vR Z l)) : (0 ≤ Z 69 (16 * l + 13) ∧ Z 69 (16 * l + 13) < 32) ∧ (0 ≤ Z 69 (16 * l + 14) ∧ Z 69 (16 * l + 14) ≤ 45 * Z 69 (16 * l + 15)) ∧ 0 ≤ Z 69 (16 * l + 15) := by
  obtain ⟨-, -, -, h4, h5, h6⟩ := h
  rw [vR_hi (by omega)] at h4 h6
  rw [vR_hi (by omega), vR_hi (by omega)] at h5
  exact ⟨h4, h5, h6⟩
theorem fRy {Z : aZ} {l : Int} (h : okS (vQ Z) (vR Z l)) {c : Int} (hc : 0 ≤ c ∧ c < 4 ∧ c < Z 62 1) : 0 ≤ Z 69 (16 * l + c) ∧ Z 69 (16 * l + c) ≤ 5 := by
  have := h.1 c (by omega)
  rw [vR_yd hc] at this
  exact this
theorem fRf {Z : aZ} {l : Int} (h : okS (vQ Z) (vR Z l)) {c : Int} (hc : 0 ≤ c ∧ c < 4 ∧ c < Z 62 1) : 0 ≤ Z 69 (16 * l + 4 + c) ∧ Z 69 (16 * l + 4 + c) ≤ 9 := by
  have := h.2.1 c (by omega)
  rw [vR_fl hc, show 16 * l + (4 + c) = 16 * l + 4 + c by omega] at this
  exact this
theorem fRi {Z : aZ} {l : Int} (h : okS (vQ Z) (vR Z l)) {p : Int} (hp : 0 ≤ p ∧ p < 5) : 0 ≤ Z 69 (16 * l + 8 + p) ∧ Z 69 (16 * l + 8 + p) ≤ Z 67 p := by
  have := h.2.2.1 p hp
  rw [vR_hi (by omega), show 16 * l + (8 + p) = 16 * l + 8 + p by omega] at this
  exact this
theorem vR_fl' {Z : aZ} {l c : Int} (h : 0 ≤ c ∧ c < 4 ∧ c < Z 62 1) : vR Z l (4 + c) = Z 69 (16 * l + 4 + c) := by rw [vR_fl h, show 16 * l + (4 + c) = 16 * l + 4 + c by omega]
theorem vR_fi' {Z : aZ} {l p : Int} (h : 0 ≤ p ∧ p < 5) : vR Z l (8 + p) = Z 69 (16 * l + 8 + p) := by rw [vR_hi (by omega), show 16 * l + (8 + p) = 16 * l + 8 + p by omega]
theorem qHasC_of {Z : aZ} {c : Int} (h : 0 ≤ c ∧ c < Z 62 1) : pHasC (vQ Z) c = true := by unfold pHasC; rw [vQ_1]; exact decide_eq_true h
theorem qHasP_of {Z : aZ} {p : Int} (h : 0 ≤ p ∧ p < Z 62 2) : pHasP (vQ Z) p = true := by unfold pHasP; rw [vQ_2]; exact decide_eq_true h
theorem qHasC_no {Z : aZ} {c : Int} (h : pHasC (vQ Z) c = true) : 0 ≤ c ∧ c < Z 62 1 := by unfold pHasC at h; rw [vQ_1] at h; exact of_decide_eq_true h
theorem qHasP_no {Z : aZ} {p : Int} (h : pHasP (vQ Z) p = true) : 0 ≤ p ∧ p < Z 62 2 := by unfold pHasP at h; rw [vQ_2] at h; exact of_decide_eq_true h
theorem pCarry_s {P : aP} {k y d : Int} (n : Nat) : pCarry P k y d (n + 1) = (pCarry P k y d n + pDrift P k (d + n)) % 6 := rfl
theorem qPow_s {a n : Int} (h : 0 ≤ n) : a ^ (n + 1).toNat = a ^ n.toNat * a := by rw [show (n + 1).toNat = n.toNat + 1 by omega, Int.pow_succ]

set_option maxHeartbeats 4000000 in
set_option maxRecDepth 100000 in
theorem q_in {G : aG} {Z : aZ} {Y : aY} {x a b : Int} (hx : -9223372036854775808 ≤ x ∧ x < 9223372036854775808) (ha : -9223372036854775808 ≤ a ∧ a < 9223372036854775808) (hb : -9223372036854775808 ≤ b ∧ b < 9223372036854775808) : aSi G yX10_in cX10_in 6 (some .boolean) 0 0 [.long (aJ x), .long (aJ a), .long (aJ b)] Z Y (aTr (decide (a ≤ x ∧ x ≤ b))) := by
  refine aS.of (own := RX10) (by decide +kernel) rfl 0 (Nat.le_of_ble_eq_true rfl) (fun X hX hE => ?_)
  show AW X G 0 [some (.long (aJ x)), none, some (.long (aJ a)), none, some (.long (aJ b)), none] [] Z Y
  refine a_lload_n hX rfl rfl dX10_in_0 (pc' := 1) rfl ?_
  refine a_lload_n hX rfl rfl dX10_in_1 (pc' := 2) rfl ?_
  refine a_lcmp hX (by omega) (by omega) dX10_in_2 (pc' := 3) rfl ?_
  refine a_if_lt hX lcR dX10_in_3 (pc' := 6) rfl (tgt := 17) (by decide) (fun c3 => ?_) (fun c3 => ?_)
  · refine a_iconst hX dX10_in_17 (pc' := 18) rfl ?_
    refine a_zret hX (by omega) dX10_in_18 (hE _ _ _ ?_)
    refine ⟨aLf ?_, rfl, rfl⟩
    have q1 := lcN (x := x) (y := a)
    have q2 := lcP (x := x) (y := b)
    first | exact (aTr_pos (by omega)).symm | exact (aTr_neg (by omega)).symm
  · refine a_lload_n hX rfl rfl dX10_in_6 (pc' := 7) rfl ?_
    refine a_lload hX rfl dX10_in_7 (pc' := 9) rfl ?_
    refine a_lcmp hX (by omega) (by omega) dX10_in_9 (pc' := 10) rfl ?_
    refine a_if_gt hX lcR dX10_in_10 (pc' := 13) rfl (tgt := 17) (by decide) (fun c10 => ?_) (fun c10 => ?_)
    · refine a_iconst hX dX10_in_17 (pc' := 18) rfl ?_
      refine a_zret hX (by omega) dX10_in_18 (hE _ _ _ ?_)
      refine ⟨aLf ?_, rfl, rfl⟩
      have q1 := lcN (x := x) (y := a)
      have q2 := lcP (x := x) (y := b)
      first | exact (aTr_pos (by omega)).symm | exact (aTr_neg (by omega)).symm
    · refine a_iconst hX dX10_in_13 (pc' := 14) rfl ?_
      refine a_goto hX dX10_in_14 (tgt := 18) (by decide) ?_
      refine a_zret hX (by omega) dX10_in_18 (hE _ _ _ ?_)
      refine ⟨aLf ?_, rfl, rfl⟩
      have q1 := lcN (x := x) (y := a)
      have q2 := lcP (x := x) (y := b)
      first | exact (aTr_pos (by omega)).symm | exact (aTr_neg (by omega)).symm

set_option maxHeartbeats 4000000 in
set_option maxRecDepth 100000 in
theorem q_has {G : aG} {Z : aZ} {Y : aY} {x k : Int} (hx : 0 ≤ x ∧ x < 2147483648) (hk : 0 ≤ k ∧ k < 32) : aSi G yX10_has cX10_has 2 (some .boolean) 0 0 [.int (aI x), .int (aI k)] Z Y (aTr (aBit x k)) := by
  refine aS.of (own := RX10) (by decide +kernel) rfl 0 (Nat.le_of_ble_eq_true rfl) (fun X hX hE => ?_)
  show AW X G 0 [some (.int (aI x)), some (.int (aI k))] [] Z Y
  refine a_iload_n hX rfl rfl dX10_has_0 (pc' := 1) rfl ?_
  refine a_iload_n hX rfl rfl dX10_has_1 (pc' := 2) rfl ?_
  refine a_ishr hX (by omega) (by omega) dX10_has_2 (pc' := 3) rfl ?_
  have hq := Int.ediv_nonneg (a := x) (b := 2 ^ k.toNat) (by omega) (Int.le_of_lt (aPow_pos _))
  refine a_iconst hX dX10_has_3 (pc' := 4) rfl ?_
  refine a_iand hX (by omega) (by omega) dX10_has_4 (pc' := 5) rfl ?_
  rw [aAnd_1 _ hq]
  refine a_iconst hX dX10_has_5 (pc' := 6) rfl ?_
  refine a_icmp_ne hX (by omega) (by omega) dX10_has_6 (pc' := 9) rfl (tgt := 13) (by decide) (fun c6 => ?_) (fun c6 => ?_)
  · refine a_iconst hX dX10_has_13 (pc' := 14) rfl ?_
    refine a_zret hX (by omega) dX10_has_14 (hE _ _ _ ?_)
    refine ⟨aLf ?_, rfl, rfl⟩
    unfold aBit
    first | exact (aTr_pos (by omega)).symm | exact (aTr_neg (by omega)).symm
  · refine a_iconst hX dX10_has_9 (pc' := 10) rfl ?_
    refine a_goto hX dX10_has_10 (tgt := 14) (by decide) ?_
    refine a_zret hX (by omega) dX10_has_14 (hE _ _ _ ?_)
    refine ⟨aLf ?_, rfl, rfl⟩
    unfold aBit
    first | exact (aTr_pos (by omega)).symm | exact (aTr_neg (by omega)).symm

set_option maxHeartbeats 4000000 in
set_option maxRecDepth 100000 in
theorem q_lesser {G : aG} {Z : aZ} {Y : aY} {a b : Int} (ha : -2147483648 ≤ a ∧ a < 2147483648) (hb : -2147483648 ≤ b ∧ b < 2147483648) : aSi G yX10_lesser cX10_lesser 2 (some .int) 0 0 [.int (aI a), .int (aI b)] Z Y (min a b) := by
  refine aS.of (own := RX10) (by decide +kernel) rfl 0 (Nat.le_of_ble_eq_true rfl) (fun X hX hE => ?_)
  show AW X G 0 [some (.int (aI a)), some (.int (aI b))] [] Z Y
  refine a_iload_n hX rfl rfl dX10_lesser_0 (pc' := 1) rfl ?_
  refine a_iload_n hX rfl rfl dX10_lesser_1 (pc' := 2) rfl ?_
  refine a_icmp_ge hX (by omega) (by omega) dX10_lesser_2 (pc' := 5) rfl (tgt := 9) (by decide) (fun c2 => ?_) (fun c2 => ?_)
  · refine a_iload_n hX rfl rfl dX10_lesser_9 (pc' := 10) rfl ?_
    refine a_iret hX dX10_lesser_10 (hE _ _ _ ?_)
    refine ⟨aLf ?_, rfl, rfl⟩
    omega
  · refine a_iload_n hX rfl rfl dX10_lesser_5 (pc' := 6) rfl ?_
    refine a_goto hX dX10_lesser_6 (tgt := 10) (by decide) ?_
    refine a_iret hX dX10_lesser_10 (hE _ _ _ ?_)
    refine ⟨aLf ?_, rfl, rfl⟩
    omega

set_option maxHeartbeats 4000000 in
set_option maxRecDepth 100000 in
theorem q_ones {G : aG} {Z : aZ} {Y : aY} {x : Int} (hx : 0 ≤ x ∧ x < 2147483648) : aSi G yX10_ones cX10_ones 3 (some .int) 0 0 [.int (aI x)] Z Y (aPop x) := by
  refine aS.of (own := RX10) (by decide +kernel) rfl 2 (Nat.le_of_ble_eq_true rfl) (fun X hX hE => ?_)
  show AW X G 0 [some (.int (aI x)), none, none] [] Z Y
  refine a_iconst hX dX10_ones_0 (pc' := 1) rfl ?_
  refine a_istore1 hX rfl (by decide) rfl dX10_ones_1 (pc' := 2) rfl ?_
  refine a_iconst hX dX10_ones_2 (pc' := 3) rfl ?_
  refine a_istore2 hX rfl (by decide) rfl dX10_ones_3 (pc' := 4) rfl ?_
  have L4 : ∀ (n : Nat) (i : Int), (0 ≤ i ∧ i ≤ 6) → (6 - i).toNat < n → AW X G 4 [some (.int (aI x)), some (.int (aI (aSum (fun k => x / 2 ^ k.toNat % 2) i.toNat))), some (.int (aI i))] [] Z Y := by
    intro n
    induction n with
    | zero =>
      intro i hi hn
      omega
    | succ n ih =>
      intro i hi hn
      refine a_iload_n hX rfl rfl dX10_ones_4 (pc' := 5) rfl ?_
      refine a_bipush hX rfl dX10_ones_5 (pc' := 7) rfl ?_
      refine a_icmp_ge hX (by omega) (by omega) dX10_ones_7 (pc' := 10) rfl (tgt := 24) (by decide) (fun c7 => ?_) (fun c7 => ?_)
      · refine a_iload_n hX rfl rfl dX10_ones_24 (pc' := 25) rfl ?_
        refine a_iret hX dX10_ones_25 (hE _ _ _ ?_)
        obtain rfl : i = 6 := by omega
        exact ⟨rfl, rfl, rfl⟩
      · refine a_iload_n hX rfl rfl dX10_ones_10 (pc' := 11) rfl ?_
        refine a_iload_n hX rfl rfl dX10_ones_11 (pc' := 12) rfl ?_
        refine a_iload_n hX rfl rfl dX10_ones_12 (pc' := 13) rfl ?_
        refine a_ishr hX (by omega) (by omega) dX10_ones_13 (pc' := 14) rfl ?_
        have hq := Int.ediv_nonneg (a := x) (b := 2 ^ i.toNat) (by omega) (Int.le_of_lt (aPow_pos _))
        refine a_iconst hX dX10_ones_14 (pc' := 15) rfl ?_
        refine a_iand hX (by omega) (by omega) dX10_ones_15 (pc' := 16) rfl ?_
        rw [aAnd_1 _ hq]
        refine a_iadd hX dX10_ones_16 (pc' := 17) rfl ?_
        refine a_istore1 hX rfl (by decide) rfl dX10_ones_17 (pc' := 18) rfl ?_
        refine a_iinc2 hX (by decide) rfl dX10_ones_18 (pc' := 21) rfl ?_
        refine a_goto hX dX10_ones_21 (tgt := 4) (by decide) ?_
        have H := ih (i + 1) (by omega) (by omega)
        rw [aSum_s (by omega)] at H
        exact H
  exact L4 7 0 (by omega) (by omega)

set_option maxHeartbeats 4000000 in
set_option maxRecDepth 100000 in
theorem q_power {G : aG} {Z : aZ} {Y : aY} {a n : Int} (hn : 0 ≤ n ∧ n ≤ 100) : aSi G yX10_power cX10_power 4 (some .int) 0 0 [.int (aI a), .int (aI n)] Z Y (a ^ n.toNat) := by
  refine aS.of (own := RX10) (by decide +kernel) rfl 2 (Nat.le_of_ble_eq_true rfl) (fun X hX hE => ?_)
  show AW X G 0 [some (.int (aI a)), some (.int (aI n)), none, none] [] Z Y
  refine a_iconst hX dX10_power_0 (pc' := 1) rfl ?_
  refine a_istore2 hX rfl (by decide) rfl dX10_power_1 (pc' := 2) rfl ?_
  refine a_iconst hX dX10_power_2 (pc' := 3) rfl ?_
  refine a_istore3 hX rfl (by decide) rfl dX10_power_3 (pc' := 4) rfl ?_
  have L4 : ∀ (m : Nat) (i : Int), (0 ≤ i ∧ i ≤ n) → (n - i).toNat < m → AW X G 4 [some (.int (aI a)), some (.int (aI n)), some (.int (aI (a ^ i.toNat))), some (.int (aI i))] [] Z Y := by
    intro m
    induction m with
    | zero =>
      intro i hi hm
      omega
    | succ m ih =>
      intro i hi hm
      refine a_iload_n hX rfl rfl dX10_power_4 (pc' := 5) rfl ?_
      refine a_iload_n hX rfl rfl dX10_power_5 (pc' := 6) rfl ?_
      refine a_icmp_ge hX (by omega) (by omega) dX10_power_6 (pc' := 9) rfl (tgt := 19) (by decide) (fun c6 => ?_) (fun c6 => ?_)
      · refine a_iload_n hX rfl rfl dX10_power_19 (pc' := 20) rfl ?_
        refine a_iret hX dX10_power_20 (hE _ _ _ ?_)
        obtain rfl : i = n := by omega
        exact ⟨rfl, rfl, rfl⟩
      · refine a_iload_n hX rfl rfl dX10_power_9 (pc' := 10) rfl ?_
        refine a_iload_n hX rfl rfl dX10_power_10 (pc' := 11) rfl ?_
        refine a_imul hX dX10_power_11 (pc' := 12) rfl ?_
        refine a_istore2 hX rfl (by decide) rfl dX10_power_12 (pc' := 13) rfl ?_
        refine a_iinc3 hX (by decide) rfl dX10_power_13 (pc' := 16) rfl ?_
        refine a_goto hX dX10_power_16 (tgt := 4) (by decide) ?_
        have H := ih (i + 1) (by omega) (by omega)
        rw [qPow_s (by omega)] at H
        exact H
  have H := L4 (n.toNat + 1) 0 (by omega) (by omega)
  rw [show (0 : Int).toNat = 0 from rfl, Int.pow_zero] at H
  exact H

set_option maxHeartbeats 4000000 in
set_option maxRecDepth 100000 in
theorem q_factorial {G : aG} {Z : aZ} {Y : aY} {n : Int} (hn : 0 ≤ n ∧ n ≤ 10) : aSi G yX10_factorial cX10_factorial 3 (some .int) 0 0 [.int (aI n)] Z Y (aFac n.toNat) := by
  refine aS.of (own := RX10) (by decide +kernel) rfl 2 (Nat.le_of_ble_eq_true rfl) (fun X hX hE => ?_)
  show AW X G 0 [some (.int (aI n)), none, none] [] Z Y
  refine a_iconst hX dX10_factorial_0 (pc' := 1) rfl ?_
  refine a_istore1 hX rfl (by decide) rfl dX10_factorial_1 (pc' := 2) rfl ?_
  refine a_iconst hX dX10_factorial_2 (pc' := 3) rfl ?_
  refine a_istore2 hX rfl (by decide) rfl dX10_factorial_3 (pc' := 4) rfl ?_
  have L4 : ∀ (m : Nat) (i : Int), (1 ≤ i ∧ (i ≤ n ∨ i = 1)) → (n + 1 - i).toNat < m → AW X G 4 [some (.int (aI n)), some (.int (aI (aFac i.toNat))), some (.int (aI (i + 1)))] [] Z Y := by
    intro m
    induction m with
    | zero =>
      intro i hi hm
      omega
    | succ m ih =>
      intro i hi hm
      refine a_iload_n hX rfl rfl dX10_factorial_4 (pc' := 5) rfl ?_
      refine a_iload_n hX rfl rfl dX10_factorial_5 (pc' := 6) rfl ?_
      refine a_icmp_gt hX (by omega) (by omega) dX10_factorial_6 (pc' := 9) rfl (tgt := 19) (by decide) (fun c6 => ?_) (fun c6 => ?_)
      · refine a_iload_n hX rfl rfl dX10_factorial_19 (pc' := 20) rfl ?_
        refine a_iret hX dX10_factorial_20 (hE _ _ _ ?_)
        refine ⟨aLf ?_, rfl, rfl⟩
        by_cases e : i = n
        · rw [e]
        · have e1 : i = 1 := by omega
          have e0 : n = 0 := by omega
          subst e1 e0
          rfl
      · refine a_iload_n hX rfl rfl dX10_factorial_9 (pc' := 10) rfl ?_
        refine a_iload_n hX rfl rfl dX10_factorial_10 (pc' := 11) rfl ?_
        refine a_imul hX dX10_factorial_11 (pc' := 12) rfl ?_
        refine a_istore1 hX rfl (by decide) rfl dX10_factorial_12 (pc' := 13) rfl ?_
        refine a_iinc2 hX (by decide) rfl dX10_factorial_13 (pc' := 16) rfl ?_
        refine a_goto hX dX10_factorial_16 (tgt := 4) (by decide) ?_
        have H := ih (i + 1) (by omega) (by omega)
        rw [aFac_s (by omega)] at H
        exact H
  exact L4 12 1 (by omega) (by omega)

set_option maxHeartbeats 4000000 in
set_option maxRecDepth 100000 in
theorem q_common {G : aG} {Z : aZ} {Y : aY} {a b : Int} (ha : 0 ≤ a ∧ a ≤ 100000000) (hb0 : 0 ≤ b ∧ b ≤ 100000000) : aSi G yX10_common cX10_common 5 (some .int) 0 0 [.int (aI a), .int (aI b)] Z Y (Int.gcd a b : Int) := by
  refine aS.of (own := RX10) (by decide +kernel) rfl 3 (Nat.le_of_ble_eq_true rfl) (fun X hX hE => ?_)
  show AW X G 0 [some (.int (aI a)), some (.int (aI b)), none, none, none] [] Z Y
  refine a_iload_n hX rfl rfl dX10_common_0 (pc' := 1) rfl ?_
  refine a_if_ge hX (by omega) dX10_common_1 (pc' := 4) rfl (tgt := 9) (by decide) (fun c1 => ?_) (fun c1 => ?_)
  · refine a_iload_n hX rfl rfl dX10_common_9 (pc' := 10) rfl ?_
    refine a_istore2 hX rfl (by decide) rfl dX10_common_10 (pc' := 11) rfl ?_
    refine a_iload_n hX rfl rfl dX10_common_11 (pc' := 12) rfl ?_
    refine a_istore3 hX rfl (by decide) rfl dX10_common_12 (pc' := 13) rfl ?_
    have L13 : ∀ (n : Nat) (x y : Int) (u : Option Value), 0 ≤ x ∧ x ≤ 100000000 → 0 ≤ y ∧ y ≤ 100000000 → (Int.gcd x y : Int) = (Int.gcd a b : Int) → y.toNat < n → AW X G 13 [some (.int (aI a)), some (.int (aI b)), some (.int (aI x)), some (.int (aI y)), none] [] Z Y := by
      intro n
      induction n with
      | zero =>
        intro x y u hx hy hg hn
        omega
      | succ n ih =>
        intro x y u hx hy hg hn
        refine a_iload_n hX rfl rfl dX10_common_13 (pc' := 14) rfl ?_
        refine a_if_eq hX (by omega) dX10_common_14 (pc' := 17) rfl (tgt := 30) (by decide) (fun c14 => ?_) (fun c14 => ?_)
        · refine a_iload_n hX rfl rfl dX10_common_30 (pc' := 31) rfl ?_
          refine a_iret hX dX10_common_31 (hE _ _ _ ?_)
          have e : y = 0 := by omega
          subst e
          refine ⟨aLf ?_, rfl, rfl⟩
          rw [← hg, Int.gcd_zero_right]
          omega
        · refine a_iload_n hX rfl rfl dX10_common_17 (pc' := 18) rfl ?_
          refine a_iload_n hX rfl rfl dX10_common_18 (pc' := 19) rfl ?_
          refine a_irem hX (by omega) (by omega) dX10_common_19 (pc' := 20) rfl ?_
          refine a_istore4 hX (by decide) rfl dX10_common_20 (pc' := 22) rfl ?_
          refine a_iload_n hX rfl rfl dX10_common_22 (pc' := 23) rfl ?_
          refine a_istore2 hX rfl (by decide) rfl dX10_common_23 (pc' := 24) rfl ?_
          refine a_iload hX rfl dX10_common_24 (pc' := 26) rfl ?_
          refine a_istore3 hX rfl (by decide) rfl dX10_common_26 (pc' := 27) rfl ?_
          refine a_goto hX dX10_common_27 (tgt := 13) (by decide) ?_
          have q1 := Int.emod_nonneg x (show y ≠ 0 by omega)
          have q2 := Int.emod_lt_of_pos x (show 0 < y by omega)
          refine AW.le ?_ (ih y (x % y) none (by omega) (by omega) (by rw [← aEu (by omega) (by omega)]; exact hg) (by omega))
          exact ⟨rfl, rfl, rfl, rfl, trivial⟩
    exact L13 (b.toNat + 1) a b none ha hb0 rfl (by omega)
  · omega

set_option maxHeartbeats 4000000 in
set_option maxRecDepth 100000 in
theorem q_thousand {G : aG} {Z : aZ} {Y : aY} {n : Int} (hn : 0 ≤ n ∧ n ≤ 4) : aSJ G yX10_thousandTo cX10_thousandTo 4 (some .long) 0 0 [.int (aI n)] Z Y (fun x Z' Y' => x = aJ (1000 ^ n.toNat) ∧ Z' = Z ∧ Y' = Y) := by
  refine aS.of (own := RX10) (by decide +kernel) rfl 3 (Nat.le_of_ble_eq_true rfl) (fun X hX hE => ?_)
  show AW X G 0 [some (.int (aI n)), none, none, none] [] Z Y
  refine a_lconst hX (v := 1) rfl dX10_thousandTo_0 (pc' := 1) rfl ?_
  refine a_lstore1 hX rfl (by decide) rfl dX10_thousandTo_1 (pc' := 2) rfl ?_
  refine a_iconst hX dX10_thousandTo_2 (pc' := 3) rfl ?_
  refine a_istore3 hX rfl (by decide) rfl dX10_thousandTo_3 (pc' := 4) rfl ?_
  have L4 : ∀ (m : Nat) (i : Int), (0 ≤ i ∧ i ≤ n) → (n - i).toNat < m → AW X G 4 [some (.int (aI n)), some (.long (aJ (1000 ^ i.toNat))), none, some (.int (aI i))] [] Z Y := by
    intro m
    induction m with
    | zero =>
      intro i hi hm
      omega
    | succ m ih =>
      intro i hi hm
      refine a_iload_n hX rfl rfl dX10_thousandTo_4 (pc' := 5) rfl ?_
      refine a_iload_n hX rfl rfl dX10_thousandTo_5 (pc' := 6) rfl ?_
      refine a_icmp_ge hX (by omega) (by omega) dX10_thousandTo_6 (pc' := 9) rfl (tgt := 21) (by decide) (fun c6 => ?_) (fun c6 => ?_)
      · refine a_lload_n hX rfl rfl dX10_thousandTo_21 (pc' := 22) rfl ?_
        refine a_lret hX dX10_thousandTo_22 (hE _ _ _ ?_)
        obtain rfl : i = n := by omega
        exact ⟨_, rfl, rfl, rfl, rfl⟩
      · refine a_lload_n hX rfl rfl dX10_thousandTo_9 (pc' := 10) rfl ?_
        refine a_ldc2J hX (z := 1000) w_1085 (by decide) dX10_thousandTo_10 (pc' := 13) rfl ?_
        refine a_lmulJ hX dX10_thousandTo_13 (pc' := 14) rfl ?_
        refine a_lstore1 hX rfl (by decide) rfl dX10_thousandTo_14 (pc' := 15) rfl ?_
        refine a_iinc3 hX (by decide) rfl dX10_thousandTo_15 (pc' := 18) rfl ?_
        refine a_goto hX dX10_thousandTo_18 (tgt := 4) (by decide) ?_
        have H := ih (i + 1) (by omega) (by omega)
        rw [qPow_s (by omega)] at H
        exact H
  exact L4 5 0 (by omega) (by omega)

set_option maxHeartbeats 4000000 in
set_option maxRecDepth 100000 in
theorem q_isCloud {G : aG} {Z : aZ} {Y : aY} {c : Int} (hc : -2147483648 ≤ c ∧ c < 2147483648) (hB : aB Z) (hP : okP (vQ Z)) : aSi G yX10_isCloud cX10_isCloud 2 (some .boolean) 1 25 [.ref (G.1 62), .int (aI c)] Z Y (aTr (pHasC (vQ Z) c)) := by
  refine aS.of (own := RX10) (by decide +kernel) rfl 0 (Nat.le_of_ble_eq_true rfl) (fun X hX hE => ?_)
  show AW X G 0 [some (.ref (G.1 62)), some (.int (aI c))] [] Z Y
  have hfQ := fQ hP
  refine a_iload_n hX rfl rfl dX10_isCloud_0 (pc' := 1) rfl ?_
  refine a_i2l hX (by omega) dX10_isCloud_1 (pc' := 2) rfl ?_
  refine a_lconst hX (v := 0) rfl dX10_isCloud_2 (pc' := 3) rfl ?_
  refine a_aload_n hX rfl rfl dX10_isCloud_3 (pc' := 4) rfl ?_
  refine a_getfI hX (ji := 1) rfl hB fl_X10_105 rfl (by decide) rfl dX10_isCloud_4 (pc' := 7) rfl (fun hb => ?_)
  refine a_iconst hX dX10_isCloud_7 (pc' := 8) rfl ?_
  refine a_isub hX dX10_isCloud_8 (pc' := 9) rfl ?_
  refine a_i2l hX (by omega) dX10_isCloud_9 (pc' := 10) rfl ?_
  refine a_cS3i hX cs_X10_68 (q_in (by omega) (by omega) (by omega)) ⟨by decide, by decide⟩ (Nat.le_of_ble_eq_true rfl) dX10_isCloud_10 (pc' := 13) rfl ?_
  refine a_zret hX (by have := aTr_rng (decide (0 ≤ c ∧ c ≤ Z 62 1 - 1)); omega) dX10_isCloud_13 (hE _ _ _ ?_)
  refine ⟨aLf ?_, rfl, rfl⟩
  unfold pHasC
  rw [vQ_1]
  congr 1
  exact decide_eq_decide.mpr (by omega)

set_option maxHeartbeats 4000000 in
set_option maxRecDepth 100000 in
theorem q_isPaper {G : aG} {Z : aZ} {Y : aY} {c : Int} (hc : -2147483648 ≤ c ∧ c < 2147483648) (hB : aB Z) (hP : okP (vQ Z)) : aSi G yX10_isPaper cX10_isPaper 2 (some .boolean) 1 25 [.ref (G.1 62), .int (aI c)] Z Y (aTr (pHasP (vQ Z) c)) := by
  refine aS.of (own := RX10) (by decide +kernel) rfl 0 (Nat.le_of_ble_eq_true rfl) (fun X hX hE => ?_)
  show AW X G 0 [some (.ref (G.1 62)), some (.int (aI c))] [] Z Y
  have hfQ := fQ hP
  refine a_iload_n hX rfl rfl dX10_isPaper_0 (pc' := 1) rfl ?_
  refine a_i2l hX (by omega) dX10_isPaper_1 (pc' := 2) rfl ?_
  refine a_lconst hX (v := 0) rfl dX10_isPaper_2 (pc' := 3) rfl ?_
  refine a_aload_n hX rfl rfl dX10_isPaper_3 (pc' := 4) rfl ?_
  refine a_getfI hX (ji := 2) rfl hB fl_X10_108 rfl (by decide) rfl dX10_isPaper_4 (pc' := 7) rfl (fun hb => ?_)
  refine a_iconst hX dX10_isPaper_7 (pc' := 8) rfl ?_
  refine a_isub hX dX10_isPaper_8 (pc' := 9) rfl ?_
  refine a_i2l hX (by omega) dX10_isPaper_9 (pc' := 10) rfl ?_
  refine a_cS3i hX cs_X10_68 (q_in (by omega) (by omega) (by omega)) ⟨by decide, by decide⟩ (Nat.le_of_ble_eq_true rfl) dX10_isPaper_10 (pc' := 13) rfl ?_
  refine a_zret hX (by have := aTr_rng (decide (0 ≤ c ∧ c ≤ Z 62 2 - 1)); omega) dX10_isPaper_13 (hE _ _ _ ?_)
  refine ⟨aLf ?_, rfl, rfl⟩
  unfold pHasP
  rw [vQ_2]
  congr 1
  exact decide_eq_decide.mpr (by omega)

set_option maxHeartbeats 4000000 in
set_option maxRecDepth 100000 in
theorem q_windOf {G : aG} {Z : aZ} {Y : aY} {d : Int} (hd : 0 ≤ d ∧ d < 100000) (hB : aB Z) (hP : okP (vQ Z)) : aSi G yX10_windOf cX10_windOf 2 (some .int) 0 0 [.ref (G.1 62), .int (aI d)] Z Y (pWind (vQ Z) d) := by
  refine aS.of (own := RX10) (by decide +kernel) rfl 0 (Nat.le_of_ble_eq_true rfl) (fun X hX hE => ?_)
  show AW X G 0 [some (.ref (G.1 62)), some (.int (aI d))] [] Z Y
  have hfQ := fQ hP
  refine a_aload_n hX rfl rfl dX10_windOf_0 (pc' := 1) rfl ?_
  refine a_getfI hX (ji := 0) rfl hB fl_X10_102 rfl (by decide) rfl dX10_windOf_1 (pc' := 4) rfl (fun hb => ?_)
  refine a_if_ne hX (by omega) dX10_windOf_4 (pc' := 7) rfl (tgt := 11) (by decide) (fun c4 => ?_) (fun c4 => ?_)
  · refine a_aload_n hX rfl rfl dX10_windOf_11 (pc' := 12) rfl ?_
    refine a_getfR hX (r := 63) fl_X10_7 rfl (by decide) rfl dX10_windOf_12 (pc' := 15) rfl ?_
    refine a_iload_n hX rfl rfl dX10_windOf_15 (pc' := 16) rfl ?_
    refine a_aload_n hX rfl rfl dX10_windOf_16 (pc' := 17) rfl ?_
    refine a_getfI hX (ji := 0) rfl hB fl_X10_102 rfl (by decide) rfl dX10_windOf_17 (pc' := 20) rfl (fun hb => ?_)
    have h5 := Int.emod_nonneg d (show Z 62 0 ≠ 0 by omega)
    have h6 := Int.emod_lt_of_pos d (show 0 < Z 62 0 by omega)
    refine a_irem hX (by omega) (by omega) dX10_windOf_20 (pc' := 21) rfl ?_
    refine a_iald hX rfl (by decide) (by decide) (by omega) hB dX10_windOf_21 (pc' := 22) rfl (fun hb => ?_)
    refine a_iret hX dX10_windOf_22 (hE _ _ _ ?_)
    refine ⟨aLf ?_, rfl, rfl⟩
    unfold pWind
    rw [vQ_0]
    first | rw [if_pos (by omega)] | (rw [if_neg (by omega)]; rfl)
  · refine a_iconst hX dX10_windOf_7 (pc' := 8) rfl ?_
    refine a_goto hX dX10_windOf_8 (tgt := 22) (by decide) ?_
    refine a_iret hX dX10_windOf_22 (hE _ _ _ ?_)
    refine ⟨aLf ?_, rfl, rfl⟩
    unfold pWind
    rw [vQ_0]
    first | rw [if_pos (by omega)] | (rw [if_neg (by omega)]; rfl)

set_option maxHeartbeats 4000000 in
set_option maxRecDepth 100000 in
theorem q_blown {G : aG} {Z : aZ} {Y : aY} {y k w : Int} (hy : 0 ≤ y ∧ y ≤ 5) (hk : 0 ≤ k ∧ k ≤ 3) (hw : 0 ≤ w ∧ w ≤ 2) : aSi G yX10_blown cX10_blown 5 (some .int) 0 0 [.int (aI y), .int (aI k), .int (aI w)] Z Y ((y + pWay w * pPace k) % 6) := by
  refine aS.of (own := RX10) (by decide +kernel) rfl 2 (Nat.le_of_ble_eq_true rfl) (fun X hX hE => ?_)
  show AW X G 0 [some (.int (aI y)), some (.int (aI k)), some (.int (aI w)), none, none] [] Z Y
  refine a_iload_n hX rfl rfl dX10_blown_0 (pc' := 1) rfl ?_
  refine a_iconst hX dX10_blown_1 (pc' := 2) rfl ?_
  refine a_icmp_ne hX (by omega) (by omega) dX10_blown_2 (pc' := 5) rfl (tgt := 9) (by decide) (fun c2 => ?_) (fun c2 => ?_)
  · refine a_iload_n hX rfl rfl dX10_blown_9 (pc' := 10) rfl ?_
    refine a_iconst hX dX10_blown_10 (pc' := 11) rfl ?_
    refine a_icmp_ne hX (by omega) (by omega) dX10_blown_11 (pc' := 14) rfl (tgt := 18) (by decide) (fun c11 => ?_) (fun c11 => ?_)
    · refine a_iconst hX dX10_blown_18 (pc' := 19) rfl ?_
      refine a_istore3 hX rfl (by decide) rfl dX10_blown_19 (pc' := 20) rfl ?_
      refine a_iload_n hX rfl rfl dX10_blown_20 (pc' := 21) rfl ?_
      refine a_iconst hX dX10_blown_21 (pc' := 22) rfl ?_
      refine a_icmp_ne hX (by omega) (by omega) dX10_blown_22 (pc' := 25) rfl (tgt := 29) (by decide) (fun c22 => ?_) (fun c22 => ?_)
      · refine a_iload_n hX rfl rfl dX10_blown_29 (pc' := 30) rfl ?_
        refine a_iconst hX dX10_blown_30 (pc' := 31) rfl ?_
        refine a_icmp_ne hX (by omega) (by omega) dX10_blown_31 (pc' := 34) rfl (tgt := 41) (by decide) (fun c31 => ?_) (fun c31 => ?_)
        · refine a_iconst hX dX10_blown_41 (pc' := 42) rfl ?_
          refine a_istore4 hX (by decide) rfl dX10_blown_42 (pc' := 44) rfl ?_
          refine a_iload_n hX rfl rfl dX10_blown_44 (pc' := 45) rfl ?_
          refine a_iload hX rfl dX10_blown_45 (pc' := 47) rfl ?_
          refine a_iadd hX dX10_blown_47 (pc' := 48) rfl ?_
          refine a_bipush hX rfl dX10_blown_48 (pc' := 50) rfl ?_
          refine a_irem hX (by omega) (by omega) dX10_blown_50 (pc' := 51) rfl ?_
          refine a_iret hX dX10_blown_51 (hE _ _ _ ?_)
          refine ⟨aLf ?_, rfl, rfl⟩
          unfold pWay pPace
          simp (config := { decide := true }) [*]
          try omega
        · refine a_bipush hX rfl dX10_blown_34 (pc' := 36) rfl ?_
          refine a_iload_n hX rfl rfl dX10_blown_36 (pc' := 37) rfl ?_
          refine a_isub hX dX10_blown_37 (pc' := 38) rfl ?_
          refine a_goto hX dX10_blown_38 (tgt := 42) (by decide) ?_
          refine a_istore4 hX (by decide) rfl dX10_blown_42 (pc' := 44) rfl ?_
          refine a_iload_n hX rfl rfl dX10_blown_44 (pc' := 45) rfl ?_
          refine a_iload hX rfl dX10_blown_45 (pc' := 47) rfl ?_
          refine a_iadd hX dX10_blown_47 (pc' := 48) rfl ?_
          refine a_bipush hX rfl dX10_blown_48 (pc' := 50) rfl ?_
          refine a_irem hX (by omega) (by omega) dX10_blown_50 (pc' := 51) rfl ?_
          refine a_iret hX dX10_blown_51 (hE _ _ _ ?_)
          refine ⟨aLf ?_, rfl, rfl⟩
          unfold pWay pPace
          simp (config := { decide := true }) [*]
          try omega
      · refine a_iload_n hX rfl rfl dX10_blown_25 (pc' := 26) rfl ?_
        refine a_goto hX dX10_blown_26 (tgt := 42) (by decide) ?_
        refine a_istore4 hX (by decide) rfl dX10_blown_42 (pc' := 44) rfl ?_
        refine a_iload_n hX rfl rfl dX10_blown_44 (pc' := 45) rfl ?_
        refine a_iload hX rfl dX10_blown_45 (pc' := 47) rfl ?_
        refine a_iadd hX dX10_blown_47 (pc' := 48) rfl ?_
        refine a_bipush hX rfl dX10_blown_48 (pc' := 50) rfl ?_
        refine a_irem hX (by omega) (by omega) dX10_blown_50 (pc' := 51) rfl ?_
        refine a_iret hX dX10_blown_51 (hE _ _ _ ?_)
        refine ⟨aLf ?_, rfl, rfl⟩
        unfold pWay pPace
        simp (config := { decide := true }) [*]
        try omega
    · refine a_iconst hX dX10_blown_14 (pc' := 15) rfl ?_
      refine a_goto hX dX10_blown_15 (tgt := 19) (by decide) ?_
      refine a_istore3 hX rfl (by decide) rfl dX10_blown_19 (pc' := 20) rfl ?_
      refine a_iload_n hX rfl rfl dX10_blown_20 (pc' := 21) rfl ?_
      refine a_iconst hX dX10_blown_21 (pc' := 22) rfl ?_
      refine a_icmp_ne hX (by omega) (by omega) dX10_blown_22 (pc' := 25) rfl (tgt := 29) (by decide) (fun c22 => ?_) (fun c22 => ?_)
      · refine a_iload_n hX rfl rfl dX10_blown_29 (pc' := 30) rfl ?_
        refine a_iconst hX dX10_blown_30 (pc' := 31) rfl ?_
        refine a_icmp_ne hX (by omega) (by omega) dX10_blown_31 (pc' := 34) rfl (tgt := 41) (by decide) (fun c31 => ?_) (fun c31 => ?_)
        · refine a_iconst hX dX10_blown_41 (pc' := 42) rfl ?_
          refine a_istore4 hX (by decide) rfl dX10_blown_42 (pc' := 44) rfl ?_
          refine a_iload_n hX rfl rfl dX10_blown_44 (pc' := 45) rfl ?_
          refine a_iload hX rfl dX10_blown_45 (pc' := 47) rfl ?_
          refine a_iadd hX dX10_blown_47 (pc' := 48) rfl ?_
          refine a_bipush hX rfl dX10_blown_48 (pc' := 50) rfl ?_
          refine a_irem hX (by omega) (by omega) dX10_blown_50 (pc' := 51) rfl ?_
          refine a_iret hX dX10_blown_51 (hE _ _ _ ?_)
          refine ⟨aLf ?_, rfl, rfl⟩
          unfold pWay pPace
          simp (config := { decide := true }) [*]
          try omega
        · refine a_bipush hX rfl dX10_blown_34 (pc' := 36) rfl ?_
          refine a_iload_n hX rfl rfl dX10_blown_36 (pc' := 37) rfl ?_
          refine a_isub hX dX10_blown_37 (pc' := 38) rfl ?_
          refine a_goto hX dX10_blown_38 (tgt := 42) (by decide) ?_
          refine a_istore4 hX (by decide) rfl dX10_blown_42 (pc' := 44) rfl ?_
          refine a_iload_n hX rfl rfl dX10_blown_44 (pc' := 45) rfl ?_
          refine a_iload hX rfl dX10_blown_45 (pc' := 47) rfl ?_
          refine a_iadd hX dX10_blown_47 (pc' := 48) rfl ?_
          refine a_bipush hX rfl dX10_blown_48 (pc' := 50) rfl ?_
          refine a_irem hX (by omega) (by omega) dX10_blown_50 (pc' := 51) rfl ?_
          refine a_iret hX dX10_blown_51 (hE _ _ _ ?_)
          refine ⟨aLf ?_, rfl, rfl⟩
          unfold pWay pPace
          simp (config := { decide := true }) [*]
          try omega
      · refine a_iload_n hX rfl rfl dX10_blown_25 (pc' := 26) rfl ?_
        refine a_goto hX dX10_blown_26 (tgt := 42) (by decide) ?_
        refine a_istore4 hX (by decide) rfl dX10_blown_42 (pc' := 44) rfl ?_
        refine a_iload_n hX rfl rfl dX10_blown_44 (pc' := 45) rfl ?_
        refine a_iload hX rfl dX10_blown_45 (pc' := 47) rfl ?_
        refine a_iadd hX dX10_blown_47 (pc' := 48) rfl ?_
        refine a_bipush hX rfl dX10_blown_48 (pc' := 50) rfl ?_
        refine a_irem hX (by omega) (by omega) dX10_blown_50 (pc' := 51) rfl ?_
        refine a_iret hX dX10_blown_51 (hE _ _ _ ?_)
        refine ⟨aLf ?_, rfl, rfl⟩
        unfold pWay pPace
        simp (config := { decide := true }) [*]
        try omega
  · refine a_iconst hX dX10_blown_5 (pc' := 6) rfl ?_
    refine a_goto hX dX10_blown_6 (tgt := 19) (by decide) ?_
    refine a_istore3 hX rfl (by decide) rfl dX10_blown_19 (pc' := 20) rfl ?_
    refine a_iload_n hX rfl rfl dX10_blown_20 (pc' := 21) rfl ?_
    refine a_iconst hX dX10_blown_21 (pc' := 22) rfl ?_
    refine a_icmp_ne hX (by omega) (by omega) dX10_blown_22 (pc' := 25) rfl (tgt := 29) (by decide) (fun c22 => ?_) (fun c22 => ?_)
    · refine a_iload_n hX rfl rfl dX10_blown_29 (pc' := 30) rfl ?_
      refine a_iconst hX dX10_blown_30 (pc' := 31) rfl ?_
      refine a_icmp_ne hX (by omega) (by omega) dX10_blown_31 (pc' := 34) rfl (tgt := 41) (by decide) (fun c31 => ?_) (fun c31 => ?_)
      · refine a_iconst hX dX10_blown_41 (pc' := 42) rfl ?_
        refine a_istore4 hX (by decide) rfl dX10_blown_42 (pc' := 44) rfl ?_
        refine a_iload_n hX rfl rfl dX10_blown_44 (pc' := 45) rfl ?_
        refine a_iload hX rfl dX10_blown_45 (pc' := 47) rfl ?_
        refine a_iadd hX dX10_blown_47 (pc' := 48) rfl ?_
        refine a_bipush hX rfl dX10_blown_48 (pc' := 50) rfl ?_
        refine a_irem hX (by omega) (by omega) dX10_blown_50 (pc' := 51) rfl ?_
        refine a_iret hX dX10_blown_51 (hE _ _ _ ?_)
        refine ⟨aLf ?_, rfl, rfl⟩
        unfold pWay pPace
        simp (config := { decide := true }) [*]
        try omega
      · refine a_bipush hX rfl dX10_blown_34 (pc' := 36) rfl ?_
        refine a_iload_n hX rfl rfl dX10_blown_36 (pc' := 37) rfl ?_
        refine a_isub hX dX10_blown_37 (pc' := 38) rfl ?_
        refine a_goto hX dX10_blown_38 (tgt := 42) (by decide) ?_
        refine a_istore4 hX (by decide) rfl dX10_blown_42 (pc' := 44) rfl ?_
        refine a_iload_n hX rfl rfl dX10_blown_44 (pc' := 45) rfl ?_
        refine a_iload hX rfl dX10_blown_45 (pc' := 47) rfl ?_
        refine a_iadd hX dX10_blown_47 (pc' := 48) rfl ?_
        refine a_bipush hX rfl dX10_blown_48 (pc' := 50) rfl ?_
        refine a_irem hX (by omega) (by omega) dX10_blown_50 (pc' := 51) rfl ?_
        refine a_iret hX dX10_blown_51 (hE _ _ _ ?_)
        refine ⟨aLf ?_, rfl, rfl⟩
        unfold pWay pPace
        simp (config := { decide := true }) [*]
        try omega
    · refine a_iload_n hX rfl rfl dX10_blown_25 (pc' := 26) rfl ?_
      refine a_goto hX dX10_blown_26 (tgt := 42) (by decide) ?_
      refine a_istore4 hX (by decide) rfl dX10_blown_42 (pc' := 44) rfl ?_
      refine a_iload_n hX rfl rfl dX10_blown_44 (pc' := 45) rfl ?_
      refine a_iload hX rfl dX10_blown_45 (pc' := 47) rfl ?_
      refine a_iadd hX dX10_blown_47 (pc' := 48) rfl ?_
      refine a_bipush hX rfl dX10_blown_48 (pc' := 50) rfl ?_
      refine a_irem hX (by omega) (by omega) dX10_blown_50 (pc' := 51) rfl ?_
      refine a_iret hX dX10_blown_51 (hE _ _ _ ?_)
      refine ⟨aLf ?_, rfl, rfl⟩
      unfold pWay pPace
      simp (config := { decide := true }) [*]
      try omega

set_option maxHeartbeats 4000000 in
set_option maxRecDepth 100000 in
theorem c_startOver {G : aG} {Z : aZ} {Y : aY} {y : Int} (hy : 0 ≤ y ∧ y ≤ 5) (hB : aB Z) : aSV G yX1_startOver cX1_startOver 3 none 0 0 [.ref (G.1 48), .int (aI y)] Z Y (fun Z' Y' => (∀ b : Int, 0 ≤ b ∧ b < 6 → Z' 49 b = if b = y then 1 else 0) ∧ Z' 48 2 = 1 ∧ (∀ a : Nat, a ≠ 48 → a ≠ 49 → Z' a = Z a) ∧ aB Z' ∧ Y' = Y) := by
  refine aS.of (own := RX1) (by decide +kernel) rfl 1 (Nat.le_of_ble_eq_true rfl) (fun X hX hE => ?_)
  show AW X G 0 [some (.ref (G.1 48)), some (.int (aI y)), none] [] Z Y
  refine a_iconst hX dX1_startOver_0 (pc' := 1) rfl ?_
  refine a_istore2 hX rfl (by decide) rfl dX1_startOver_1 (pc' := 2) rfl ?_
  have L2 : ∀ (n : Nat) (i : Int) (Z1 : aZ), (0 ≤ i ∧ i ≤ 6) → aB Z1 → (∀ b : Int, 0 ≤ b ∧ b < i → Z1 49 b = if b = y then 1 else 0) → (∀ a : Nat, a ≠ 48 → a ≠ 49 → Z1 a = Z a) → (6 - i).toNat < n → AW X G 2 [some (.ref (G.1 48)), some (.int (aI y)), some (.int (aI i))] [] Z1 Y := by
    intro n
    induction n with
    | zero =>
      intro i Z1 hi hB hw hz hn
      omega
    | succ n ih =>
      intro i Z1 hi hB hw hz hn
      refine a_iload_n hX rfl rfl dX1_startOver_2 (pc' := 3) rfl ?_
      refine a_bipush hX rfl dX1_startOver_3 (pc' := 5) rfl ?_
      refine a_icmp_ge hX (by omega) (by omega) dX1_startOver_5 (pc' := 8) rfl (tgt := 30) (by decide) (fun c5 => ?_) (fun c5 => ?_)
      · refine a_aload_n hX rfl rfl dX1_startOver_30 (pc' := 31) rfl ?_
        refine a_iconst hX dX1_startOver_31 (pc' := 32) rfl ?_
        refine a_putfIB hX fl_X1_18 nf_1_2 (ji := 2) rfl rfl (by decide) rfl hB (by omega) dX1_startOver_32 (pc' := 35) rfl (fun hB => ?_)
        refine a_vret hX dX1_startOver_35 (hE _ _ _ ?_)
        refine ⟨rfl, fun b hb9 => ?_, aU_eq, fun a h1 h2 => by rw [aU_row h1]; exact hz a h1 h2, hB, rfl⟩
        rw [aU_ne (by decide)]
        exact hw b (by omega)
      · refine a_aload_n hX rfl rfl dX1_startOver_8 (pc' := 9) rfl ?_
        refine a_getfR hX (r := 49) fl_X1_9 rfl (by decide) rfl dX1_startOver_9 (pc' := 12) rfl ?_
        refine a_iload_n hX rfl rfl dX1_startOver_12 (pc' := 13) rfl ?_
        refine a_iload_n hX rfl rfl dX1_startOver_13 (pc' := 14) rfl ?_
        refine a_iload_n hX rfl rfl dX1_startOver_14 (pc' := 15) rfl ?_
        refine a_icmp_ne hX (by omega) (by omega) dX1_startOver_15 (pc' := 18) rfl (tgt := 22) (by decide) (fun c15 => ?_) (fun c15 => ?_)
        · refine a_iconst hX dX1_startOver_22 (pc' := 23) rfl ?_
          refine a_iastB hX rfl (by decide) (by decide) (by omega) hB (by omega) dX1_startOver_23 (pc' := 24) rfl (fun hB => ?_)
          refine a_iinc2 hX (by decide) rfl dX1_startOver_24 (pc' := 27) rfl ?_
          refine a_goto hX dX1_startOver_27 (tgt := 2) (by decide) ?_
          refine ih (i + 1) _ (by omega) hB (fun b hb9 => ?_) (fun a h1 h2 => by rw [aU_row h2]; exact hz a h1 h2) (by omega)
          rw [aU_at]
          by_cases e : b = i
          · subst e
            rw [if_pos rfl]
            first | rw [if_pos (by omega)] | rw [if_neg (by omega)]
          · rw [if_neg e]; exact hw b (by omega)
        · refine a_iconst hX dX1_startOver_18 (pc' := 19) rfl ?_
          refine a_goto hX dX1_startOver_19 (tgt := 23) (by decide) ?_
          refine a_iastB hX rfl (by decide) (by decide) (by omega) hB (by omega) dX1_startOver_23 (pc' := 24) rfl (fun hB => ?_)
          refine a_iinc2 hX (by decide) rfl dX1_startOver_24 (pc' := 27) rfl ?_
          refine a_goto hX dX1_startOver_27 (tgt := 2) (by decide) ?_
          refine ih (i + 1) _ (by omega) hB (fun b hb9 => ?_) (fun a h1 h2 => by rw [aU_row h2]; exact hz a h1 h2) (by omega)
          rw [aU_at]
          by_cases e : b = i
          · subst e
            rw [if_pos rfl]
            first | rw [if_pos (by omega)] | rw [if_neg (by omega)]
          · rw [if_neg e]; exact hw b (by omega)
  exact L2 7 0 Z (by omega) hB (fun b hb => by omega) (fun _ _ _ => rfl) (by omega)

set_option maxHeartbeats 4000000 in
set_option maxRecDepth 100000 in
theorem c_chDay {G : aG} {Z : aZ} {Y : aY} {d x W : Int} (hd : -2 ≤ d ∧ d ≤ 2) (hx : 0 ≤ x ∧ x ≤ 10) (hW : 0 ≤ W ∧ W ≤ 1000000) (hw : ∀ b : Int, 0 ≤ b ∧ b < 6 → 0 ≤ Z 49 b ∧ Z 49 b ≤ W) (hv : 0 ≤ Z 48 2 ∧ Z 48 2 ≤ 1000000) (hB : aB Z) : aSV G yX1_goDay cX1_goDay 4 none 2 64 [.ref (G.1 48), .int (aI d), .int (aI x)] Z Y (fun Z' Y' => (∀ b : Int, 0 ≤ b ∧ b < 6 → Z' 49 b = (Z 49 b * x + Z 49 ((b - d) % 6) * (10 - x))) ∧ Z' 48 2 = Z 48 2 * 10 ∧ (∀ a : Nat, a ≠ 48 → a ≠ 49 → a ≠ 50 → Z' a = Z a) ∧ aB Z' ∧ Y' = Y) := by
  refine aS.of (own := RX1) (by decide +kernel) rfl 1 (Nat.le_of_ble_eq_true rfl) (fun X hX hE => ?_)
  show AW X G 0 [some (.ref (G.1 48)), some (.int (aI d)), some (.int (aI x)), none] [] Z Y
  refine a_iconst hX dX1_goDay_0 (pc' := 1) rfl ?_
  refine a_istore3 hX rfl (by decide) rfl dX1_goDay_1 (pc' := 2) rfl ?_
  have L2 : ∀ (n : Nat) (i : Int) (Z1 : aZ), (0 ≤ i ∧ i ≤ 6) → aB Z1 → (∀ b : Int, 0 ≤ b ∧ b < i → Z1 50 b = (Z 49 b * x + Z 49 ((b - d) % 6) * (10 - x))) → (∀ a : Nat, a ≠ 50 → Z1 a = Z a) → (6 - i).toNat < n → AW X G 2 [some (.ref (G.1 48)), some (.int (aI d)), some (.int (aI x)), some (.int (aI i))] [] Z1 Y := by
    intro n
    induction n with
    | zero =>
      intro i Z1 hi hB hq hz hn
      omega
    | succ n ih =>
      intro i Z1 hi hB hq hz hn
      have e49 : Z1 49 = Z 49 := hz 49 (by decide)
      have q1 := Int.emod_nonneg (i - d) (show (6 : Int) ≠ 0 by omega)
      have q2 := Int.emod_lt_of_pos (i - d) (show (0 : Int) < 6 by omega)
      have w1 := fun h => hw i h
      have w2 := hw ((i - d) % 6) (by omega)
      have e48 : Z1 48 2 = Z 48 2 := by rw [hz 48 (by decide)]
      refine a_iload_n hX rfl rfl dX1_goDay_2 (pc' := 3) rfl ?_
      refine a_bipush hX rfl dX1_goDay_3 (pc' := 5) rfl ?_
      refine a_icmp_ge hX (by omega) (by omega) dX1_goDay_5 (pc' := 8) rfl (tgt := 45) (by decide) (fun c5 => ?_) (fun c5 => ?_)
      · refine a_aload_n hX rfl rfl dX1_goDay_45 (pc' := 46) rfl ?_
        refine a_getfR hX (r := 50) fl_X1_15 rfl (by decide) rfl dX1_goDay_46 (pc' := 49) rfl ?_
        refine a_iconst hX dX1_goDay_49 (pc' := 50) rfl ?_
        refine a_aload_n hX rfl rfl dX1_goDay_50 (pc' := 51) rfl ?_
        refine a_getfR hX (r := 49) fl_X1_9 rfl (by decide) rfl dX1_goDay_51 (pc' := 54) rfl ?_
        refine a_iconst hX dX1_goDay_54 (pc' := 55) rfl ?_
        refine a_bipush hX rfl dX1_goDay_55 (pc' := 57) rfl ?_
        refine a_copyB hX cs_X1_28 rfl (by decide) rfl (by decide) hB (by omega) (by decide) (by decide) rfl dX1_goDay_57 (pc' := 60) rfl (fun hB => ?_)
        refine a_aload_n hX rfl rfl dX1_goDay_60 (pc' := 61) rfl ?_
        refine a_dup hX rfl dX1_goDay_61 (pc' := 62) rfl ?_
        refine a_getfI hX (ji := 2) rfl hB fl_X1_18 rfl (by decide) rfl dX1_goDay_62 (pc' := 65) rfl (fun hb => ?_)
        refine a_bipush hX rfl dX1_goDay_65 (pc' := 67) rfl ?_
        refine a_imul hX dX1_goDay_67 (pc' := 68) rfl ?_
        rw [aCp_ne (show 48 ≠ 49 by decide), e48]
        refine a_putfIB hX fl_X1_18 nf_1_2 (ji := 2) rfl rfl (by decide) rfl hB (by omega) dX1_goDay_68 (pc' := 71) rfl (fun hB => ?_)
        refine a_vret hX dX1_goDay_71 (hE _ _ _ ?_)
        refine ⟨rfl, fun b hb9 => ?_, aU_eq, fun a h1 h2 h3 => by rw [aU_row h1, aCp_row h2]; exact hz a h3, hB, rfl⟩
        rw [aU_ne (by decide), aCp_in (by omega), show 0 + (b - 0) = b by omega]
        exact hq b (by omega)
      · refine a_aload_n hX rfl rfl dX1_goDay_8 (pc' := 9) rfl ?_
        refine a_getfR hX (r := 50) fl_X1_15 rfl (by decide) rfl dX1_goDay_9 (pc' := 12) rfl ?_
        refine a_iload_n hX rfl rfl dX1_goDay_12 (pc' := 13) rfl ?_
        refine a_aload_n hX rfl rfl dX1_goDay_13 (pc' := 14) rfl ?_
        refine a_getfR hX (r := 49) fl_X1_9 rfl (by decide) rfl dX1_goDay_14 (pc' := 17) rfl ?_
        refine a_iload_n hX rfl rfl dX1_goDay_17 (pc' := 18) rfl ?_
        refine a_iald hX rfl (by decide) (by decide) (by omega) hB dX1_goDay_18 (pc' := 19) rfl (fun hb => ?_)
        refine a_iload_n hX rfl rfl dX1_goDay_19 (pc' := 20) rfl ?_
        refine a_imul hX dX1_goDay_20 (pc' := 21) rfl ?_
        refine a_aload_n hX rfl rfl dX1_goDay_21 (pc' := 22) rfl ?_
        refine a_getfR hX (r := 49) fl_X1_9 rfl (by decide) rfl dX1_goDay_22 (pc' := 25) rfl ?_
        refine a_iload_n hX rfl rfl dX1_goDay_25 (pc' := 26) rfl ?_
        refine a_iload_n hX rfl rfl dX1_goDay_26 (pc' := 27) rfl ?_
        refine a_isub hX dX1_goDay_27 (pc' := 28) rfl ?_
        refine a_cS1i hX cs_X1_22 (c_ring (by omega)) ⟨by decide, by decide⟩ (Nat.le_of_ble_eq_true rfl) dX1_goDay_28 (pc' := 31) rfl ?_
        refine a_iald hX rfl (by decide) (by decide) (by omega) hB dX1_goDay_31 (pc' := 32) rfl (fun hb => ?_)
        refine a_bipush hX rfl dX1_goDay_32 (pc' := 34) rfl ?_
        refine a_iload_n hX rfl rfl dX1_goDay_34 (pc' := 35) rfl ?_
        refine a_isub hX dX1_goDay_35 (pc' := 36) rfl ?_
        refine a_imul hX dX1_goDay_36 (pc' := 37) rfl ?_
        refine a_iadd hX dX1_goDay_37 (pc' := 38) rfl ?_
        have w3 := w1 (by omega)
        rw [e49]
        have m1 := Int.mul_nonneg w3.1 hx.1
        have m2 := Int.mul_le_mul w3.2 hx.2 hx.1 hW.1
        have m3 := Int.mul_nonneg w2.1 (show 0 ≤ 10 - x by omega)
        have m4 := Int.mul_le_mul w2.2 (show 10 - x ≤ 10 by omega) (show 0 ≤ 10 - x by omega) hW.1
        refine a_iastB hX rfl (by decide) (by decide) (by omega) hB (by omega) dX1_goDay_38 (pc' := 39) rfl (fun hB => ?_)
        refine a_iinc3 hX (by decide) rfl dX1_goDay_39 (pc' := 42) rfl ?_
        refine a_goto hX dX1_goDay_42 (tgt := 2) (by decide) ?_
        refine ih (i + 1) _ (by omega) hB (fun b hb9 => ?_) (fun a h1 => by rw [aU_row h1]; exact hz a h1) (by omega)
        rw [aU_at]
        by_cases e : b = i
        · subst e
          rw [if_pos rfl]
        · rw [if_neg e]; exact hq b (by omega)
  exact L2 7 0 Z (by omega) hB (fun b hb => by omega) (fun _ _ => rfl) (by omega)

def aFac : Nat → Int
  | 0 => 1
  | n + 1 => aFac n * (n + 1)
theorem aFac_s {n : Int} (h : 0 ≤ n) : aFac (n + 1).toNat = aFac n.toNat * (n + 1) := by
  rw [show (n + 1).toNat = n.toNat + 1 by omega]
  show aFac n.toNat * ((n.toNat : Int) + 1) = _
  rw [Int.toNat_of_nonneg h]
theorem aEu {x y : Int} (hx : 0 ≤ x) (hy : 0 < y) : (Int.gcd x y : Int) = (Int.gcd y (x % y) : Int) := by
  obtain ⟨m, rfl⟩ := Int.eq_ofNat_of_zero_le hx
  obtain ⟨n, rfl⟩ := Int.eq_ofNat_of_zero_le (Int.le_of_lt hy)
  rw [show ((m : Int) % (n : Int)) = ((m % n : Nat) : Int) from (Int.natCast_emod m n).symm]
  show ((Nat.gcd m n : Nat) : Int) = ((Nat.gcd n (m % n) : Nat) : Int)
  rw [Nat.gcd_comm m n, Nat.gcd_rec n m, Nat.gcd_comm]
theorem aGcd_pos {a b : Int} (hb : 0 < b) : 0 < (Int.gcd a b : Int) := by
  have := Int.gcd_pos_of_ne_zero_right a (show b ≠ 0 by omega)
  omega
theorem aGcd_le {a b : Int} (hb : 0 < b) : (Int.gcd a b : Int) ≤ b := Int.le_of_dvd hb (Int.gcd_dvd_right a b)
theorem aEu_pot {i x y : Int} (hi : 0 ≤ i) (hx : 0 ≤ x ∧ x ≤ 1000000) (hy : 0 ≤ y ∧ y ≤ 1000000) (hy0 : 0 < y) (h : i = 0 ∨ (y < x ∧ x * y * 2 ^ (i - 1).toNat ≤ 1000000000000)) : y * (x % y) * 2 ^ (i + 1 - 1).toNat ≤ 1000000000000 := by
  have q1 := Int.emod_nonneg x (show y ≠ 0 by omega)
  have q2 := Int.emod_lt_of_pos x hy0
  rcases h with h | ⟨h1, h2⟩
  · subst h
    show y * (x % y) * 2 ^ 0 ≤ _
    rw [Int.pow_zero, Int.mul_one]
    have : y * (x % y) ≤ 1000000 * 1000000 := Int.mul_le_mul hy.2 (by omega) q1 (by omega)
    omega
  · by_cases h0 : i = 0
    · subst h0
      show y * (x % y) * 2 ^ 0 ≤ _
      rw [Int.pow_zero, Int.mul_one]
      have : y * (x % y) ≤ 1000000 * 1000000 := Int.mul_le_mul hy.2 (by omega) q1 (by omega)
      omega
    · have e : (i + 1 - 1).toNat = (i - 1).toNat + 1 := by omega
      rw [e, Int.pow_succ]
      have h3 : x % y * 2 ≤ x := by
        have d1 := Int.mul_ediv_add_emod x y
        have d2 : 1 ≤ x / y := (Int.le_ediv_iff_mul_le hy0).mpr (by omega)
        have d3 : y * 1 ≤ y * (x / y) := Int.mul_le_mul_of_nonneg_left d2 (by omega)
        omega
      have h4 : y * (x % y * 2) ≤ y * x := Int.mul_le_mul_of_nonneg_left h3 (by omega)
      have h5 : y * (x % y * 2) * 2 ^ (i - 1).toNat ≤ y * x * 2 ^ (i - 1).toNat := Int.mul_le_mul_of_nonneg_right h4 (Int.le_of_lt (aPow_pos _))
      have e2 : y * (x % y) * (2 ^ (i - 1).toNat * 2) = y * (x % y * 2) * 2 ^ (i - 1).toNat := by
        rw [Int.mul_comm (2 ^ (i - 1).toNat) 2, ← Int.mul_assoc, Int.mul_assoc y]
      rw [e2, Int.mul_comm y x] at *
      omega
theorem aEu_end {i x y : Int} (hi : i = 64) (hx : 0 < x) (hy : 0 < y) (h : x * y * 2 ^ (i - 1).toNat ≤ 1000000000000) : False := by
  subst hi
  have h1 : 1 * 1 ≤ x * y := Int.mul_le_mul (by omega) (by omega) (by omega) (by omega)
  have h2 : 1 * 2 ^ ((64 : Int) - 1).toNat ≤ x * y * 2 ^ ((64 : Int) - 1).toNat := Int.mul_le_mul_of_nonneg_right (by omega) (Int.le_of_lt (aPow_pos _))
  have h3 : (1 : Int) * 2 ^ ((64 : Int) - 1).toNat = 9223372036854775808 := by decide
  omega

set_option maxHeartbeats 4000000 in
set_option maxRecDepth 100000 in
theorem c_factorial {G : aG} {Z : aZ} {Y : aY} {n : Int} (hn : 0 ≤ n ∧ n ≤ 10) : aSi G yX2_factorial cX2_factorial 3 (some .int) 0 0 [.int (aI n)] Z Y (aFac n.toNat) := by
  refine aS.of (own := RX2) (by decide +kernel) rfl 2 (Nat.le_of_ble_eq_true rfl) (fun X hX hE => ?_)
  show AW X G 0 [some (.int (aI n)), none, none] [] Z Y
  refine a_iconst hX dX2_factorial_0 (pc' := 1) rfl ?_
  refine a_istore1 hX rfl (by decide) rfl dX2_factorial_1 (pc' := 2) rfl ?_
  refine a_iconst hX dX2_factorial_2 (pc' := 3) rfl ?_
  refine a_istore2 hX rfl (by decide) rfl dX2_factorial_3 (pc' := 4) rfl ?_
  have L4 : ∀ (m : Nat) (i : Int), (2 ≤ i ∧ (i ≤ n + 1 ∨ i = 2)) → (n + 1 - i).toNat < m → AW X G 4 [some (.int (aI n)), some (.int (aI (aFac (i - 1).toNat))), some (.int (aI i))] [] Z Y := by
    intro m
    induction m with
    | zero =>
      intro i hi hm
      omega
    | succ m ih =>
      intro i hi hm
      refine a_iload_n hX rfl rfl dX2_factorial_4 (pc' := 5) rfl ?_
      refine a_iload_n hX rfl rfl dX2_factorial_5 (pc' := 6) rfl ?_
      refine a_icmp_gt hX (by omega) (by omega) dX2_factorial_6 (pc' := 9) rfl (tgt := 19) (by decide) (fun c6 => ?_) (fun c6 => ?_)
      · refine a_iload_n hX rfl rfl dX2_factorial_19 (pc' := 20) rfl ?_
        refine a_iret hX dX2_factorial_20 (hE _ _ _ ?_)
        refine ⟨aLf ?_, rfl, rfl⟩
        by_cases h : n < 1
        · rw [show n = 0 by omega, show i = 2 by omega]; rfl
        · rw [show i - 1 = n by omega]
      · refine a_iload_n hX rfl rfl dX2_factorial_9 (pc' := 10) rfl ?_
        refine a_iload_n hX rfl rfl dX2_factorial_10 (pc' := 11) rfl ?_
        refine a_imul hX dX2_factorial_11 (pc' := 12) rfl ?_
        refine a_istore1 hX rfl (by decide) rfl dX2_factorial_12 (pc' := 13) rfl ?_
        refine a_iinc2 hX (by decide) rfl dX2_factorial_13 (pc' := 16) rfl ?_
        refine a_goto hX dX2_factorial_16 (tgt := 4) (by decide) ?_
        have e0 := aFac_s (n := i - 1) (by omega)
        rw [show i - 1 + 1 = i + 1 - 1 by omega, show i + 1 - 1 = i by omega] at e0
        rw [← e0]
        have L := ih (i + 1) (by omega) (by omega)
        rw [show i + 1 - 1 = i by omega] at L
        exact L
  exact L4 ((n + 1 - 2).toNat + 1) 2 (by omega) (by omega)

set_option maxHeartbeats 4000000 in
set_option maxRecDepth 100000 in
theorem c_common {G : aG} {Z : aZ} {Y : aY} {a b : Int} (ha : 0 ≤ a ∧ a ≤ 1000000) (hb0 : 0 ≤ b ∧ b ≤ 1000000) : aSi G yX2_commonDivisor cX2_commonDivisor 6 (some .int) 0 0 [.int (aI a), .int (aI b)] Z Y (Int.gcd a b : Int) := by
  refine aS.of (own := RX2) (by decide +kernel) rfl 4 (Nat.le_of_ble_eq_true rfl) (fun X hX hE => ?_)
  show AW X G 0 [some (.int (aI a)), some (.int (aI b)), none, none, none, none] [] Z Y
  refine a_iload_n hX rfl rfl dX2_commonDivisor_0 (pc' := 1) rfl ?_
  refine a_istore2 hX rfl (by decide) rfl dX2_commonDivisor_1 (pc' := 2) rfl ?_
  refine a_iload_n hX rfl rfl dX2_commonDivisor_2 (pc' := 3) rfl ?_
  refine a_istore3 hX rfl (by decide) rfl dX2_commonDivisor_3 (pc' := 4) rfl ?_
  refine a_iconst hX dX2_commonDivisor_4 (pc' := 5) rfl ?_
  refine a_istore4 hX (by decide) rfl dX2_commonDivisor_5 (pc' := 7) rfl ?_
  have L7 : ∀ (m : Nat) (i x y : Int), (0 ≤ i ∧ i ≤ 64) → (0 ≤ x ∧ x ≤ 1000000) → (0 ≤ y ∧ y ≤ 1000000) → (Int.gcd x y : Int) = (Int.gcd a b : Int) → (i = 0 ∨ (y < x ∧ x * y * 2 ^ (i - 1).toNat ≤ 1000000000000)) → (64 - i).toNat < m → AW X G 7 [some (.int (aI a)), some (.int (aI b)), some (.int (aI x)), some (.int (aI y)), some (.int (aI i)), none] [] Z Y := by
    intro m
    induction m with
    | zero =>
      intro i x y hi hx hy hg hm2 hm
      omega
    | succ m ih =>
      intro i x y hi hx hy hg hm2 hm
      refine a_iload hX rfl dX2_commonDivisor_7 (pc' := 9) rfl ?_
      refine a_bipush hX rfl dX2_commonDivisor_9 (pc' := 11) rfl ?_
      refine a_icmp_ge hX (by omega) (by omega) dX2_commonDivisor_11 (pc' := 14) rfl (tgt := 34) (by decide) (fun c11 => ?_) (fun c11 => ?_)
      · refine a_iload_n hX rfl rfl dX2_commonDivisor_34 (pc' := 35) rfl ?_
        refine a_iret hX dX2_commonDivisor_35 (hE _ _ _ ?_)
        refine ⟨aLf ?_, rfl, rfl⟩
        have hy0 : y = 0 := by
          first
            | omega
            | (refine Decidable.byContradiction fun hne => ?_
               rcases hm2 with h | h
               · omega
               · exact aEu_end (show i = 64 by omega) (by omega) (by omega) h.2)
        rw [← hg, hy0, Int.gcd_zero_right]
        omega
      · refine a_iload_n hX rfl rfl dX2_commonDivisor_14 (pc' := 15) rfl ?_
        refine a_if_eq hX (by omega) dX2_commonDivisor_15 (pc' := 18) rfl (tgt := 34) (by decide) (fun c15 => ?_) (fun c15 => ?_)
        · refine a_iload_n hX rfl rfl dX2_commonDivisor_34 (pc' := 35) rfl ?_
          refine a_iret hX dX2_commonDivisor_35 (hE _ _ _ ?_)
          refine ⟨aLf ?_, rfl, rfl⟩
          have hy0 : y = 0 := by
            first
              | omega
              | (refine Decidable.byContradiction fun hne => ?_
                 rcases hm2 with h | h
                 · omega
                 · exact aEu_end (show i = 64 by omega) (by omega) (by omega) h.2)
          rw [← hg, hy0, Int.gcd_zero_right]
          omega
        · refine a_iload_n hX rfl rfl dX2_commonDivisor_18 (pc' := 19) rfl ?_
          refine a_iload_n hX rfl rfl dX2_commonDivisor_19 (pc' := 20) rfl ?_
          have q1 := Int.emod_nonneg x (show y ≠ 0 by omega)
          have q2 := Int.emod_lt_of_pos x (show 0 < y by omega)
          refine a_irem hX (by omega) (by omega) dX2_commonDivisor_20 (pc' := 21) rfl ?_
          refine a_istore5 hX (by decide) rfl dX2_commonDivisor_21 (pc' := 23) rfl ?_
          refine a_iload_n hX rfl rfl dX2_commonDivisor_23 (pc' := 24) rfl ?_
          refine a_istore2 hX rfl (by decide) rfl dX2_commonDivisor_24 (pc' := 25) rfl ?_
          refine a_iload hX rfl dX2_commonDivisor_25 (pc' := 27) rfl ?_
          refine a_istore3 hX rfl (by decide) rfl dX2_commonDivisor_27 (pc' := 28) rfl ?_
          refine a_iinc4 hX (by decide) rfl dX2_commonDivisor_28 (pc' := 31) rfl ?_
          refine a_goto hX dX2_commonDivisor_31 (tgt := 7) (by decide) ?_
          refine AW.le ?_ (ih (i + 1) y (x % y) (by omega) (by omega) (by omega) (by rw [← aEu hx.1 (by omega)]; exact hg) (Or.inr ⟨by omega, aEu_pot hi.1 hx hy (by omega) hm2⟩) (by omega))
          exact ⟨rfl, rfl, rfl, rfl, rfl, trivial⟩
  refine AW.le ?_ (L7 65 0 a b (by omega) ha hb0 rfl (Or.inl rfl) (by omega))
  exact ⟨rfl, rfl, rfl, rfl, rfl, trivial⟩

set_option maxHeartbeats 4000000 in
set_option maxRecDepth 100000 in
theorem c_fraction {G : aG} {Z : aZ} {Y : aY} {a b : Int} {u : Bool} (ha : 0 ≤ a ∧ a ≤ 1000000) (hb0 : 0 < b ∧ b ≤ 1000000) : aSi G yX2_fractionPart cX2_fractionPart 4 (some .int) 1 25 [.int (aI a), .int (aI b), .int (aI (aTr u))] Z Y (if u = true then a / (Int.gcd a b : Int) else b / (Int.gcd a b : Int)) := by
  refine aS.of (own := RX2) (by decide +kernel) rfl 1 (Nat.le_of_ble_eq_true rfl) (fun X hX hE => ?_)
  show AW X G 0 [some (.int (aI a)), some (.int (aI b)), some (.int (aI (aTr u))), none] [] Z Y
  have hg := aGcd_pos (a := a) hb0.1
  have hg2 := aGcd_le (a := a) hb0.1
  refine a_iload_n hX rfl rfl dX2_fractionPart_0 (pc' := 1) rfl ?_
  refine a_iload_n hX rfl rfl dX2_fractionPart_1 (pc' := 2) rfl ?_
  refine a_cS2i hX cs_X2_15 (c_common (by omega) (by omega)) ⟨by decide, by decide⟩ (Nat.le_of_ble_eq_true rfl) dX2_fractionPart_2 (pc' := 5) rfl ?_
  refine a_istore3 hX rfl (by decide) rfl dX2_fractionPart_5 (pc' := 6) rfl ?_
  refine a_iload_n hX rfl rfl dX2_fractionPart_6 (pc' := 7) rfl ?_
  refine a_if_ne hX (by omega) dX2_fractionPart_7 (pc' := 10) rfl (tgt := 20) (by decide) (fun c7 => ?_) (fun c7 => ?_)
  · refine a_iload_n hX rfl rfl dX2_fractionPart_20 (pc' := 21) rfl ?_
    refine a_ifb_eq hX dX2_fractionPart_21 (pc' := 24) rfl (tgt := 30) (by decide) (fun c21 => ?_) (fun c21 => ?_)
    · refine a_iload_n hX rfl rfl dX2_fractionPart_30 (pc' := 31) rfl ?_
      refine a_iload_n hX rfl rfl dX2_fractionPart_31 (pc' := 32) rfl ?_
      refine a_idiv hX (by omega) (by omega) dX2_fractionPart_32 (pc' := 33) rfl ?_
      refine a_iret hX dX2_fractionPart_33 (hE _ _ _ ?_)
      refine ⟨aLf ?_, rfl, rfl⟩
      first | rw [if_pos c21] | rw [if_neg (by rw [c21]; decide)]
    · refine a_iload_n hX rfl rfl dX2_fractionPart_24 (pc' := 25) rfl ?_
      refine a_iload_n hX rfl rfl dX2_fractionPart_25 (pc' := 26) rfl ?_
      refine a_idiv hX (by omega) (by omega) dX2_fractionPart_26 (pc' := 27) rfl ?_
      refine a_goto hX dX2_fractionPart_27 (tgt := 33) (by decide) ?_
      refine a_iret hX dX2_fractionPart_33 (hE _ _ _ ?_)
      refine ⟨aLf ?_, rfl, rfl⟩
      first | rw [if_pos c21] | rw [if_neg (by rw [c21]; decide)]
  · refine a_iload_n hX rfl rfl dX2_fractionPart_10 (pc' := 11) rfl ?_
    refine a_ifb_eq hX dX2_fractionPart_11 (pc' := 14) rfl (tgt := 18) (by decide) (fun c11 => ?_) (fun c11 => ?_)
    · refine a_iconst hX dX2_fractionPart_18 (pc' := 19) rfl ?_
      refine a_iret hX dX2_fractionPart_19 (hE _ _ _ ?_)
      exfalso; omega
    · refine a_iconst hX dX2_fractionPart_14 (pc' := 15) rfl ?_
      refine a_goto hX dX2_fractionPart_15 (tgt := 19) (by decide) ?_
      refine a_iret hX dX2_fractionPart_19 (hE _ _ _ ?_)
      exfalso; omega

def rStep (i : Int) : Int := if i = 2 then 0 else if i = 1 then 1 else -1
def rAt (S : aSk) (c b : Int) : Int := (S c + rStep b) % 6
def rAl (P : aP) (S : aSk) (c b : Int) : Int := min (sHas P S c) (sOwedBy P S (sServs P S c (rAt S c b))) - (if b = 2 then 0 else 1)
theorem sOwedBy_rng {P : aP} {S : aSk} (hP : okP P) (hS : okS P S) (m : Int) : 0 ≤ sOwedBy P S m ∧ sOwedBy P S m ≤ 45 := by
  unfold sOwedBy
  have hp := hP.2.2.1
  have := aSum_rng (f := fun p => if aBit m p = true then sOwed P S p else 0) (a := 0) (b := 9) (P 0 2).toNat (fun i hi => by
    have := sOwed_rng hP hS (p := i) (by omega)
    try dsimp only
    split <;> omega)
  omega
theorem sServs_rng {P : aP} (hP : okP P) (S : aSk) (c y : Int) : 0 ≤ sServs P S c y ∧ sServs P S c y < 32 := by
  have h := aBits_rng (sServ P S c y) (P 0 2).toNat
  have hp := hP.2.2.1
  have e : (2 : Int) ^ (P 0 2).toNat ≤ 32 := by
    rcases (show P 0 2 = 0 ∨ P 0 2 = 1 ∨ P 0 2 = 2 ∨ P 0 2 = 3 ∨ P 0 2 = 4 ∨ P 0 2 = 5 by omega) with q | q | q | q | q | q <;> rw [q] <;> decide
  unfold sServs
  omega

set_option maxHeartbeats 4000000 in
set_option maxRecDepth 100000 in
theorem c_weigh {G : aG} {Z : aZ} {Y : aY} {c : Int} {ra rb : Nat} (hra : aSh ra = (1, 0, [3])) (hrb : aSh rb = (1, 0, [3])) (hab : ra ≠ rb ∧ 51 < ra ∧ ra < 56 ∧ 51 < rb ∧ rb < 56) (hc : 0 ≤ c ∧ c < Z 3 9) (hB : aB Z) (hP : okP (vP Z)) (hS : okS (vP Z) (vS Z 12)) (hd : Z 12 6 ≤ 5000) : aSV G yX4_weigh cX4_weigh 7 none 4 91 [.ref (G.1 12), .int (aI c), .ref (G.1 ra), .ref (G.1 rb)] Z Y (fun Z' Y' => (∀ b : Int, 0 ≤ b ∧ b < 3 → Z' ra b = rAt (vS Z 12) c b) ∧ (∀ b : Int, 0 ≤ b ∧ b < 3 → Z' rb b = rAl (vP Z) (vS Z 12) c b) ∧ (∀ a : Nat, a ≠ ra → a ≠ rb → Z' a = Z a) ∧ aB Z' ∧ Y' = Y) := by
  refine aS.of (own := RX4) (by decide +kernel) rfl 3 (Nat.le_of_ble_eq_true rfl) (fun X hX hE => ?_)
  show AW X G 0 [some (.ref (G.1 12)), some (.int (aI c)), some (.ref (G.1 ra)), some (.ref (G.1 rb)), none, none, none] [] Z Y
  have hfP := fP hP
  refine a_aload_n hX rfl rfl dX4_weigh_0 (pc' := 1) rfl ?_
  refine a_ifnull hX dX4_weigh_1 (pc' := 4) rfl ?_
  refine a_aload_n hX rfl rfl dX4_weigh_4 (pc' := 5) rfl ?_
  refine a_ifnull hX dX4_weigh_5 (pc' := 8) rfl ?_
  refine a_aload_n hX rfl rfl dX4_weigh_8 (pc' := 9) rfl ?_
  refine a_alen hX (v := 3) hra (by omega) rfl dX4_weigh_9 (pc' := 10) rfl ?_
  refine a_iconst hX dX4_weigh_10 (pc' := 11) rfl ?_
  refine a_icmp_lt hX (by omega) (by omega) dX4_weigh_11 (pc' := 14) rfl (tgt := 20) (by decide) (fun c11 => ?_) (fun c11 => ?_)
  · omega
  · refine a_aload_n hX rfl rfl dX4_weigh_14 (pc' := 15) rfl ?_
    refine a_alen hX (v := 3) hrb (by omega) rfl dX4_weigh_15 (pc' := 16) rfl ?_
    refine a_iconst hX dX4_weigh_16 (pc' := 17) rfl ?_
    refine a_icmp_ge hX (by omega) (by omega) dX4_weigh_17 (pc' := 20) rfl (tgt := 21) (by decide) (fun c17 => ?_) (fun c17 => ?_)
    · refine a_iconst hX dX4_weigh_21 (pc' := 22) rfl ?_
      refine a_istore4 hX (by decide) rfl dX4_weigh_22 (pc' := 24) rfl ?_
      have L24 : ∀ (n : Nat) (i : Int) (Z1 : aZ), (0 ≤ i ∧ i ≤ 3) → aB Z1 → (∀ b : Int, 0 ≤ b ∧ b < i → Z1 ra b = rAt (vS Z 12) c b) → (∀ b : Int, 0 ≤ b ∧ b < i → Z1 rb b = rAl (vP Z) (vS Z 12) c b) → (∀ a : Nat, a ≠ ra → a ≠ rb → Z1 a = Z a) → (3 - i).toNat < n → AW X G 24 [some (.ref (G.1 12)), some (.int (aI c)), some (.ref (G.1 ra)), some (.ref (G.1 rb)), some (.int (aI i)), none, none] [] Z1 Y := by
        intro n
        induction n with
        | zero =>
          intro i Z1 hi hB h1 h2 hz hn
          omega
        | succ n ih =>
          intro i Z1 hi hB h1 h2 hz hn
          have hvP : vP Z1 = vP Z := vP_eq (fun a ha => hz a (by omega) (by omega))
          have hvS : vS Z1 12 = vS Z 12 := vS_frame (hz 3 (by omega) (by omega)) (hz 12 (by omega) (by omega)) (hz 13 (by omega) (by omega)) (hz 14 (by omega) (by omega)) (hz 15 (by omega) (by omega))
          have e13 : Z1 13 c = vS Z 12 c := by rw [hz 13 (by omega) (by omega), vS_yd (k := 12) (c := c) (by omega)]
          have hyr := hS.1 c (by omega)
          refine a_iload hX rfl dX4_weigh_24 (pc' := 26) rfl ?_
          refine a_iconst hX dX4_weigh_26 (pc' := 27) rfl ?_
          refine a_icmp_ge hX (by omega) (by omega) dX4_weigh_27 (pc' := 30) rfl (tgt := 117) (by decide) (fun c27 => ?_) (fun c27 => ?_)
          · refine a_vret hX dX4_weigh_117 (hE _ _ _ ?_)
            exact ⟨rfl, fun b hb9 => h1 b (by omega), fun b hb9 => h2 b (by omega), hz, hB, rfl⟩
          · refine a_iload hX rfl dX4_weigh_30 (pc' := 32) rfl ?_
            refine a_iconst hX dX4_weigh_32 (pc' := 33) rfl ?_
            have J51 : ∀ (q : Int), q = rStep i → AW X G 51 [some (.ref (G.1 12)), some (.int (aI c)), some (.ref (G.1 ra)), some (.ref (G.1 rb)), some (.int (aI i)), none, none] [.int (aI q)] Z1 Y := by
              intro q hq
              have hst : -1 ≤ q ∧ q ≤ 1 := by rw [hq]; unfold rStep; repeat' split <;> omega
              refine a_istore5 hX (by decide) rfl dX4_weigh_51 (pc' := 53) rfl ?_
              refine a_aload_n hX rfl rfl dX4_weigh_53 (pc' := 54) rfl ?_
              refine a_iload hX rfl dX4_weigh_54 (pc' := 56) rfl ?_
              refine a_aload_n hX rfl rfl dX4_weigh_56 (pc' := 57) rfl ?_
              refine a_getfR hX (r := 13) fl_X4_24 rfl (by decide) rfl dX4_weigh_57 (pc' := 60) rfl ?_
              refine a_iload_n hX rfl rfl dX4_weigh_60 (pc' := 61) rfl ?_
              refine a_iald hX rfl (by decide) (by decide) (by omega) hB dX4_weigh_61 (pc' := 62) rfl (fun hb => ?_)
              refine a_iload hX rfl dX4_weigh_62 (pc' := 64) rfl ?_
              refine a_iadd hX dX4_weigh_64 (pc' := 65) rfl ?_
              rw [e13]
              refine a_cS1i hX cs_X4_29 (c_ring (by omega)) ⟨by decide, by decide⟩ (Nat.le_of_ble_eq_true rfl) dX4_weigh_65 (pc' := 68) rfl ?_
              have q1 := Int.emod_nonneg (vS Z 12 c + q) (show (6 : Int) ≠ 0 by omega)
              have q2 := Int.emod_lt_of_pos (vS Z 12 c + q) (show (0 : Int) < 6 by omega)
              refine a_iastB hX hra (by omega) (by decide) (by omega) hB (by omega) dX4_weigh_68 (pc' := 69) rfl (fun hB => ?_)
              have h3 : ∀ b : Int, 0 ≤ b ∧ b < i + 1 → aU Z1 ra i ((vS Z 12 c + q) % 6) ra b = rAt (vS Z 12) c b := fun b hb9 => by
                rw [aU_at]
                by_cases e : b = i
                · subst e
                  rw [if_pos rfl, hq]
                  rfl
                · rw [if_neg e]
                  exact h1 b (by omega)
              generalize hZ2 : aU Z1 ra i ((vS Z 12 c + q) % 6) = Z2 at hB h3 ⊢
              have hz2 : ∀ a : Nat, a ≠ ra → Z2 a = Z1 a := fun a ha => by rw [← hZ2]; exact aU_row ha
              have hrb2 : ∀ b : Int, Z2 rb b = Z1 rb b := fun b => by rw [hz2 rb (fun e => hab.1 e.symm)]
              have hvP2 : vP Z2 = vP Z := by rw [← hvP]; exact vP_eq (fun a ha => hz2 a (by omega))
              have hvS2 : vS Z2 12 = vS Z 12 := by rw [← hvS]; exact vS_frame (hz2 3 (by omega)) (hz2 12 (by omega)) (hz2 13 (by omega)) (hz2 14 (by omega)) (hz2 15 (by omega))
              have hP2 : okP (vP Z2) := by rw [hvP2]; exact hP
              have hS2 : okS (vP Z2) (vS Z2 12) := by rw [hvP2, hvS2]; exact hS
              have hd2 : Z2 12 6 ≤ 5000 := by rw [hz2 12 (by omega), hz 12 (by omega) (by omega)]; exact hd
              have e39 : Z2 3 9 = Z 3 9 := by rw [hz2 3 (by omega), hz 3 (by omega) (by omega)]
              refine a_aload_n hX rfl rfl dX4_weigh_69 (pc' := 70) rfl ?_
              refine a_iload_n hX rfl rfl dX4_weigh_70 (pc' := 71) rfl ?_
              refine a_cV1i hX cv_X4_35 (c_has (by omega) sky12 hB hP2 hS2 hd2) rfl (by decide) ⟨by decide, by decide⟩ (Nat.le_of_ble_eq_true rfl) dX4_weigh_71 (pc' := 74) rfl ?_
              refine a_aload_n hX rfl rfl dX4_weigh_74 (pc' := 75) rfl ?_
              refine a_aload_n hX rfl rfl dX4_weigh_75 (pc' := 76) rfl ?_
              refine a_iload_n hX rfl rfl dX4_weigh_76 (pc' := 77) rfl ?_
              refine a_aload_n hX rfl rfl dX4_weigh_77 (pc' := 78) rfl ?_
              refine a_iload hX rfl dX4_weigh_78 (pc' := 80) rfl ?_
              refine a_iald hX hra (by omega) (by decide) (by omega) hB dX4_weigh_80 (pc' := 81) rfl (fun hb => ?_)
              have q3 := h3 i (by omega)
              have q4 : 0 ≤ rAt (vS Z 12) c i ∧ rAt (vS Z 12) c i ≤ 5 := by
                unfold rAt
                have q1 := Int.emod_nonneg (vS Z 12 c + rStep i) (show (6 : Int) ≠ 0 by omega)
                have q2 := Int.emod_lt_of_pos (vS Z 12 c + rStep i) (show (0 : Int) < 6 by omega)
                omega
              rw [h3 i (by omega)]
              refine a_cV2i hX cv_X4_38 (c_servable (by omega) (by omega) sky12 hB hP2 hS2 hd2) rfl (by decide) ⟨by decide, by decide⟩ (Nat.le_of_ble_eq_true rfl) dX4_weigh_81 (pc' := 84) rfl ?_
              have r3 := sServs_rng hP2 (vS Z2 12) c (rAt (vS Z 12) c i)
              refine a_cV1i hX cv_X4_42 (c_owedBy (by omega) sky12 hB hP2 hS2 hd2) rfl (by decide) ⟨by decide, by decide⟩ (Nat.le_of_ble_eq_true rfl) dX4_weigh_84 (pc' := 87) rfl ?_
              rw [hvP2, hvS2]
              have r1 := sHas_rng hS (c := c) (by omega)
              have r2 := sOwedBy_rng hP hS (sServs (vP Z) (vS Z 12) c (rAt (vS Z 12) c i))
              refine a_min hX cs_X4_45 (by omega) (by omega) (by decide) (Nat.le_of_ble_eq_true rfl) dX4_weigh_87 (pc' := 90) rfl ?_
              refine a_istore6 hX (by decide) rfl dX4_weigh_90 (pc' := 92) rfl ?_
              refine a_aload_n hX rfl rfl dX4_weigh_92 (pc' := 93) rfl ?_
              refine a_iload hX rfl dX4_weigh_93 (pc' := 95) rfl ?_
              refine a_iload hX rfl dX4_weigh_95 (pc' := 97) rfl ?_
              refine a_iconst hX dX4_weigh_97 (pc' := 98) rfl ?_
              refine a_icmp_ne hX (by omega) (by omega) dX4_weigh_98 (pc' := 101) rfl (tgt := 106) (by decide) (fun c98 => ?_) (fun c98 => ?_)
              · refine a_iload hX rfl dX4_weigh_106 (pc' := 108) rfl ?_
                refine a_iconst hX dX4_weigh_108 (pc' := 109) rfl ?_
                refine a_isub hX dX4_weigh_109 (pc' := 110) rfl ?_
                refine a_iastB hX hrb (by omega) (by decide) (by omega) hB (by omega) dX4_weigh_110 (pc' := 111) rfl (fun hB => ?_)
                refine a_iinc4 hX (by decide) rfl dX4_weigh_111 (pc' := 114) rfl ?_
                refine a_goto hX dX4_weigh_114 (tgt := 24) (by decide) ?_
                refine AW.le ?_ (ih (i + 1) _ (by omega) hB (fun b hb9 => ?_) (fun b hb9 => ?_) (fun a q1 q2 => by rw [aU_row q2, hz2 a q1]; exact hz a q1 q2) (by omega))
                · exact ⟨rfl, rfl, rfl, rfl, rfl, trivial⟩
                · rw [aU_ne hab.1]
                  exact h3 b (by omega)
                · rw [aU_at]
                  by_cases e : b = i
                  · subst e
                    rw [if_pos rfl]
                    unfold rAl
                    first | rw [if_pos (show b = 2 from c98)] | rw [if_neg (show ¬ b = 2 from c98)]
                    all_goals omega
                  · rw [if_neg e, hrb2]
                    exact h2 b (by omega)
              · refine a_iload hX rfl dX4_weigh_101 (pc' := 103) rfl ?_
                refine a_goto hX dX4_weigh_103 (tgt := 110) (by decide) ?_
                refine a_iastB hX hrb (by omega) (by decide) (by omega) hB (by omega) dX4_weigh_110 (pc' := 111) rfl (fun hB => ?_)
                refine a_iinc4 hX (by decide) rfl dX4_weigh_111 (pc' := 114) rfl ?_
                refine a_goto hX dX4_weigh_114 (tgt := 24) (by decide) ?_
                refine AW.le ?_ (ih (i + 1) _ (by omega) hB (fun b hb9 => ?_) (fun b hb9 => ?_) (fun a q1 q2 => by rw [aU_row q2, hz2 a q1]; exact hz a q1 q2) (by omega))
                · exact ⟨rfl, rfl, rfl, rfl, rfl, trivial⟩
                · rw [aU_ne hab.1]
                  exact h3 b (by omega)
                · rw [aU_at]
                  by_cases e : b = i
                  · subst e
                    rw [if_pos rfl]
                    unfold rAl
                    first | rw [if_pos (show b = 2 from c98)] | rw [if_neg (show ¬ b = 2 from c98)]
                    all_goals omega
                  · rw [if_neg e, hrb2]
                    exact h2 b (by omega)
            refine a_icmp_ne hX (by omega) (by omega) dX4_weigh_33 (pc' := 36) rfl (tgt := 40) (by decide) (fun c33 => ?_) (fun c33 => ?_)
            · refine a_iload hX rfl dX4_weigh_40 (pc' := 42) rfl ?_
              refine a_iconst hX dX4_weigh_42 (pc' := 43) rfl ?_
              refine a_icmp_ne hX (by omega) (by omega) dX4_weigh_43 (pc' := 46) rfl (tgt := 50) (by decide) (fun c43 => ?_) (fun c43 => ?_)
              · refine a_iconst hX dX4_weigh_50 (pc' := 51) rfl ?_
                exact J51 _ (by unfold rStep; first | rw [if_pos (show i = 2 by omega)] | rw [if_neg (show ¬ i = 2 by omega), if_pos (show i = 1 by omega)] | rw [if_neg (show ¬ i = 2 by omega), if_neg (show ¬ i = 1 by omega)])
              · refine a_iconst hX dX4_weigh_46 (pc' := 47) rfl ?_
                refine a_goto hX dX4_weigh_47 (tgt := 51) (by decide) ?_
                exact J51 _ (by unfold rStep; first | rw [if_pos (show i = 2 by omega)] | rw [if_neg (show ¬ i = 2 by omega), if_pos (show i = 1 by omega)] | rw [if_neg (show ¬ i = 2 by omega), if_neg (show ¬ i = 1 by omega)])
            · refine a_iconst hX dX4_weigh_36 (pc' := 37) rfl ?_
              refine a_goto hX dX4_weigh_37 (tgt := 51) (by decide) ?_
              exact J51 _ (by unfold rStep; first | rw [if_pos (show i = 2 by omega)] | rw [if_neg (show ¬ i = 2 by omega), if_pos (show i = 1 by omega)] | rw [if_neg (show ¬ i = 2 by omega), if_neg (show ¬ i = 1 by omega)])
      exact L24 4 0 Z (by omega) hB (fun b hb => by omega) (fun b hb => by omega) (fun _ _ _ => rfl) (by omega)
    · omega

/-- two clouds: what either has where the other is; whether neither has more by another choice alone -/
def rAp (f g : Int → Int) (a b : Int) : Int := if f a = g b then 0 else 2
def rOkN (f g u v : Int → Int) (a b : Int) : Nat → Bool
  | 0 => true
  | n + 1 => rOkN f g u v a b n && decide (u n + rAp f g n b ≤ u a + rAp f g a b ∧ v n + rAp f g a n ≤ v b + rAp f g a b)
def rOk (f g u v : Int → Int) (a b : Int) : Bool := rOkN f g u v a b 3
theorem rOkN_f {f g u v : Int → Int} {a b : Int} {n : Nat} (h : rOkN f g u v a b n = false) : ∀ m : Nat, n ≤ m → rOkN f g u v a b m = false := by
  intro m hm
  obtain ⟨d, rfl⟩ := Nat.exists_eq_add_of_le hm
  induction d with
  | zero => exact h
  | succ d ih =>
    show (rOkN f g u v a b (n + d) && _) = false
    rw [ih (by omega), Bool.false_and]
def rCount (r : Int → Int → Bool) : Nat → Int := aSum (fun k => aTr (r (k / 3) (k % 3)))
def rFirst (r : Int → Int → Bool) : Nat → Int
  | 0 => -9
  | n + 1 => if rFirst r n = -9 then (if r ((n : Int) / 3) ((n : Int) % 3) = true then 10 * ((n : Int) / 3) + (n : Int) % 3 else -9) else rFirst r n
theorem rFirst_none {r : Int → Int → Bool} : ∀ n : Nat, (∀ k : Int, 0 ≤ k ∧ k < n → r (k / 3) (k % 3) = false) → rFirst r n = -9
  | 0, _ => rfl
  | n + 1, h => by
    show (if rFirst r n = -9 then _ else _) = _
    rw [if_pos (rFirst_none n (fun k hk => h k (by omega))), if_neg (by rw [h n (by omega)]; decide)]
theorem rFirst_at {r : Int → Int → Bool} {m : Nat} (h : ∀ k : Int, 0 ≤ k ∧ k < m → r (k / 3) (k % 3) = false) (hm : r ((m : Int) / 3) ((m : Int) % 3) = true) : ∀ n : Nat, m < n → rFirst r n = 10 * ((m : Int) / 3) + (m : Int) % 3 := by
  intro n hn
  obtain ⟨d, rfl⟩ := Nat.exists_eq_add_of_le hn
  induction d with
  | zero =>
    show (if rFirst r m = -9 then _ else _) = _
    rw [if_pos (rFirst_none m h), if_pos hm]
  | succ d ih =>
    show (if rFirst r (m + 1 + d) = -9 then _ else rFirst r (m + 1 + d)) = _
    rw [ih (by omega), if_neg (by omega)]

set_option maxHeartbeats 4000000 in
set_option maxRecDepth 100000 in
theorem c_apart {G : aG} {Z : aZ} {Y : aY} {a b : Int} (ha : 0 ≤ a ∧ a < 3) (hb0 : 0 ≤ b ∧ b < 3) (hB : aB Z) : aSi G yX4_apart cX4_apart 3 (some .int) 0 0 [.ref (G.1 51), .int (aI a), .int (aI b)] Z Y (rAp (Z 52) (Z 53) a b) := by
  refine aS.of (own := RX4) (by decide +kernel) rfl 0 (Nat.le_of_ble_eq_true rfl) (fun X hX hE => ?_)
  show AW X G 0 [some (.ref (G.1 51)), some (.int (aI a)), some (.int (aI b))] [] Z Y
  refine a_aload_n hX rfl rfl dX4_apart_0 (pc' := 1) rfl ?_
  refine a_getfR hX (r := 52) fl_X4_9 rfl (by decide) rfl dX4_apart_1 (pc' := 4) rfl ?_
  refine a_iload_n hX rfl rfl dX4_apart_4 (pc' := 5) rfl ?_
  refine a_iald hX rfl (by decide) (by decide) (by omega) hB dX4_apart_5 (pc' := 6) rfl (fun hb => ?_)
  refine a_aload_n hX rfl rfl dX4_apart_6 (pc' := 7) rfl ?_
  refine a_getfR hX (r := 53) fl_X4_15 rfl (by decide) rfl dX4_apart_7 (pc' := 10) rfl ?_
  refine a_iload_n hX rfl rfl dX4_apart_10 (pc' := 11) rfl ?_
  refine a_iald hX rfl (by decide) (by decide) (by omega) hB dX4_apart_11 (pc' := 12) rfl (fun hb => ?_)
  refine a_icmp_eq hX (by omega) (by omega) dX4_apart_12 (pc' := 15) rfl (tgt := 19) (by decide) (fun c12 => ?_) (fun c12 => ?_)
  · refine a_iconst hX dX4_apart_19 (pc' := 20) rfl ?_
    refine a_iret hX dX4_apart_20 (hE _ _ _ ?_)
    refine ⟨aLf ?_, rfl, rfl⟩
    unfold rAp
    first | rw [if_pos (by omega)] | rw [if_neg (by omega)]
  · refine a_iconst hX dX4_apart_15 (pc' := 16) rfl ?_
    refine a_goto hX dX4_apart_16 (tgt := 20) (by decide) ?_
    refine a_iret hX dX4_apart_20 (hE _ _ _ ?_)
    refine ⟨aLf ?_, rfl, rfl⟩
    unfold rAp
    first | rw [if_pos (by omega)] | rw [if_neg (by omega)]

theorem rAp_rng (f g : Int → Int) (a b : Int) : 0 ≤ rAp f g a b ∧ rAp f g a b ≤ 2 := by unfold rAp; split <;> omega

set_option maxHeartbeats 4000000 in
set_option maxRecDepth 100000 in
theorem c_rest {G : aG} {Z : aZ} {Y : aY} {a b : Int} (ha : 0 ≤ a ∧ a < 3) (hb0 : 0 ≤ b ∧ b < 3) (hB : aB Z) : aSi G yX4_rest cX4_rest 6 (some .boolean) 1 22 [.ref (G.1 51), .int (aI a), .int (aI b)] Z Y (aTr (rOk (Z 52) (Z 53) (Z 54) (Z 55) a b)) := by
  refine aS.of (own := RX4) (by decide +kernel) rfl 3 (Nat.le_of_ble_eq_true rfl) (fun X hX hE => ?_)
  show AW X G 0 [some (.ref (G.1 51)), some (.int (aI a)), some (.int (aI b)), none, none, none] [] Z Y
  refine a_aload_n hX rfl rfl dX4_rest_0 (pc' := 1) rfl ?_
  refine a_getfR hX (r := 54) fl_X4_18 rfl (by decide) rfl dX4_rest_1 (pc' := 4) rfl ?_
  refine a_iload_n hX rfl rfl dX4_rest_4 (pc' := 5) rfl ?_
  refine a_iald hX rfl (by decide) (by decide) (by first | omega | (have s1 := rAp_rng (Z 52) (Z 53) a b; have s2 := rAp_rng (Z 52) (Z 53) i b; have s3 := rAp_rng (Z 52) (Z 53) a i; have s4 := hB 54 a; have s5 := hB 55 b; have s6 := hB 54 i; have s7 := hB 55 i; omega)) hB dX4_rest_5 (pc' := 6) rfl (fun hb => ?_)
  refine a_aload_n hX rfl rfl dX4_rest_6 (pc' := 7) rfl ?_
  refine a_iload_n hX rfl rfl dX4_rest_7 (pc' := 8) rfl ?_
  refine a_iload_n hX rfl rfl dX4_rest_8 (pc' := 9) rfl ?_
  refine a_cV2i hX cv_X4_50 (c_apart (by omega) (by omega) hB) rfl (by decide) ⟨by decide, by decide⟩ (Nat.le_of_ble_eq_true rfl) dX4_rest_9 (pc' := 12) rfl ?_
  refine a_iadd hX dX4_rest_12 (pc' := 13) rfl ?_
  refine a_istore3 hX rfl (by decide) rfl dX4_rest_13 (pc' := 14) rfl ?_
  refine a_aload_n hX rfl rfl dX4_rest_14 (pc' := 15) rfl ?_
  refine a_getfR hX (r := 55) fl_X4_21 rfl (by decide) rfl dX4_rest_15 (pc' := 18) rfl ?_
  refine a_iload_n hX rfl rfl dX4_rest_18 (pc' := 19) rfl ?_
  refine a_iald hX rfl (by decide) (by decide) (by first | omega | (have s1 := rAp_rng (Z 52) (Z 53) a b; have s2 := rAp_rng (Z 52) (Z 53) i b; have s3 := rAp_rng (Z 52) (Z 53) a i; have s4 := hB 54 a; have s5 := hB 55 b; have s6 := hB 54 i; have s7 := hB 55 i; omega)) hB dX4_rest_19 (pc' := 20) rfl (fun hb => ?_)
  refine a_aload_n hX rfl rfl dX4_rest_20 (pc' := 21) rfl ?_
  refine a_iload_n hX rfl rfl dX4_rest_21 (pc' := 22) rfl ?_
  refine a_iload_n hX rfl rfl dX4_rest_22 (pc' := 23) rfl ?_
  refine a_cV2i hX cv_X4_50 (c_apart (by omega) (by omega) hB) rfl (by decide) ⟨by decide, by decide⟩ (Nat.le_of_ble_eq_true rfl) dX4_rest_23 (pc' := 26) rfl ?_
  refine a_iadd hX dX4_rest_26 (pc' := 27) rfl ?_
  refine a_istore4 hX (by decide) rfl dX4_rest_27 (pc' := 29) rfl ?_
  refine a_iconst hX dX4_rest_29 (pc' := 30) rfl ?_
  refine a_istore5 hX (by decide) rfl dX4_rest_30 (pc' := 32) rfl ?_
  have L32 : ∀ (n : Nat) (i : Int), (0 ≤ i ∧ i ≤ 3) → rOkN (Z 52) (Z 53) (Z 54) (Z 55) a b i.toNat = true → (3 - i).toNat < n → AW X G 32 [some (.ref (G.1 51)), some (.int (aI a)), some (.int (aI b)), some (.int (aI (Z 54 a + rAp (Z 52) (Z 53) a b))), some (.int (aI (Z 55 b + rAp (Z 52) (Z 53) a b))), some (.int (aI i))] [] Z Y := by
    intro n
    induction n with
    | zero =>
      intro i hi hs hn
      omega
    | succ n ih =>
      intro i hi hs hn
      have hs2 : rOkN (Z 52) (Z 53) (Z 54) (Z 55) a b (i.toNat + 1) = (rOkN (Z 52) (Z 53) (Z 54) (Z 55) a b i.toNat && decide (Z 54 (i.toNat : Int) + rAp (Z 52) (Z 53) (i.toNat : Int) b ≤ Z 54 a + rAp (Z 52) (Z 53) a b ∧ Z 55 (i.toNat : Int) + rAp (Z 52) (Z 53) a (i.toNat : Int) ≤ Z 55 b + rAp (Z 52) (Z 53) a b)) := rfl
      rw [Int.toNat_of_nonneg hi.1, hs, Bool.true_and] at hs2
      refine a_iload hX rfl dX4_rest_32 (pc' := 34) rfl ?_
      refine a_iconst hX dX4_rest_34 (pc' := 35) rfl ?_
      refine a_icmp_ge hX (by first | omega | (have s1 := rAp_rng (Z 52) (Z 53) a b; have s2 := rAp_rng (Z 52) (Z 53) i b; have s3 := rAp_rng (Z 52) (Z 53) a i; have s4 := hB 54 a; have s5 := hB 55 b; have s6 := hB 54 i; have s7 := hB 55 i; omega)) (by first | omega | (have s1 := rAp_rng (Z 52) (Z 53) a b; have s2 := rAp_rng (Z 52) (Z 53) i b; have s3 := rAp_rng (Z 52) (Z 53) a i; have s4 := hB 54 a; have s5 := hB 55 b; have s6 := hB 54 i; have s7 := hB 55 i; omega)) dX4_rest_35 (pc' := 38) rfl (tgt := 85) (by decide) (fun c35 => ?_) (fun c35 => ?_)
      · refine a_iconst hX dX4_rest_85 (pc' := 86) rfl ?_
        refine a_zret hX (by omega) dX4_rest_86 (hE _ _ _ ?_)
        refine ⟨aLf ?_, rfl, rfl⟩
        unfold rOk
        rw [show (3 : Nat) = i.toNat by omega]
        exact (aTr_true hs).symm
      · refine a_aload_n hX rfl rfl dX4_rest_38 (pc' := 39) rfl ?_
        refine a_getfR hX (r := 54) fl_X4_18 rfl (by decide) rfl dX4_rest_39 (pc' := 42) rfl ?_
        refine a_iload hX rfl dX4_rest_42 (pc' := 44) rfl ?_
        refine a_iald hX rfl (by decide) (by decide) (by first | omega | (have s1 := rAp_rng (Z 52) (Z 53) a b; have s2 := rAp_rng (Z 52) (Z 53) i b; have s3 := rAp_rng (Z 52) (Z 53) a i; have s4 := hB 54 a; have s5 := hB 55 b; have s6 := hB 54 i; have s7 := hB 55 i; omega)) hB dX4_rest_44 (pc' := 45) rfl (fun hb => ?_)
        refine a_aload_n hX rfl rfl dX4_rest_45 (pc' := 46) rfl ?_
        refine a_iload hX rfl dX4_rest_46 (pc' := 48) rfl ?_
        refine a_iload_n hX rfl rfl dX4_rest_48 (pc' := 49) rfl ?_
        refine a_cV2i hX cv_X4_50 (c_apart (by omega) (by omega) hB) rfl (by decide) ⟨by decide, by decide⟩ (Nat.le_of_ble_eq_true rfl) dX4_rest_49 (pc' := 52) rfl ?_
        refine a_iadd hX dX4_rest_52 (pc' := 53) rfl ?_
        refine a_iload_n hX rfl rfl dX4_rest_53 (pc' := 54) rfl ?_
        refine a_icmp_gt hX (by first | omega | (have s1 := rAp_rng (Z 52) (Z 53) a b; have s2 := rAp_rng (Z 52) (Z 53) i b; have s3 := rAp_rng (Z 52) (Z 53) a i; have s4 := hB 54 a; have s5 := hB 55 b; have s6 := hB 54 i; have s7 := hB 55 i; omega)) (by first | omega | (have s1 := rAp_rng (Z 52) (Z 53) a b; have s2 := rAp_rng (Z 52) (Z 53) i b; have s3 := rAp_rng (Z 52) (Z 53) a i; have s4 := hB 54 a; have s5 := hB 55 b; have s6 := hB 54 i; have s7 := hB 55 i; omega)) dX4_rest_54 (pc' := 57) rfl (tgt := 77) (by decide) (fun c54 => ?_) (fun c54 => ?_)
        · refine a_iconst hX dX4_rest_77 (pc' := 78) rfl ?_
          refine a_zret hX (by omega) dX4_rest_78 (hE _ _ _ ?_)
          refine ⟨aLf ?_, rfl, rfl⟩
          exact (aTr_false (rOkN_f (n := i.toNat + 1) (by rw [hs2]; exact decide_eq_false (by omega)) 3 (by omega))).symm
        · refine a_aload_n hX rfl rfl dX4_rest_57 (pc' := 58) rfl ?_
          refine a_getfR hX (r := 55) fl_X4_21 rfl (by decide) rfl dX4_rest_58 (pc' := 61) rfl ?_
          refine a_iload hX rfl dX4_rest_61 (pc' := 63) rfl ?_
          refine a_iald hX rfl (by decide) (by decide) (by first | omega | (have s1 := rAp_rng (Z 52) (Z 53) a b; have s2 := rAp_rng (Z 52) (Z 53) i b; have s3 := rAp_rng (Z 52) (Z 53) a i; have s4 := hB 54 a; have s5 := hB 55 b; have s6 := hB 54 i; have s7 := hB 55 i; omega)) hB dX4_rest_63 (pc' := 64) rfl (fun hb => ?_)
          refine a_aload_n hX rfl rfl dX4_rest_64 (pc' := 65) rfl ?_
          refine a_iload_n hX rfl rfl dX4_rest_65 (pc' := 66) rfl ?_
          refine a_iload hX rfl dX4_rest_66 (pc' := 68) rfl ?_
          refine a_cV2i hX cv_X4_50 (c_apart (by omega) (by omega) hB) rfl (by decide) ⟨by decide, by decide⟩ (Nat.le_of_ble_eq_true rfl) dX4_rest_68 (pc' := 71) rfl ?_
          refine a_iadd hX dX4_rest_71 (pc' := 72) rfl ?_
          refine a_iload hX rfl dX4_rest_72 (pc' := 74) rfl ?_
          refine a_icmp_le hX (by first | omega | (have s1 := rAp_rng (Z 52) (Z 53) a b; have s2 := rAp_rng (Z 52) (Z 53) i b; have s3 := rAp_rng (Z 52) (Z 53) a i; have s4 := hB 54 a; have s5 := hB 55 b; have s6 := hB 54 i; have s7 := hB 55 i; omega)) (by first | omega | (have s1 := rAp_rng (Z 52) (Z 53) a b; have s2 := rAp_rng (Z 52) (Z 53) i b; have s3 := rAp_rng (Z 52) (Z 53) a i; have s4 := hB 54 a; have s5 := hB 55 b; have s6 := hB 54 i; have s7 := hB 55 i; omega)) dX4_rest_74 (pc' := 77) rfl (tgt := 79) (by decide) (fun c74 => ?_) (fun c74 => ?_)
          · refine a_iinc5 hX (by decide) rfl dX4_rest_79 (pc' := 82) rfl ?_
            refine a_goto hX dX4_rest_82 (tgt := 32) (by decide) ?_
            exact ih (i + 1) (by omega) (by rw [show (i + 1).toNat = i.toNat + 1 by omega, hs2]; exact decide_eq_true (by omega)) (by omega)
          · refine a_iconst hX dX4_rest_77 (pc' := 78) rfl ?_
            refine a_zret hX (by omega) dX4_rest_78 (hE _ _ _ ?_)
            refine ⟨aLf ?_, rfl, rfl⟩
            exact (aTr_false (rOkN_f (n := i.toNat + 1) (by rw [hs2]; exact decide_eq_false (by omega)) 3 (by omega))).symm
  exact L32 4 0 (by omega) rfl (by omega)

set_option maxHeartbeats 4000000 in
set_option maxRecDepth 100000 in
theorem c_restingPairs {G : aG} {Z : aZ} {Y : aY} (hB : aB Z) : aSi G yX4_restingPairs cX4_restingPairs 4 (some .int) 2 47 [.ref (G.1 51)] Z Y (rCount (rOk (Z 52) (Z 53) (Z 54) (Z 55)) 9) := by
  refine aS.of (own := RX4) (by decide +kernel) rfl 3 (Nat.le_of_ble_eq_true rfl) (fun X hX hE => ?_)
  show AW X G 0 [some (.ref (G.1 51)), none, none, none] [] Z Y
  refine a_iconst hX dX4_restingPairs_0 (pc' := 1) rfl ?_
  refine a_istore1 hX rfl (by decide) rfl dX4_restingPairs_1 (pc' := 2) rfl ?_
  refine a_iconst hX dX4_restingPairs_2 (pc' := 3) rfl ?_
  refine a_istore2 hX rfl (by decide) rfl dX4_restingPairs_3 (pc' := 4) rfl ?_
  have L4 : ∀ (n : Nat) (a : Int), (0 ≤ a ∧ a ≤ 3) → (3 - a).toNat < n → AW X G 4 [some (.ref (G.1 51)), some (.int (aI (rCount (rOk (Z 52) (Z 53) (Z 54) (Z 55)) (3 * a).toNat))), some (.int (aI a)), none] [] Z Y := by
    intro n
    induction n with
    | zero =>
      intro a ha hn
      omega
    | succ n ih =>
      intro a ha hn
      refine a_iload_n hX rfl rfl dX4_restingPairs_4 (pc' := 5) rfl ?_
      refine a_iconst hX dX4_restingPairs_5 (pc' := 6) rfl ?_
      refine a_icmp_ge hX (by omega) (by omega) dX4_restingPairs_6 (pc' := 9) rfl (tgt := 45) (by decide) (fun c6 => ?_) (fun c6 => ?_)
      · refine a_iload_n hX rfl rfl dX4_restingPairs_45 (pc' := 46) rfl ?_
        refine a_iret hX dX4_restingPairs_46 (hE _ _ _ ?_)
        refine ⟨aLf ?_, rfl, rfl⟩
        rw [show a = 3 by omega]
        rfl
      · refine a_iconst hX dX4_restingPairs_9 (pc' := 10) rfl ?_
        refine a_istore3 hX rfl (by decide) rfl dX4_restingPairs_10 (pc' := 11) rfl ?_
        have L11 : ∀ (m : Nat) (b : Int), (0 ≤ b ∧ b ≤ 3) → (3 - b).toNat < m → AW X G 11 [some (.ref (G.1 51)), some (.int (aI (rCount (rOk (Z 52) (Z 53) (Z 54) (Z 55)) (3 * a + b).toNat))), some (.int (aI a)), some (.int (aI b))] [] Z Y := by
          intro m
          induction m with
          | zero =>
            intro b hb0 hm
            omega
          | succ m ih2 =>
            intro b hb0 hm
            have e0 := aSum_s (f := fun k => aTr ((rOk (Z 52) (Z 53) (Z 54) (Z 55)) (k / 3) (k % 3))) (i := 3 * a + b) (by omega)
            refine a_iload_n hX rfl rfl dX4_restingPairs_11 (pc' := 12) rfl ?_
            refine a_iconst hX dX4_restingPairs_12 (pc' := 13) rfl ?_
            refine a_icmp_ge hX (by omega) (by omega) dX4_restingPairs_13 (pc' := 16) rfl (tgt := 39) (by decide) (fun c13 => ?_) (fun c13 => ?_)
            · refine a_iinc2 hX (by decide) rfl dX4_restingPairs_39 (pc' := 42) rfl ?_
              refine a_goto hX dX4_restingPairs_42 (tgt := 4) (by decide) ?_
              refine AW.le ?_ (ih (a + 1) (by omega) (by omega))
              rw [show (3 * (a + 1)).toNat = (3 * a + b).toNat by omega]
              exact ⟨rfl, rfl, rfl, trivial⟩
            · refine a_iload_n hX rfl rfl dX4_restingPairs_16 (pc' := 17) rfl ?_
              refine a_aload_n hX rfl rfl dX4_restingPairs_17 (pc' := 18) rfl ?_
              refine a_iload_n hX rfl rfl dX4_restingPairs_18 (pc' := 19) rfl ?_
              refine a_iload_n hX rfl rfl dX4_restingPairs_19 (pc' := 20) rfl ?_
              refine a_cV2i hX cv_X4_53 (c_rest (by omega) (by omega) hB) rfl (by decide) ⟨by decide, by decide⟩ (Nat.le_of_ble_eq_true rfl) dX4_restingPairs_20 (pc' := 23) rfl ?_
              refine a_ifb_eq hX dX4_restingPairs_23 (pc' := 26) rfl (tgt := 30) (by decide) (fun c23 => ?_) (fun c23 => ?_)
              · refine a_iconst hX dX4_restingPairs_30 (pc' := 31) rfl ?_
                refine a_iadd hX dX4_restingPairs_31 (pc' := 32) rfl ?_
                refine a_istore1 hX rfl (by decide) rfl dX4_restingPairs_32 (pc' := 33) rfl ?_
                refine a_iinc3 hX (by decide) rfl dX4_restingPairs_33 (pc' := 36) rfl ?_
                refine a_goto hX dX4_restingPairs_36 (tgt := 11) (by decide) ?_
                rw [show (3 * a + b) / 3 = a by omega, show (3 * a + b) % 3 = b by omega] at e0
                first | rw [aTr_true c23] at e0 | rw [aTr_false c23] at e0
                have L := ih2 (b + 1) (by omega) (by omega)
                rw [show 3 * a + (b + 1) = 3 * a + b + 1 by omega] at L
                unfold rCount at L ⊢
                rw [e0] at L
                exact L
              · refine a_iconst hX dX4_restingPairs_26 (pc' := 27) rfl ?_
                refine a_goto hX dX4_restingPairs_27 (tgt := 31) (by decide) ?_
                refine a_iadd hX dX4_restingPairs_31 (pc' := 32) rfl ?_
                refine a_istore1 hX rfl (by decide) rfl dX4_restingPairs_32 (pc' := 33) rfl ?_
                refine a_iinc3 hX (by decide) rfl dX4_restingPairs_33 (pc' := 36) rfl ?_
                refine a_goto hX dX4_restingPairs_36 (tgt := 11) (by decide) ?_
                rw [show (3 * a + b) / 3 = a by omega, show (3 * a + b) % 3 = b by omega] at e0
                first | rw [aTr_true c23] at e0 | rw [aTr_false c23] at e0
                have L := ih2 (b + 1) (by omega) (by omega)
                rw [show 3 * a + (b + 1) = 3 * a + b + 1 by omega] at L
                unfold rCount at L ⊢
                rw [e0] at L
                exact L
        have L11 := L11 4 0 (by omega) (by omega)
        rw [show 3 * a + 0 = 3 * a by omega] at L11
        exact L11
  exact L4 4 0 (by omega) (by omega)

set_option maxHeartbeats 4000000 in
set_option maxRecDepth 100000 in
theorem c_firstResting {G : aG} {Z : aZ} {Y : aY} (hB : aB Z) : aSi G yX4_firstResting cX4_firstResting 3 (some .int) 2 47 [.ref (G.1 51)] Z Y (rFirst (rOk (Z 52) (Z 53) (Z 54) (Z 55)) 9) := by
  refine aS.of (own := RX4) (by decide +kernel) rfl 2 (Nat.le_of_ble_eq_true rfl) (fun X hX hE => ?_)
  show AW X G 0 [some (.ref (G.1 51)), none, none] [] Z Y
  refine a_iconst hX dX4_firstResting_0 (pc' := 1) rfl ?_
  refine a_istore1 hX rfl (by decide) rfl dX4_firstResting_1 (pc' := 2) rfl ?_
  have L2 : ∀ (n : Nat) (a : Int), (0 ≤ a ∧ a ≤ 3) → (∀ k : Int, 0 ≤ k ∧ k < 3 * a → (rOk (Z 52) (Z 53) (Z 54) (Z 55)) (k / 3) (k % 3) = false) → (3 - a).toNat < n → AW X G 2 [some (.ref (G.1 51)), some (.int (aI a)), none] [] Z Y := by
    intro n
    induction n with
    | zero =>
      intro a ha hf hn
      omega
    | succ n ih =>
      intro a ha hf hn
      refine a_iload_n hX rfl rfl dX4_firstResting_2 (pc' := 3) rfl ?_
      refine a_iconst hX dX4_firstResting_3 (pc' := 4) rfl ?_
      refine a_icmp_ge hX (by omega) (by omega) dX4_firstResting_4 (pc' := 7) rfl (tgt := 42) (by decide) (fun c4 => ?_) (fun c4 => ?_)
      · refine a_bipush hX rfl dX4_firstResting_42 (pc' := 44) rfl ?_
        refine a_iret hX dX4_firstResting_44 (hE _ _ _ ?_)
        refine ⟨aLf ?_, rfl, rfl⟩
        exact (rFirst_none 9 (fun k hk => hf k (by omega))).symm
      · refine a_iconst hX dX4_firstResting_7 (pc' := 8) rfl ?_
        refine a_istore2 hX rfl (by decide) rfl dX4_firstResting_8 (pc' := 9) rfl ?_
        have L9 : ∀ (m : Nat) (b : Int), (0 ≤ b ∧ b ≤ 3) → (∀ k : Int, 0 ≤ k ∧ k < 3 * a + b → (rOk (Z 52) (Z 53) (Z 54) (Z 55)) (k / 3) (k % 3) = false) → (3 - b).toNat < m → AW X G 9 [some (.ref (G.1 51)), some (.int (aI a)), some (.int (aI b))] [] Z Y := by
          intro m
          induction m with
          | zero =>
            intro b hb0 hg hm
            omega
          | succ m ih2 =>
            intro b hb0 hg hm
            refine a_iload_n hX rfl rfl dX4_firstResting_9 (pc' := 10) rfl ?_
            refine a_iconst hX dX4_firstResting_10 (pc' := 11) rfl ?_
            refine a_icmp_ge hX (by omega) (by omega) dX4_firstResting_11 (pc' := 14) rfl (tgt := 36) (by decide) (fun c11 => ?_) (fun c11 => ?_)
            · refine a_iinc1 hX (by decide) rfl dX4_firstResting_36 (pc' := 39) rfl ?_
              refine a_goto hX dX4_firstResting_39 (tgt := 2) (by decide) ?_
              refine AW.le ?_ (ih (a + 1) (by omega) (fun k hk => hg k (by omega)) (by omega))
              exact ⟨rfl, rfl, trivial⟩
            · refine a_aload_n hX rfl rfl dX4_firstResting_14 (pc' := 15) rfl ?_
              refine a_iload_n hX rfl rfl dX4_firstResting_15 (pc' := 16) rfl ?_
              refine a_iload_n hX rfl rfl dX4_firstResting_16 (pc' := 17) rfl ?_
              refine a_cV2i hX cv_X4_53 (c_rest (by omega) (by omega) hB) rfl (by decide) ⟨by decide, by decide⟩ (Nat.le_of_ble_eq_true rfl) dX4_firstResting_17 (pc' := 20) rfl ?_
              refine a_ifb_eq hX dX4_firstResting_20 (pc' := 23) rfl (tgt := 30) (by decide) (fun c20 => ?_) (fun c20 => ?_)
              · refine a_iinc2 hX (by decide) rfl dX4_firstResting_30 (pc' := 33) rfl ?_
                refine a_goto hX dX4_firstResting_33 (tgt := 9) (by decide) ?_
                refine ih2 (b + 1) (by omega) (fun k hk => ?_) (by omega)
                by_cases e : k < 3 * a + b
                · exact hg k (by omega)
                · rw [show k / 3 = a by omega, show k % 3 = b by omega]
                  exact c20
              · refine a_bipush hX rfl dX4_firstResting_23 (pc' := 25) rfl ?_
                refine a_iload_n hX rfl rfl dX4_firstResting_25 (pc' := 26) rfl ?_
                refine a_imul hX dX4_firstResting_26 (pc' := 27) rfl ?_
                refine a_iload_n hX rfl rfl dX4_firstResting_27 (pc' := 28) rfl ?_
                refine a_iadd hX dX4_firstResting_28 (pc' := 29) rfl ?_
                refine a_iret hX dX4_firstResting_29 (hE _ _ _ ?_)
                refine ⟨aLf ?_, rfl, rfl⟩
                have q := rFirst_at (r := (rOk (Z 52) (Z 53) (Z 54) (Z 55))) (m := (3 * a + b).toNat) (fun k hk => hg k (by omega)) (by rw [Int.toNat_of_nonneg (by omega), show (3 * a + b) / 3 = a by omega, show (3 * a + b) % 3 = b by omega]; exact c20) 9 (by omega)
                rw [q]
                omega
        exact L9 4 0 (by omega) (fun k hk => hf k (by omega)) (by omega)
  exact L2 4 0 (by omega) (fun k hk => by omega) (by omega)

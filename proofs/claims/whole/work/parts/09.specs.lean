/-! THE PURE PICTURES. A pass P: row 0: how many winds (0), clouds (1), papers (2); row 1 winds, 4 clouds' kinds, 5 papers' yards, 6 due days, 7 papers' kinds, 8 flakes promised. A sky S: sixteen numbers: 0 to 3 yards, 4 to 7 flakes, 8 to 12 filled, 13 torn, 14 umbrellas, 15 the day. -/
abbrev aP : Type := Nat → Int → Int
abbrev aSk : Type := Int → Int
def vP (Z : aZ) : aP
  | 0 => fun j => if j = 0 then Z 3 8 else if j = 1 then Z 3 9 else Z 3 10
  | 1 => Z 4
  | 4 => Z 7
  | 5 => Z 8
  | 6 => Z 9
  | 7 => Z 10
  | 8 => Z 11
  | _ => fun _ => 0
def vQ (Z : aZ) : aP
  | 0 => fun j => if j = 0 then Z 62 0 else if j = 1 then Z 62 1 else Z 62 2
  | 1 => Z 63
  | 4 => Z 64
  | 5 => Z 65
  | 6 => Z 66
  | 7 => Z 68
  | 8 => Z 67
  | _ => fun _ => 0
def vS (Z : aZ) (k : Nat) : aSk := fun j => if j < 0 then 0 else if j < 4 then (if j < Z 3 9 then Z (k + 1) j else 0) else if j < 8 then (if j - 4 < Z 3 9 then Z (k + 2) (j - 4) else 0) else if j < 13 then Z (k + 3) (j - 8) else if j = 13 then Z k 4 else if j = 14 then Z k 5 else if j = 15 then Z k 6 else 0
def vR (Z : aZ) (l : Int) : aSk := fun j => if j < 0 then 0 else if j < 4 then (if j < Z 62 1 then Z 69 (16 * l + j) else 0) else if j < 8 then (if j - 4 < Z 62 1 then Z 69 (16 * l + j) else 0) else if j < 16 then Z 69 (16 * l + j) else 0
theorem vP_0 {Z : aZ} : vP Z 0 0 = Z 3 8 := by simp [vP]
theorem vP_1 {Z : aZ} : vP Z 0 1 = Z 3 9 := by simp [vP]
theorem vP_2 {Z : aZ} : vP Z 0 2 = Z 3 10 := by simp [vP]
theorem vP_w {Z : aZ} {j : Int} : vP Z 1 j = Z 4 j := rfl
theorem vP_k {Z : aZ} {j : Int} : vP Z 4 j = Z 7 j := rfl
theorem vP_y {Z : aZ} {j : Int} : vP Z 5 j = Z 8 j := rfl
theorem vP_d {Z : aZ} {j : Int} : vP Z 6 j = Z 9 j := rfl
theorem vP_pk {Z : aZ} {j : Int} : vP Z 7 j = Z 10 j := rfl
theorem vP_p {Z : aZ} {j : Int} : vP Z 8 j = Z 11 j := rfl
theorem vQ_0 {Z : aZ} : vQ Z 0 0 = Z 62 0 := by simp [vQ]
theorem vQ_1 {Z : aZ} : vQ Z 0 1 = Z 62 1 := by simp [vQ]
theorem vQ_2 {Z : aZ} : vQ Z 0 2 = Z 62 2 := by simp [vQ]
theorem vQ_w {Z : aZ} {j : Int} : vQ Z 1 j = Z 63 j := rfl
theorem vQ_k {Z : aZ} {j : Int} : vQ Z 4 j = Z 64 j := rfl
theorem vQ_y {Z : aZ} {j : Int} : vQ Z 5 j = Z 65 j := rfl
theorem vQ_d {Z : aZ} {j : Int} : vQ Z 6 j = Z 66 j := rfl
theorem vQ_pk {Z : aZ} {j : Int} : vQ Z 7 j = Z 68 j := rfl
theorem vQ_p {Z : aZ} {j : Int} : vQ Z 8 j = Z 67 j := rfl
theorem vS_yd {Z : aZ} {k : Nat} {c : Int} (h : 0 ≤ c ∧ c < 4 ∧ c < Z 3 9) : vS Z k c = Z (k + 1) c := by
  unfold vS; rw [if_neg (by omega), if_pos (by omega), if_pos (by omega)]
theorem vS_fl {Z : aZ} {k : Nat} {c : Int} (h : 0 ≤ c ∧ c < 4 ∧ c < Z 3 9) : vS Z k (4 + c) = Z (k + 2) c := by
  unfold vS; rw [if_neg (by omega), if_neg (by omega), if_pos (by omega), show 4 + c - 4 = c by omega, if_pos (by omega)]
theorem vS_fi {Z : aZ} {k : Nat} {p : Int} (h : 0 ≤ p ∧ p < 5) : vS Z k (8 + p) = Z (k + 3) p := by
  unfold vS; rw [if_neg (by omega), if_neg (by omega), if_neg (by omega), if_pos (by omega), show 8 + p - 8 = p by omega]
theorem vS_13 {Z : aZ} {k : Nat} : vS Z k 13 = Z k 4 := by simp [vS]
theorem vS_14 {Z : aZ} {k : Nat} : vS Z k 14 = Z k 5 := by simp [vS]
theorem vS_15 {Z : aZ} {k : Nat} : vS Z k 15 = Z k 6 := by simp [vS]
theorem vR_yd {Z : aZ} {l c : Int} (h : 0 ≤ c ∧ c < 4 ∧ c < Z 62 1) : vR Z l c = Z 69 (16 * l + c) := by
  unfold vR; rw [if_neg (by omega), if_pos (by omega), if_pos (by omega)]
theorem vR_fl {Z : aZ} {l c : Int} (h : 0 ≤ c ∧ c < 4 ∧ c < Z 62 1) : vR Z l (4 + c) = Z 69 (16 * l + (4 + c)) := by
  unfold vR; rw [if_neg (by omega), if_neg (by omega), if_pos (by omega), if_pos (by omega)]
theorem vR_hi {Z : aZ} {l j : Int} (h : 8 ≤ j ∧ j < 16) : vR Z l j = Z 69 (16 * l + j) := by
  unfold vR; rw [if_neg (by omega), if_neg (by omega), if_neg (by omega), if_pos (by omega)]
/-- the ranges of a pass, of a sky -/
def okP (P : aP) : Prop := (0 ≤ P 0 0 ∧ P 0 0 ≤ 4) ∧ (0 ≤ P 0 1 ∧ P 0 1 ≤ 4) ∧ (0 ≤ P 0 2 ∧ P 0 2 ≤ 5) ∧ (∀ j, 0 ≤ P 1 j ∧ P 1 j ≤ 2) ∧ (∀ j, 0 ≤ P 4 j ∧ P 4 j ≤ 3) ∧ (∀ j, 0 ≤ P 5 j ∧ P 5 j ≤ 5) ∧ (∀ j, 0 ≤ P 6 j ∧ P 6 j ≤ 9) ∧ (∀ j, 0 ≤ P 7 j ∧ P 7 j ≤ 3) ∧ ∀ j, 0 ≤ P 8 j ∧ P 8 j ≤ 9
def okS (P : aP) (S : aSk) : Prop := (∀ c, 0 ≤ c ∧ c < 4 → 0 ≤ S c ∧ S c ≤ 5) ∧ (∀ c, 0 ≤ c ∧ c < 4 → 0 ≤ S (4 + c) ∧ S (4 + c) ≤ 9) ∧ (∀ p, 0 ≤ p ∧ p < 5 → 0 ≤ S (8 + p) ∧ S (8 + p) ≤ P 8 p) ∧ (0 ≤ S 13 ∧ S 13 < 32) ∧ (0 ≤ S 14 ∧ S 14 ≤ 45 * S 15) ∧ 0 ≤ S 15
/-! winds -/
def pWind (P : aP) (d : Int) : Int := if P 0 0 = 0 then 0 else P 1 (d % P 0 0)
def pWay (b : Int) : Int := if b = 1 then 1 else if b = 2 then -1 else 0
def pPace (k : Int) : Int := if k = 2 then 0 else if k = 3 then 2 else 1
def pDrift (P : aP) (k d : Int) : Int := pWay (pWind P d) * pPace k
def pCarry (P : aP) (k y d : Int) : Nat → Int
  | 0 => y
  | n + 1 => (pCarry P k y d n + pDrift P k (d + n)) % 6
def pHasC (P : aP) (c : Int) : Bool := decide (0 ≤ c ∧ c < P 0 1)
def pHasP (P : aP) (p : Int) : Bool := decide (0 ≤ p ∧ p < P 0 2)
theorem pWind_rng {P : aP} (h : okP P) (d : Int) : 0 ≤ pWind P d ∧ pWind P d ≤ 2 := by
  unfold pWind
  split
  · omega
  · exact h.2.2.2.1 _
theorem pWay_rng (b : Int) : -1 ≤ pWay b ∧ pWay b ≤ 1 := by unfold pWay; repeat' split <;> omega
theorem pPace_rng (k : Int) : 0 ≤ pPace k ∧ pPace k ≤ 2 := by unfold pPace; repeat' split <;> omega
theorem pDrift_rng (P : aP) (k d : Int) : -2 ≤ pDrift P k d ∧ pDrift P k d ≤ 2 := by
  unfold pDrift pWay pPace
  repeat' split
  all_goals omega
theorem pCarry_rng {P : aP} {k y d : Int} (hy : 0 ≤ y ∧ y ≤ 5) : ∀ n : Nat, 0 ≤ pCarry P k y d n ∧ pCarry P k y d n ≤ 5
  | 0 => hy
  | n + 1 => by
    have h1 := Int.emod_nonneg (pCarry P k y d n + pDrift P k (d + n)) (show (6 : Int) ≠ 0 by omega)
    have h2 := Int.emod_lt_of_pos (pCarry P k y d n + pDrift P k (d + n)) (show (0 : Int) < 6 by omega)
    unfold pCarry
    omega
/-! flakes -/
def aBit (m p : Int) : Bool := decide (m / 2 ^ p.toNat % 2 = 1)
def sTorn (S : aSk) (p : Int) : Bool := aBit (S 13) p
def sOwed (P : aP) (S : aSk) (p : Int) : Int := if sTorn S p = true ∨ P 6 p < S 15 then 0 else P 8 p - S (8 + p)
def sHas (P : aP) (S : aSk) (c : Int) : Int := if P 4 c = 1 then S (4 + c) / 2 else S (4 + c)
def sTakes (P : aP) (S : aSk) (c p d : Int) : Bool := decide (1 ≤ sHas P S c ∧ 1 ≤ sOwed P S p ∧ d ≤ P 6 p ∧ (P 7 p = 1 → P 4 c ≠ 1) ∧ (P 7 p = 2 → pWind P d = 0))
def sCan (P : aP) (S : aSk) (c p : Int) : Bool := decide (S c = P 5 p ∧ sTakes P S c p (S 15) = true)
def aSum (f : Int → Int) : Nat → Int
  | 0 => 0
  | n + 1 => aSum f n + f n
theorem aSum_s {f : Int → Int} {i : Int} (h : 0 ≤ i) : aSum f (i + 1).toNat = aSum f i.toNat + f i := by
  rw [show (i + 1).toNat = i.toNat + 1 by omega]
  show aSum f i.toNat + f (i.toNat : Int) = _
  rw [Int.toNat_of_nonneg h]
theorem aSum_congr {f g : Int → Int} : ∀ n : Nat, (∀ i : Int, 0 ≤ i ∧ i < n → f i = g i) → aSum f n = aSum g n
  | 0, _ => rfl
  | n + 1, h => by
    show aSum f n + f n = aSum g n + g n
    rw [aSum_congr n (fun i hi => h i (by omega)), h n (by omega)]
theorem aSum_rng {f : Int → Int} {a b : Int} : ∀ n : Nat, (∀ i : Int, 0 ≤ i ∧ i < n → a ≤ f i ∧ f i ≤ b) → a * n ≤ aSum f n ∧ aSum f n ≤ b * n
  | 0, _ => by simp [aSum]
  | n + 1, h => by
    have h1 := aSum_rng n (fun i hi => h i (by omega))
    have h2 := h n (by omega)
    show a * ((n + 1 : Nat) : Int) ≤ aSum f n + f n ∧ aSum f n + f n ≤ b * ((n + 1 : Nat) : Int)
    have e : ((n + 1 : Nat) : Int) = (n : Int) + 1 := by omega
    rw [e, Int.mul_add, Int.mul_add]
    omega
def nBits (f : Int → Bool) : Nat → Nat
  | 0 => 0
  | n + 1 => nBits f n + (if f n then 2 ^ n else 0)
def aBits (f : Int → Bool) (n : Nat) : Int := (nBits f n : Int)
theorem nBits_lt (f : Int → Bool) : ∀ n, nBits f n < 2 ^ n
  | 0 => by simp [nBits]
  | n + 1 => by
    have := nBits_lt f n
    unfold nBits
    split <;> (rw [Nat.pow_succ]; omega)
theorem nBits_test (f : Int → Bool) : ∀ (n i : Nat), (nBits f n).testBit i = (decide (i < n) && f i)
  | 0, i => by simp [nBits]
  | n + 1, i => by
    have hl := nBits_lt f n
    have ih := nBits_test f n
    unfold nBits
    by_cases hf : f n = true
    · rw [if_pos hf]
      have e : nBits f n + 2 ^ n = 2 ^ n * 1 + nBits f n := by omega
      rw [e]
      by_cases hi : i < n
      · rw [Nat.testBit_two_pow_mul_add _ hl, if_pos hi, ih]
        simp [hi, Nat.lt_succ_of_lt hi]
      · rw [Nat.testBit_two_pow_mul_add _ hl, if_neg hi]
        by_cases he : i = n
        · subst he; simp [hf]
        · have h1 : Nat.testBit 1 (i - n) = false := by
            rw [show i - n = (i - n - 1) + 1 by omega, Nat.testBit_succ]
            simp
          rw [h1]
          simp
          omega
    · rw [if_neg hf, Nat.add_zero, ih]
      by_cases he : i = n
      · subst he
        simp at hf
        simp [hf]
      · congr 1
        simp
        omega
theorem nBits_or {f g : Int → Bool} {n i : Nat} (hi : i < n) (h1 : g i = true) (h2 : ∀ j : Nat, j ≠ i → g j = f j) : nBits f n ||| 2 ^ i = nBits g n := by
  apply Nat.eq_of_testBit_eq
  intro j
  rw [Nat.testBit_or, nBits_test, nBits_test, Nat.testBit_two_pow]
  by_cases e : i = j
  · subst e; simp [hi, h1]
  · rw [h2 j (fun q => e q.symm)]
    simp [e]
theorem nBits_congr {f g : Int → Bool} : ∀ n : Nat, (∀ i : Int, 0 ≤ i ∧ i < n → f i = g i) → nBits f n = nBits g n
  | 0, _ => rfl
  | n + 1, h => by
    unfold nBits
    rw [nBits_congr n (fun i hi => h i (by omega)), h n (by omega)]
theorem aBits_or {f g : Int → Bool} {n : Nat} {i : Int} (hi : 0 ≤ i ∧ i < n) (h1 : g i = true) (h2 : ∀ j : Int, j ≠ i → g j = f j) : aOr (aBits f n) (2 ^ i.toNat) = aBits g n := by
  unfold aOr aBits
  have e : ((2 : Int) ^ i.toNat).toNat = 2 ^ i.toNat := by
    have : ((2 : Int) ^ i.toNat) = ((2 ^ i.toNat : Nat) : Int) := by simp
    rw [this]; rfl
  rw [e, Int.toNat_natCast, nBits_or (f := f) (g := g) (n := n) (i := i.toNat) (by omega) (by rw [Int.toNat_of_nonneg hi.1]; exact h1) (fun j hj => h2 j (by omega))]
theorem aBits_s {f : Int → Bool} {i : Int} (h : 0 ≤ i) : aBits f (i + 1).toNat = if f i = true then aOr (aBits f i.toNat) (2 ^ i.toNat) else aBits f i.toNat := by
  rw [show (i + 1).toNat = i.toNat + 1 by omega]
  by_cases hf : f i = true
  · rw [if_pos hf]
    have e : aBits f i.toNat = aBits (fun j => if j = i then false else f j) (i.toNat + 1) := by
      unfold aBits
      congr 1
      show _ = nBits (fun j => if j = i then false else f j) i.toNat + (if (if ((i.toNat : Nat) : Int) = i then false else f i.toNat) = true then 2 ^ i.toNat else 0)
      rw [if_pos (show ((i.toNat : Nat) : Int) = i by omega), if_neg (show ¬ false = true by decide), Nat.add_zero]
      exact nBits_congr _ (fun j hj => (if_neg (show ¬ j = i by omega)).symm)
    rw [e]
    exact (aBits_or (by omega) hf (fun j hj => by simp [hj])).symm
  · rw [if_neg hf]
    unfold aBits
    congr 1
    show nBits f i.toNat + (if f (i.toNat : Int) = true then 2 ^ i.toNat else 0) = _
    rw [Int.toNat_of_nonneg h, if_neg hf, Nat.add_zero]
theorem aBits_zero (n : Nat) : aBits (fun _ => false) n = 0 := by
  have : ∀ n, nBits (fun _ => false) n = 0 := by
    intro n
    induction n with
    | zero => rfl
    | succ n ih => simp [nBits, ih]
  unfold aBits
  rw [this]
  rfl
theorem aBits_rng (f : Int → Bool) (n : Nat) : 0 ≤ aBits f n ∧ aBits f n < 2 ^ n := by
  have := nBits_lt f n
  unfold aBits
  refine ⟨by omega, ?_⟩
  have e : ((2 : Int) ^ n) = ((2 ^ n : Nat) : Int) := by simp
  rw [e]
  omega
theorem aBit_bits (f : Int → Bool) (n : Nat) {i : Int} (hi : 0 ≤ i) : aBit (aBits f n) i = (decide (i < n) && f i) := by
  obtain ⟨k, rfl⟩ := Int.eq_ofNat_of_zero_le hi
  have h := nBits_test f n k
  unfold aBit aBits
  rw [Nat.testBit_eq_decide_div_mod_eq] at h
  have hlt : decide ((k : Int) < (n : Int)) = decide (k < n) := by simp
  rw [hlt, ← h]
  have e : ((nBits f n : Nat) : Int) / 2 ^ (k : Int).toNat % 2 = ((nBits f n / 2 ^ k % 2 : Nat) : Int) := by simp
  rw [e]
  congr 1
  apply propext
  omega
theorem aBits_congr {f g : Int → Bool} (n : Nat) (h : ∀ i : Int, 0 ≤ i ∧ i < n → f i = g i) : aBits f n = aBits g n := by
  unfold aBits; rw [nBits_congr n h]
theorem aBits_step {E D : Int → Bool} {N : Nat} {i : Int} (hi : 0 ≤ i ∧ i < N) : aBits (fun p => if p < i + 1 then (E p || D p) else E p) N = if D i = true then aOr (aBits (fun p => if p < i then (E p || D p) else E p) N) (2 ^ i.toNat) else aBits (fun p => if p < i then (E p || D p) else E p) N := by
  by_cases hd : D i = true
  · rw [if_pos hd]
    refine (aBits_or hi ?_ (fun j hj => ?_)).symm
    · show (if i < i + 1 then (E i || D i) else E i) = true
      rw [if_pos (by omega), hd, Bool.or_true]
    · show (if j < i + 1 then (E j || D j) else E j) = if j < i then (E j || D j) else E j
      by_cases h : j < i
      · rw [if_pos h, if_pos (by omega)]
      · rw [if_neg h, if_neg (by omega)]
  · rw [if_neg hd]
    refine aBits_congr N (fun j hj => ?_)
    show (if j < i + 1 then (E j || D j) else E j) = if j < i then (E j || D j) else E j
    by_cases e : j = i
    · subst e
      rw [if_pos (by omega), if_neg (by omega), Bool.eq_false_iff.mpr hd, Bool.or_false]
    · by_cases h : j < i
      · rw [if_pos h, if_pos (by omega)]
      · rw [if_neg h, if_neg (by omega)]
theorem aBits_up {E D : Int → Bool} {N : Nat} {i : Int} (hi : (N : Int) ≤ i) : aBits (fun p => if p < i then (E p || D p) else E p) N = aBits (fun p => E p || D p) N := aBits_congr N (fun j hj => if_pos (by omega))
theorem aBits_lo {E D : Int → Bool} {N : Nat} : aBits (fun p => if p < 0 then (E p || D p) else E p) N = aBits E N := aBits_congr N (fun j hj => if_neg (by omega))
/-! a cloud over a yard now: can it serve a paper on one of the next n days? -/
def sServN (P : aP) (S : aSk) (c y p : Int) : Nat → Bool
  | 0 => false
  | n + 1 => sServN P S c y p n || decide (pCarry P (P 4 c) y (S 15) n = P 5 p ∧ sTakes P S c p (S 15 + n) = true)
def sServ (P : aP) (S : aSk) (c y p : Int) : Bool := sServN P S c y p (10 - S 15).toNat
/-- the papers (bits) that it can -/
def sServs (P : aP) (S : aSk) (c y : Int) : Int := aBits (sServ P S c y) (P 0 2).toNat
def sUmb (P : aP) (S : aSk) (d : Int) : Int := S 14 + aSum (fun p => if P 6 p < d then sOwed P S p else 0) (P 0 2).toNat
def sOwedBy (P : aP) (S : aSk) (m : Int) : Int := aSum (fun p => if aBit m p = true then sOwed P S p else 0) (P 0 2).toNat
def sOwedAll (P : aP) (S : aSk) : Int := aSum (sOwed P S) (P 0 2).toNat
def sFilled (S : aSk) : Int := aSum (fun p => S (8 + p)) 5
theorem aTwo (n : Nat) : (1 : Int) * 2 ^ n = 2 ^ n := Int.one_mul _
theorem aPow2 {p : Int} (h : 0 ≤ p ∧ p < 5) : (2 : Int) ^ p.toNat = 1 ∨ (2 : Int) ^ p.toNat = 2 ∨ (2 : Int) ^ p.toNat = 4 ∨ (2 : Int) ^ p.toNat = 8 ∨ (2 : Int) ^ p.toNat = 16 := by
  rcases (show p = 0 ∨ p = 1 ∨ p = 2 ∨ p = 3 ∨ p = 4 by omega) with rfl | rfl | rfl | rfl | rfl
  · exact Or.inl rfl
  · exact Or.inr (Or.inl rfl)
  · exact Or.inr (Or.inr (Or.inl rfl))
  · exact Or.inr (Or.inr (Or.inr (Or.inl rfl)))
  · exact Or.inr (Or.inr (Or.inr (Or.inr rfl)))
theorem aPow_pos (n : Nat) : (0 : Int) < 2 ^ n := Int.pow_pos (by decide)
theorem aBit31 {p : Int} (h : 0 ≤ p ∧ p < 5) : aBit 31 p = true := by
  rcases (show p = 0 ∨ p = 1 ∨ p = 2 ∨ p = 3 ∨ p = 4 by omega) with rfl | rfl | rfl | rfl | rfl <;> decide
/-! facts at the heap's places -/
def aSky (k : Nat) : Prop := k = 12 ∨ k = 16
theorem aSky_sh {k : Nat} (h : aSky k) : aSh k = (0, 7, [5, k + 1 + 2, k + 2 + 2, k + 3 + 2, 0, 0, 0]) ∧ aSh (k + 1) = (1, 0, [4]) ∧ aSh (k + 2) = (1, 0, [4]) ∧ aSh (k + 3) = (1, 0, [5]) ∧ k + 3 < 20 ∧ 11 < k := by
  rcases h with rfl | rfl
  · exact ⟨rfl, rfl, rfl, rfl, by decide, by decide⟩
  · exact ⟨rfl, rfl, rfl, rfl, by decide, by decide⟩
theorem fP {Z : aZ} (h : okP (vP Z)) : (0 ≤ Z 3 8 ∧ Z 3 8 ≤ 4) ∧ (0 ≤ Z 3 9 ∧ Z 3 9 ≤ 4) ∧ (0 ≤ Z 3 10 ∧ Z 3 10 ≤ 5) := by
  have h1 := h.1
  have h2 := h.2.1
  have h3 := h.2.2.1
  rw [vP_0] at h1
  rw [vP_1] at h2
  rw [vP_2] at h3
  exact ⟨h1, h2, h3⟩
theorem fPk {Z : aZ} (h : okP (vP Z)) (j : Int) : 0 ≤ Z 7 j ∧ Z 7 j ≤ 3 := h.2.2.2.2.1 j
theorem fPy {Z : aZ} (h : okP (vP Z)) (j : Int) : 0 ≤ Z 8 j ∧ Z 8 j ≤ 5 := h.2.2.2.2.2.1 j
theorem fPd {Z : aZ} (h : okP (vP Z)) (j : Int) : 0 ≤ Z 9 j ∧ Z 9 j ≤ 9 := h.2.2.2.2.2.2.1 j
theorem fPpk {Z : aZ} (h : okP (vP Z)) (j : Int) : 0 ≤ Z 10 j ∧ Z 10 j ≤ 3 := h.2.2.2.2.2.2.2.1 j
theorem fPp {Z : aZ} (h : okP (vP Z)) (j : Int) : 0 ≤ Z 11 j ∧ Z 11 j ≤ 9 := h.2.2.2.2.2.2.2.2 j
theorem fS {Z : aZ} {k : Nat} (h : okS (vP Z) (vS Z k)) : (0 ≤ Z k 4 ∧ Z k 4 < 32) ∧ (0 ≤ Z k 5 ∧ Z k 5 ≤ 45 * Z k 6) ∧ 0 ≤ Z k 6 := by
  obtain ⟨-, -, -, h1, h2, h3⟩ := h
  rw [vS_13] at h1
  rw [vS_14, vS_15] at h2
  rw [vS_15] at h3
  exact ⟨h1, h2, h3⟩
theorem fSy {Z : aZ} {k : Nat} (h : okS (vP Z) (vS Z k)) {c : Int} (hc : 0 ≤ c ∧ c < 4 ∧ c < Z 3 9) : 0 ≤ Z (k + 1) c ∧ Z (k + 1) c ≤ 5 := by
  have := h.1 c (by omega)
  rwa [vS_yd hc] at this
theorem fSf {Z : aZ} {k : Nat} (h : okS (vP Z) (vS Z k)) {c : Int} (hc : 0 ≤ c ∧ c < 4 ∧ c < Z 3 9) : 0 ≤ Z (k + 2) c ∧ Z (k + 2) c ≤ 9 := by
  have := h.2.1 c (by omega)
  rwa [vS_fl hc] at this
theorem fSi {Z : aZ} {k : Nat} (h : okS (vP Z) (vS Z k)) {p : Int} (hp : 0 ≤ p ∧ p < 5) : 0 ≤ Z (k + 3) p ∧ Z (k + 3) p ≤ Z 11 p := by
  have := h.2.2.1 p hp
  rwa [vS_fi hp] at this
theorem pHasP_of {Z : aZ} {p : Int} (h : 0 ≤ p ∧ p < Z 3 10) : pHasP (vP Z) p = true := by
  unfold pHasP; rw [vP_2]; exact decide_eq_true h
theorem pHasC_of {Z : aZ} {c : Int} (h : 0 ≤ c ∧ c < Z 3 9) : pHasC (vP Z) c = true := by
  unfold pHasC; rw [vP_1]; exact decide_eq_true h
theorem pHasP_no {Z : aZ} {p : Int} (h : pHasP (vP Z) p = true) : 0 ≤ p ∧ p < Z 3 10 := by
  unfold pHasP at h; rw [vP_2] at h; exact of_decide_eq_true h
theorem pHasC_no {Z : aZ} {c : Int} (h : pHasC (vP Z) c = true) : 0 ≤ c ∧ c < Z 3 9 := by
  unfold pHasC at h; rw [vP_1] at h; exact of_decide_eq_true h
theorem sOwed_rng {P : aP} {S : aSk} (hP : okP P) (hS : okS P S) {p : Int} (hp : 0 ≤ p ∧ p < 5) : 0 ≤ sOwed P S p ∧ sOwed P S p ≤ 9 := by
  have h1 := hS.2.2.1 p hp
  have h2 := hP.2.2.2.2.2.2.2.2 p
  unfold sOwed
  split <;> omega
theorem sHas_rng {P : aP} {S : aSk} (hS : okS P S) {c : Int} (hc : 0 ≤ c ∧ c < 4) : 0 ≤ sHas P S c ∧ sHas P S c ≤ 9 := by
  have h1 := hS.2.1 c hc
  unfold sHas
  split <;> omega

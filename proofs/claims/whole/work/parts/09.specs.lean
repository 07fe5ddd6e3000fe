/-! THE PURE PICTURES. A pass P: row 0: how many winds (0), clouds (1), papers (2); row 1 winds, 4 clouds' kinds, 5 papers' yards, 6 due days, 7 papers' kinds, 8 flakes promised. A sky S: sixteen numbers: 0 to 3 yards, 4 to 7 flakes, 8 to 12 filled, 13 torn, 14 umbrellas, 15 the day. -/
abbrev aP : Type := Nat → Int → Int
abbrev aSk : Type := Int → Int
def vP (Z : aZ) : aP
  | 0 => fun j => if j = 0 then Z 3 8 else if j = 1 then Z 3 9 else Z 3 10
  | 1 => Z 4
  | 4 => Z 7
  | 5 => Z 8
  | 6 => Z 9
  | 7 => Z 10
  | 8 => Z 11
  | _ => fun _ => 0
def vQ (Z : aZ) : aP
  | 0 => fun j => if j = 0 then Z 62 0 else if j = 1 then Z 62 1 else Z 62 2
  | 1 => Z 63
  | 4 => Z 64
  | 5 => Z 65
  | 6 => Z 66
  | 7 => Z 68
  | 8 => Z 67
  | _ => fun _ => 0
def vS (Z : aZ) (k : Nat) : aSk := fun j => if j < 4 then (if j < Z 3 9 then Z (k + 1) j else 0) else if j < 8 then (if j - 4 < Z 3 9 then Z (k + 2) (j - 4) else 0) else if j < 13 then Z (k + 3) (j - 8) else if j = 13 then Z k 4 else if j = 14 then Z k 5 else Z k 6
def vR (Z : aZ) (l : Int) : aSk := fun j => if j < 4 then (if j < Z 62 1 then Z 69 (16 * l + j) else 0) else if j < 8 then (if j - 4 < Z 62 1 then Z 69 (16 * l + j) else 0) else Z 69 (16 * l + j)
theorem vP_0 {Z : aZ} : vP Z 0 0 = Z 3 8 := by simp [vP]
theorem vP_1 {Z : aZ} : vP Z 0 1 = Z 3 9 := by simp [vP]
theorem vP_2 {Z : aZ} : vP Z 0 2 = Z 3 10 := by simp [vP]
theorem vP_w {Z : aZ} {j : Int} : vP Z 1 j = Z 4 j := rfl
theorem vP_k {Z : aZ} {j : Int} : vP Z 4 j = Z 7 j := rfl
theorem vP_y {Z : aZ} {j : Int} : vP Z 5 j = Z 8 j := rfl
theorem vP_d {Z : aZ} {j : Int} : vP Z 6 j = Z 9 j := rfl
theorem vP_pk {Z : aZ} {j : Int} : vP Z 7 j = Z 10 j := rfl
theorem vP_p {Z : aZ} {j : Int} : vP Z 8 j = Z 11 j := rfl
theorem vQ_0 {Z : aZ} : vQ Z 0 0 = Z 62 0 := by simp [vQ]
theorem vQ_1 {Z : aZ} : vQ Z 0 1 = Z 62 1 := by simp [vQ]
theorem vQ_2 {Z : aZ} : vQ Z 0 2 = Z 62 2 := by simp [vQ]
theorem vQ_w {Z : aZ} {j : Int} : vQ Z 1 j = Z 63 j := rfl
theorem vQ_k {Z : aZ} {j : Int} : vQ Z 4 j = Z 64 j := rfl
theorem vQ_y {Z : aZ} {j : Int} : vQ Z 5 j = Z 65 j := rfl
theorem vQ_d {Z : aZ} {j : Int} : vQ Z 6 j = Z 66 j := rfl
theorem vQ_pk {Z : aZ} {j : Int} : vQ Z 7 j = Z 68 j := rfl
theorem vQ_p {Z : aZ} {j : Int} : vQ Z 8 j = Z 67 j := rfl
theorem vS_yd {Z : aZ} {k : Nat} {c : Int} (h : 0 ≤ c ∧ c < 4 ∧ c < Z 3 9) : vS Z k c = Z (k + 1) c := by
  unfold vS; rw [if_pos (by omega), if_pos (by omega)]
theorem vS_fl {Z : aZ} {k : Nat} {c : Int} (h : 0 ≤ c ∧ c < 4 ∧ c < Z 3 9) : vS Z k (4 + c) = Z (k + 2) c := by
  unfold vS; rw [if_neg (by omega), if_pos (by omega), show 4 + c - 4 = c by omega, if_pos (by omega)]
theorem vS_fi {Z : aZ} {k : Nat} {p : Int} (h : 0 ≤ p ∧ p < 5) : vS Z k (8 + p) = Z (k + 3) p := by
  unfold vS; rw [if_neg (by omega), if_neg (by omega), if_pos (by omega), show 8 + p - 8 = p by omega]
theorem vS_13 {Z : aZ} {k : Nat} : vS Z k 13 = Z k 4 := by simp [vS]
theorem vS_14 {Z : aZ} {k : Nat} : vS Z k 14 = Z k 5 := by simp [vS]
theorem vS_15 {Z : aZ} {k : Nat} : vS Z k 15 = Z k 6 := by simp [vS]
theorem vR_yd {Z : aZ} {l c : Int} (h : 0 ≤ c ∧ c < 4 ∧ c < Z 62 1) : vR Z l c = Z 69 (16 * l + c) := by
  unfold vR; rw [if_pos (by omega), if_pos (by omega)]
theorem vR_fl {Z : aZ} {l c : Int} (h : 0 ≤ c ∧ c < 4 ∧ c < Z 62 1) : vR Z l (4 + c) = Z 69 (16 * l + (4 + c)) := by
  unfold vR; rw [if_neg (by omega), if_pos (by omega), if_pos (by omega)]
theorem vR_hi {Z : aZ} {l j : Int} (h : 8 ≤ j) : vR Z l j = Z 69 (16 * l + j) := by
  unfold vR; rw [if_neg (by omega), if_neg (by omega)]
/-- the ranges of a pass, of a sky -/
def okP (P : aP) : Prop := (0 ≤ P 0 0 ∧ P 0 0 ≤ 4) ∧ (0 ≤ P 0 1 ∧ P 0 1 ≤ 4) ∧ (0 ≤ P 0 2 ∧ P 0 2 ≤ 5) ∧ (∀ j, 0 ≤ P 1 j ∧ P 1 j ≤ 2) ∧ (∀ j, 0 ≤ P 4 j ∧ P 4 j ≤ 3) ∧ (∀ j, 0 ≤ P 5 j ∧ P 5 j ≤ 5) ∧ (∀ j, 0 ≤ P 6 j ∧ P 6 j ≤ 9) ∧ (∀ j, 0 ≤ P 7 j ∧ P 7 j ≤ 3) ∧ ∀ j, 0 ≤ P 8 j ∧ P 8 j ≤ 9
def okS (P : aP) (S : aSk) : Prop := (∀ c, 0 ≤ c ∧ c < 4 → 0 ≤ S c ∧ S c ≤ 5) ∧ (∀ c, 0 ≤ c ∧ c < 4 → 0 ≤ S (4 + c) ∧ S (4 + c) ≤ 9) ∧ (∀ p, 0 ≤ p ∧ p < 5 → 0 ≤ S (8 + p) ∧ S (8 + p) ≤ P 8 p) ∧ (0 ≤ S 13 ∧ S 13 < 32) ∧ (0 ≤ S 14 ∧ S 14 ≤ 45 * S 15) ∧ (0 ≤ S 15 ∧ S 15 ≤ 2000)
/-! winds -/
def pWind (P : aP) (d : Int) : Int := if P 0 0 = 0 then 0 else P 1 (d % P 0 0)
def pWay (b : Int) : Int := if b = 1 then 1 else if b = 2 then -1 else 0
def pPace (k : Int) : Int := if k = 2 then 0 else if k = 3 then 2 else 1
def pDrift (P : aP) (k d : Int) : Int := pWay (pWind P d) * pPace k
def pCarry (P : aP) (k y d : Int) : Nat → Int
  | 0 => y
  | n + 1 => (pCarry P k y d n + pDrift P k (d + n)) % 6
def pHasC (P : aP) (c : Int) : Bool := decide (0 ≤ c ∧ c < P 0 1)
def pHasP (P : aP) (p : Int) : Bool := decide (0 ≤ p ∧ p < P 0 2)
theorem pWind_rng {P : aP} (h : okP P) (d : Int) : 0 ≤ pWind P d ∧ pWind P d ≤ 2 := by
  unfold pWind
  split
  · omega
  · exact h.2.2.2.1 _
theorem pWay_rng (b : Int) : -1 ≤ pWay b ∧ pWay b ≤ 1 := by unfold pWay; repeat' split <;> omega
theorem pPace_rng (k : Int) : 0 ≤ pPace k ∧ pPace k ≤ 2 := by unfold pPace; repeat' split <;> omega
theorem pDrift_rng (P : aP) (k d : Int) : -2 ≤ pDrift P k d ∧ pDrift P k d ≤ 2 := by
  unfold pDrift pWay pPace
  repeat' split
  all_goals omega
theorem pCarry_rng {P : aP} {k y d : Int} (hy : 0 ≤ y ∧ y ≤ 5) : ∀ n : Nat, 0 ≤ pCarry P k y d n ∧ pCarry P k y d n ≤ 5
  | 0 => hy
  | n + 1 => by
    have h1 := Int.emod_nonneg (pCarry P k y d n + pDrift P k (d + n)) (show (6 : Int) ≠ 0 by omega)
    have h2 := Int.emod_lt_of_pos (pCarry P k y d n + pDrift P k (d + n)) (show (0 : Int) < 6 by omega)
    unfold pCarry
    omega
/-! flakes -/
def sTorn (S : aSk) (p : Int) : Bool := decide (S 13 / 2 ^ p.toNat % 2 = 1)
def sOwed (P : aP) (S : aSk) (p : Int) : Int := if sTorn S p = true ∨ P 6 p < S 15 then 0 else P 8 p - S (8 + p)
def sHas (P : aP) (S : aSk) (c : Int) : Int := if P 4 c = 1 then S (4 + c) / 2 else S (4 + c)
def sTakes (P : aP) (S : aSk) (c p d : Int) : Bool := decide (1 ≤ sHas P S c) && (decide (1 ≤ sOwed P S p) && (decide (d ≤ P 6 p) && (if P 7 p = 1 then decide (P 4 c ≠ 1) else (decide (P 7 p ≠ 2) || decide (pWind P d = 0)))))
def sCan (P : aP) (S : aSk) (c p : Int) : Bool := decide (S c = P 5 p) && sTakes P S c p (S 15)
def aSum (f : Int → Int) : Nat → Int
  | 0 => 0
  | n + 1 => aSum f n + f n
def aBits (f : Int → Bool) : Nat → Int
  | 0 => 0
  | n + 1 => aBits f n + (if f n then 2 ^ n else 0)

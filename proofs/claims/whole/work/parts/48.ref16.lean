/-! FAILS: the ways that days fail, and the weights day by day -/
theorem fBits : ∀ n : Nat, n ≤ 5 → ∀ s : Nat, s < 2 ^ n → aPop ((s + 2 ^ n : Nat) : Int) = aPop (s : Int) + 1 ∧ aBit ((s + 2 ^ n : Nat) : Int) (n : Int) = true ∧ aBit (s : Int) (n : Int) = false ∧ 0 ≤ aPop (s : Int) ∧ aPop (s : Int) ≤ n ∧ ∀ i : Nat, i < n → aBit ((s + 2 ^ n : Nat) : Int) (i : Int) = aBit (s : Int) (i : Int) := by decide +kernel
def fWt (n : Nat) (x s : Int) : Int := x ^ (aPop s).toNat * (10 - x) ^ ((n : Int) - aPop s).toNat
def fSt (P : aP) (S : aSk) (s : Int) : Nat → aSk
  | 0 => S
  | i + 1 => dPass P (fSt P S s i) (!aBit s i)
theorem fSt_congr {P : aP} {S : aSk} {s t : Int} : ∀ n : Nat, (∀ i : Nat, i < n → aBit s i = aBit t i) → fSt P S s n = fSt P S t n
  | 0, _ => rfl
  | n + 1, h => by
    show dPass P (fSt P S s n) (!aBit s n) = dPass P (fSt P S t n) (!aBit t n)
    rw [fSt_congr n (fun i hi => h i (by omega)), h n (by omega)]
theorem fSt_15 (P : aP) (S : aSk) (s : Int) : ∀ n : Nat, fSt P S s n 15 = S 15 + n
  | 0 => by show S 15 = S 15 + ((0 : Nat) : Int); omega
  | n + 1 => by
    show dPass P (fSt P S s n) _ 15 = _
    rw [dPass_15, fSt_15 P S s n]
    omega
theorem fSt_c {P : aP} {S : aSk} {s c : Int} (hc : 0 ≤ c ∧ c < P 0 1) (h4 : P 0 1 ≤ 4) (n : Nat) : fSt P S s (n + 1) c = if aBit s n = true then fSt P S s n c else (fSt P S s n c + pDrift P (P 4 c) (S 15 + n)) % 6 := by
  show dPass P (fSt P S s n) (!aBit s n) c = _
  unfold dPass
  cases e : aBit s n
  · rw [if_pos (show (!false) = true from rfl), if_neg (show ¬ false = true by decide)]
    unfold dDay
    rw [if_neg (by omega), if_neg (by omega), if_pos hc, fSt_15]
  · rw [if_neg (show ¬ (!true) = true by decide), if_pos (show true = true from rfl)]
    unfold dWait
    rw [if_neg (by omega), if_neg (by omega)]
theorem fSt_rng {P : aP} {S : aSk} {s c : Int} (hc : 0 ≤ c ∧ c < P 0 1) (h4 : P 0 1 ≤ 4) (hy : 0 ≤ S c ∧ S c ≤ 5) : ∀ n : Nat, 0 ≤ fSt P S s n c ∧ fSt P S s n c ≤ 5
  | 0 => hy
  | n + 1 => by
    rw [fSt_c hc h4]
    have := fSt_rng (s := s) hc h4 hy n
    split <;> omega
def fAb (P : aP) (S : aSk) (c x y : Int) (n : Nat) : Int := aSum (fun s => if fSt P S s n c = y then fWt n x s else 0) (2 ^ n)
def fBl (x : Int) (n : Nat) : Int := aSum (fun s => fWt n x s) (2 ^ n)
theorem aSum_split {f : Int → Int} (m : Nat) : ∀ n : Nat, aSum f (m + n) = aSum f m + aSum (fun i => f (i + m)) n
  | 0 => by show aSum f m = aSum f m + 0; omega
  | n + 1 => by
    show aSum f (m + n) + f ((m + n : Nat) : Int) = aSum f m + (aSum (fun i => f (i + m)) n + f ((n : Int) + m))
    rw [aSum_split m n, show ((m + n : Nat) : Int) = (n : Int) + m by omega]
    omega
theorem aSum_mul {f : Int → Int} (k : Int) : ∀ n : Nat, aSum (fun i => f i * k) n = aSum f n * k
  | 0 => by show (0 : Int) = 0 * k; omega
  | n + 1 => by
    show aSum (fun i => f i * k) n + f n * k = (aSum f n + f n) * k
    rw [aSum_mul k n, Int.add_mul]
theorem fWt_lo {n : Nat} (hn : n ≤ 5) (x : Int) {s : Int} (hs : 0 ≤ s ∧ s < 2 ^ n) : fWt (n + 1) x s = fWt n x s * (10 - x) := by
  obtain ⟨s, rfl⟩ := Int.eq_ofNat_of_zero_le hs.1
  have h := fBits n hn s (by have := hs.2; rw [show ((2 : Int) ^ n) = ((2 ^ n : Nat) : Int) by simp] at this; omega)
  unfold fWt
  rw [show (((n + 1 : Nat) : Int) - aPop (s : Int)).toNat = ((n : Int) - aPop (s : Int)).toNat + 1 by omega, Int.pow_succ, Int.mul_assoc]
theorem fWt_hi {n : Nat} (hn : n ≤ 5) (x : Int) {s : Int} (hs : 0 ≤ s ∧ s < 2 ^ n) : fWt (n + 1) x (s + ((2 ^ n : Nat) : Int)) = fWt n x s * x := by
  obtain ⟨s, rfl⟩ := Int.eq_ofNat_of_zero_le hs.1
  have h := fBits n hn s (by have := hs.2; rw [show ((2 : Int) ^ n) = ((2 ^ n : Nat) : Int) by simp] at this; omega)
  have e : (s : Int) + ((2 ^ n : Nat) : Int) = ((s + 2 ^ n : Nat) : Int) := by omega
  unfold fWt
  rw [e, h.1, show (((n + 1 : Nat) : Int) - (aPop (s : Int) + 1)).toNat = ((n : Int) - aPop (s : Int)).toNat by omega, show (aPop (s : Int) + 1).toNat = (aPop (s : Int)).toNat + 1 by omega, Int.pow_succ, Int.mul_assoc, Int.mul_comm x, ← Int.mul_assoc]
theorem f2n (n : Nat) : ((2 ^ n : Nat) : Int) = 2 ^ n := by simp
theorem fBl_eq (x : Int) : ∀ n : Nat, n ≤ 6 → fBl x n = 10 ^ n
  | 0, _ => by
    show (0 : Int) + fWt 0 x 0 = 1
    unfold fWt
    rw [show aPop 0 = 0 by decide]
    rw [show (0 : Int).toNat = 0 from rfl, show (((0 : Nat) : Int) - 0).toNat = 0 from rfl, Int.pow_zero, Int.pow_zero]; rfl
  | n + 1, h => by
    unfold fBl
    rw [show 2 ^ (n + 1) = 2 ^ n + 2 ^ n by rw [Nat.pow_succ]; omega, aSum_split]
    rw [aSum_congr (g := fun s => fWt n x s * (10 - x)) (2 ^ n) (fun s hs => fWt_lo (by omega) x (by rw [← f2n]; exact hs))]
    rw [aSum_congr (f := fun i => fWt (n + 1) x (i + ((2 ^ n : Nat) : Int))) (g := fun s => fWt n x s * x) (2 ^ n) (fun s hs => fWt_hi (by omega) x (by rw [← f2n]; exact hs))]
    rw [aSum_mul, aSum_mul, ← Int.mul_add, show 10 - x + x = 10 by omega, Int.pow_succ]
    exact congrArg (· * 10) (fBl_eq x n (by omega))
theorem fAb_eq {P : aP} {S : aSk} {c x : Int} (hc : 0 ≤ c ∧ c < P 0 1) (h4 : P 0 1 ≤ 4) (hy : 0 ≤ S c ∧ S c ≤ 5) : ∀ (n : Nat) (y : Int), n ≤ 6 → 0 ≤ y ∧ y < 6 → fAb P S c x y n = cW P (P 4 c) (S 15) (S c) x n y
  | 0, y, _, _ => by
    show (0 : Int) + (if S c = y then fWt 0 x 0 else 0) = if y = S c then 1 else 0
    unfold fWt
    rw [show aPop 0 = 0 by decide]
    by_cases e : y = S c
    · rw [if_pos e, if_pos e.symm]; rw [show (0 : Int).toNat = 0 from rfl, show (((0 : Nat) : Int) - 0).toNat = 0 from rfl, Int.pow_zero, Int.pow_zero]; rfl
    · rw [if_neg e, if_neg (fun q => e q.symm)]; rfl
  | n + 1, y, h, hy6 => by
    have hz : 0 ≤ (y - pDrift P (P 4 c) (S 15 + n)) % 6 ∧ (y - pDrift P (P 4 c) (S 15 + n)) % 6 < 6 := by omega
    show _ = cW P (P 4 c) (S 15) (S c) x n y * x + cW P (P 4 c) (S 15) (S c) x n ((y - pDrift P (P 4 c) (S 15 + n)) % 6) * (10 - x)
    rw [← fAb_eq hc h4 hy n y (by omega) hy6, ← fAb_eq hc h4 hy n _ (by omega) hz]
    unfold fAb
    rw [show 2 ^ (n + 1) = 2 ^ n + 2 ^ n by rw [Nat.pow_succ]; omega, aSum_split, ← aSum_mul, ← aSum_mul, Int.add_comm]
    have hbits : ∀ s : Int, 0 ≤ s ∧ s < ((2 ^ n : Nat) : Int) → aBit (s + ((2 ^ n : Nat) : Int)) n = true ∧ aBit s n = false ∧ fSt P S (s + ((2 ^ n : Nat) : Int)) n = fSt P S s n := fun s hs => by
      obtain ⟨s, rfl⟩ := Int.eq_ofNat_of_zero_le hs.1
      have h := fBits n (by omega) s (by omega)
      have e : (s : Int) + ((2 ^ n : Nat) : Int) = ((s + 2 ^ n : Nat) : Int) := by omega
      rw [e]
      exact ⟨h.2.1, h.2.2.1, fSt_congr n h.2.2.2.2.2⟩
    congr 1
    · refine aSum_congr _ (fun s hs => ?_)
      obtain ⟨b1, b2, b3⟩ := hbits s hs
      try dsimp only
      rw [fSt_c hc h4, b1, if_pos rfl, b3]
      by_cases e : fSt P S s n c = y
      · rw [if_pos e, if_pos e, fWt_hi (by omega) x (by rw [← f2n]; exact hs)]
      · rw [if_neg e, if_neg e]; omega
    · refine aSum_congr _ (fun s hs => ?_)
      obtain ⟨b1, b2, b3⟩ := hbits s hs
      have hr := fSt_rng (s := s) hc h4 hy n
      try dsimp only
      rw [fSt_c hc h4, b2, if_neg (show ¬ false = true by decide)]
      by_cases e : fSt P S s n c = (y - pDrift P (P 4 c) (S 15 + n)) % 6
      · rw [if_pos (by omega), if_pos e, fWt_lo (by omega) x (by rw [← f2n]; exact hs)]
      · rw [if_neg (by omega), if_neg e]; omega

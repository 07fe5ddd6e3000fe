/-! PUFFS: rows of at most three puffs -/
def vAny (q : Int → Bool) : Nat → Bool
  | 0 => false
  | n + 1 => vAny q n || q n
theorem vAny_none {q : Int → Bool} : ∀ n : Nat, (∀ k : Int, 0 ≤ k ∧ k < n → q k = false) → vAny q n = false
  | 0, _ => rfl
  | n + 1, h => by
    show (vAny q n || q n) = false
    rw [vAny_none n (fun k hk => h k (by omega)), h n (by omega)]
    rfl
theorem vAny_at {q : Int → Bool} {m : Nat} (hm : q m = true) : ∀ n : Nat, m < n → vAny q n = true
  | 0, hn => by omega
  | n + 1, hn => by
    show (vAny q n || q n) = true
    by_cases e : m = n
    · subst e; rw [hm, Bool.or_true]
    · rw [vAny_at hm n (by omega), Bool.true_or]
/-- the j-th puff of the w-th row -/
def fM (P : aP) (w : Int) (j : Nat) : Int := w / (2 * P 0 1) ^ j % (2 * P 0 1)
def fPf (P : aP) (S : aSk) (w : Int) : Nat → aSk
  | 0 => S
  | j + 1 => dPush (fPf P S w j) (fM P w j / 2) (decide (fM P w j % 2 = 1))
theorem fPf_s {P : aP} {S : aSk} {w j : Int} (h : 0 ≤ j) : fPf P S w (j + 1).toNat = dPush (fPf P S w j.toNat) (fM P w j.toNat / 2) (decide (fM P w j.toNat % 2 = 1)) := by
  rw [show (j + 1).toNat = j.toNat + 1 by omega]
  rfl
def fOkW (P : aP) (S : aSk) (i w : Int) : Bool := decide (sMost P (fPf P S w i.toNat) = sOwedAll P (fPf P S w i.toNat))
def fAll (P : aP) (S : aSk) (i : Int) : Bool := vAny (fOkW P S i) ((2 * P 0 1) ^ i.toNat).toNat
/-- the reference's PUFFS -/
def qPuffs (P : aP) (S : aSk) : Int := vFst (fAll P S) 4
theorem fM_rng {P : aP} {w : Int} {j : Nat} (h : 0 < P 0 1) : 0 ≤ fM P w j ∧ fM P w j < 2 * P 0 1 := by
  unfold fM
  have h1 := Int.emod_nonneg (w / (2 * P 0 1) ^ j) (show 2 * P 0 1 ≠ 0 by omega)
  have h2 := Int.emod_lt_of_pos (w / (2 * P 0 1) ^ j) (show 0 < 2 * P 0 1 by omega)
  omega
theorem fPf_hi {P : aP} {S : aSk} {w : Int} (h0 : 0 < P 0 1) (h4 : P 0 1 ≤ 4) : ∀ j : Nat, sHi S (fPf P S w j)
  | 0 => fun _ _ => rfl
  | j + 1 => fun k hk => by
    have hm := fM_rng (w := w) (j := j) h0
    show dPush _ _ _ k = _
    unfold dPush
    rw [if_neg (by omega)]
    exact fPf_hi h0 h4 j k hk
theorem okS_pf {P : aP} {S : aSk} {w : Int} (hS : okS P S) (h0 : 0 < P 0 1) (h4 : P 0 1 ≤ 4) : ∀ j : Nat, okS P (fPf P S w j)
  | 0 => hS
  | j + 1 => by
    have hm := fM_rng (w := w) (j := j) h0
    exact okS_push (okS_pf hS h0 h4 j) (by omega)
theorem f8 {a i : Int} (ha : 0 ≤ a ∧ a ≤ 8) (hi : 0 ≤ i ∧ i ≤ 3) : 0 ≤ a ^ i.toNat ∧ a ^ i.toNat ≤ 512 := by
  obtain ⟨a, rfl⟩ := Int.eq_ofNat_of_zero_le ha.1
  have : ∀ a : Nat, a ≤ 8 → ∀ i : Nat, i ≤ 3 → 0 ≤ (a : Int) ^ i ∧ (a : Int) ^ i ≤ 512 := by decide
  exact this a (by omega) _ (by omega)
theorem f8p {a i : Int} (ha : 0 < a) : 0 < a ^ i.toNat := Int.pow_pos ha

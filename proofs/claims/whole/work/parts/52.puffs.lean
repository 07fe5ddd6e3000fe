/-! PUFFS: rows of puffs and ways to place clouds agree -/
theorem aSum_at {f g : Int → Int} {c : Int} (h : ∀ i : Int, i ≠ c → g i = f i) : ∀ n : Nat, aSum g n = aSum f n + (if 0 ≤ c ∧ c < n then g c - f c else 0)
  | 0 => by
    rw [if_neg (by omega)]
    rfl
  | n + 1 => by
    show aSum g n + g n = aSum f n + f n + _
    rw [aSum_at h n]
    by_cases e : (n : Int) = c
    · rw [if_neg (by omega), if_pos (by omega), e]
      omega
    · rw [h n e]
      by_cases e2 : 0 ≤ c ∧ c < n
      · rw [if_pos e2, if_pos (by omega)]
        omega
      · rw [if_neg e2, if_neg (by omega)]
        omega
theorem aSum_some {f : Int → Int} : ∀ n : Nat, 0 < aSum f n → ∃ c : Int, 0 ≤ c ∧ c < n ∧ 0 < f c
  | 0, h => absurd h (Int.lt_irrefl 0)
  | n + 1, h => by
    have h : 0 < aSum f n + f n := h
    by_cases e : 0 < f n
    · exact ⟨n, by omega, by omega, e⟩
    · obtain ⟨c, h1, h2, h3⟩ := aSum_some (f := f) n (by omega)
      exact ⟨c, h1, by omega, h3⟩
theorem aSum_rng0 {f : Int → Int} : ∀ n : Nat, (∀ i : Int, 0 ≤ i ∧ i < n → 0 ≤ f i) → 0 ≤ aSum f n
  | 0, _ => Int.le_refl _
  | n + 1, h => by
    have h0 := aSum_rng0 n (fun i hi => h i (by omega))
    have h1 := h n (by omega)
    show 0 ≤ aSum f n + f n
    omega
theorem aSum_zero {f : Int → Int} : ∀ n : Nat, (∀ i : Int, 0 ≤ i ∧ i < n → 0 ≤ f i) → aSum f n = 0 → ∀ i : Int, 0 ≤ i ∧ i < n → f i = 0
  | 0, _, _ => fun i hi => by omega
  | n + 1, h, e => fun i hi => by
    have e : aSum f n + f n = 0 := e
    have h0 := aSum_rng0 n (fun i hi => h i (by omega))
    have h1 := h n (by omega)
    by_cases c : i = n
    · rw [c]; omega
    · exact aSum_zero n (fun i hi => h i (by omega)) (by omega) i (by omega)
theorem vAny_ex {q : Int → Bool} : ∀ n : Nat, vAny q n = true → ∃ k : Nat, k < n ∧ q k = true
  | 0, h => Bool.noConfusion h
  | n + 1, h => by
    have h : (vAny q n || q n) = true := h
    rcases Bool.or_eq_true _ _ |>.mp h with h | h
    · obtain ⟨k, h1, h2⟩ := vAny_ex n h
      exact ⟨k, by omega, h2⟩
    · exact ⟨n, by omega, h⟩
/-- all is settled, if the clouds lie so -/
def plOk (P : aP) (S : aSk) (x : Int → Int) : Prop := vFill (P 0 1).toNat (P 0 2).toNat (sHas P S) (fun c => sServs P S c (x c)) (sOwed P S) (2 ^ (P 0 1).toNat - 1) = sOwedAll P S
theorem plOk_congr {P : aP} {S : aSk} {x y : Int → Int} (h : ∀ c : Int, 0 ≤ c ∧ c < P 0 1 → x c = y c) (g : plOk P S x) : plOk P S y := by
  unfold plOk at g ⊢
  rw [← g]
  refine vFill_congr (fun c hc => ⟨rfl, ?_⟩) (fun _ _ => rfl) _
  show sServs P S c (y c) = sServs P S c (x c)
  rw [h c (by omega)]
theorem plOk_most {P : aP} {S T : aSk} (h : sHi S T) : (sMost P T = sOwedAll P T) ↔ plOk P S T := by
  unfold plOk sMost
  rw [h.owedAll P]
  rw [vFill_congr (nc := (P 0 1).toNat) (np := (P 0 2).toNat) (h := sHas P T) (h' := sHas P S) (cn := fun c => sServs P T c (T c)) (cn' := fun c => sServs P S c (T c)) (ow := sOwed P T) (ow' := sOwed P S) (fun c hc => ⟨h.has P hc.1, h.servs P hc.1 _⟩) (fun p hp => h.owed P hp.1)]
/-- figures by which clouds are moved, and what they cost -/
def plIn (D : Int → Int) : Prop := ∀ c : Int, 0 ≤ D c ∧ D c < 6
def plC (D : Int → Int) (n : Nat) : Int := aSum (fun c => min (D c) (6 - D c)) n
theorem plNum : ∀ (n : Nat) (D : Int → Int), plIn D → ∃ w : Nat, w < 6 ^ n ∧ ∀ c : Nat, c < n → plD w c = D c
  | 0, _, _ => ⟨0, by decide, fun c hc => absurd hc (by omega)⟩
  | n + 1, D, h => by
    obtain ⟨w, h1, h2⟩ := plNum n (fun c => D (c + 1)) (fun c => h (c + 1))
    have h0 := h 0
    refine ⟨(D 0).toNat + 6 * w, ?_, ?_⟩
    · rw [Nat.pow_succ]
      omega
    · intro c hc
      have e0 : (((D 0).toNat + 6 * w : Nat) : Int) = D 0 + 6 * (w : Int) := by omega
      unfold plD
      rw [e0, Int.toNat_natCast]
      cases c with
      | zero =>
        rw [Int.pow_zero, Int.ediv_one]
        show _ = D 0
        omega
      | succ c =>
        have h3 := h2 c (by omega)
        unfold plD at h3
        rw [Int.toNat_natCast] at h3
        rw [Int.pow_succ, Int.mul_comm ((6 : Int) ^ c) 6, ← Int.ediv_ediv_of_nonneg (show (0 : Int) ≤ 6 by decide)]
        rw [show (D 0 + 6 * (w : Int)) / 6 = (w : Int) by omega, h3]
        show D ((c : Int) + 1) = D ((c + 1 : Nat) : Int)
        rw [Int.natCast_succ]
theorem plC_congr {D E : Int → Int} (n : Nat) (h : ∀ c : Nat, c < n → D c = E c) : plC D n = plC E n := aSum_congr n (fun c hc => by
  obtain ⟨c, rfl⟩ := Int.eq_ofNat_of_zero_le hc.1
  show min (D c) (6 - D c) = min (E c) (6 - E c)
  rw [h c (by omega)])
/-- one cloud is moved on by d -/
def plMv (D : Int → Int) (c d : Int) : Int → Int := fun j => if j = c then (D c + d) % 6 else D j
theorem plMv_in {D : Int → Int} {c d : Int} (h : plIn D) : plIn (plMv D c d) := fun j => by
  unfold plMv
  have := h j
  split <;> omega
theorem plMv_c {D : Int → Int} {c d : Int} (n : Nat) : plC (plMv D c d) n = plC D n + (if 0 ≤ c ∧ c < n then min ((D c + d) % 6) (6 - (D c + d) % 6) - min (D c) (6 - D c) else 0) := by
  unfold plC
  rw [aSum_at (f := fun c => min (D c) (6 - D c)) (c := c) (fun i hi => by
    show min (plMv D c d i) _ = _
    unfold plMv
    rw [if_neg hi]) n]
  show plC D n + (if 0 ≤ c ∧ c < n then min (plMv D c d c) (6 - plMv D c d c) - min (D c) (6 - D c) else 0) = _
  unfold plMv
  rw [if_pos rfl]
  rfl
theorem plPush {S T : aSk} {D : Int → Int} {n : Int} {c : Int} {on : Bool} (h : ∀ j : Int, 0 ≤ j ∧ j < n → T j = (S j + D j) % 6) (hc : 0 ≤ c ∧ c < n) : ∀ j : Int, 0 ≤ j ∧ j < n → dPush T c on j = (S j + plMv D c (if on = true then 1 else -1) j) % 6 := fun j hj => by
  unfold dPush plMv
  by_cases e : j = c
  · rw [if_pos e, if_pos e, h c hc, e]
    omega
  · rw [if_neg e, if_neg e, h j hj]
/-- a row of puffs places the clouds, and its way costs no more -/
theorem plOfRow {P : aP} {S : aSk} {w : Int} (hS : okS P S) (h0 : 0 < P 0 1) (h4 : P 0 1 ≤ 4) : ∀ i : Nat, ∃ D : Int → Int, plIn D ∧ plC D (P 0 1).toNat ≤ i ∧ ∀ c : Int, 0 ≤ c ∧ c < P 0 1 → fPf P S w i c = (S c + D c) % 6
  | 0 => ⟨fun _ => 0, fun _ => (show (0 : Int) ≤ 0 ∧ (0 : Int) < 6 by decide), by
      have e := aSum_rng (f := fun _ => min 0 (6 - 0)) (a := 0) (b := 0) (P 0 1).toNat (fun i _ => by
        show (0 : Int) ≤ min 0 (6 - 0) ∧ min 0 (6 - 0) ≤ (0 : Int)
        omega)
      have e2 : plC (fun _ => 0) (P 0 1).toNat = aSum (fun _ => min 0 (6 - 0)) (P 0 1).toNat := rfl
      rw [e2]
      omega, fun c hc => by
      have := hS.1 c (by omega)
      show S c = (S c + 0) % 6
      omega⟩
  | i + 1 => by
    obtain ⟨D, h1, h2, h3⟩ := plOfRow (w := w) hS h0 h4 i
    have hm := fM_rng (w := w) (j := i) h0
    refine ⟨plMv D (fM P w i / 2) (if decide (fM P w i % 2 = 1) = true then 1 else -1), plMv_in h1, ?_, ?_⟩
    · rw [plMv_c]
      have h5 := h1 (fM P w i / 2)
      cases decide (fM P w i % 2 = 1) <;> simp only [if_true, Bool.false_eq_true, if_false] <;> split <;> omega
    · exact plPush h3 (by omega)
theorem fM_lo {P : aP} {w m : Int} {j k : Nat} (h0 : 0 < P 0 1) (hj : j < k) : fM P (w + m * (2 * P 0 1) ^ k) j = fM P w j := by
  obtain ⟨d, rfl⟩ : ∃ d, k = j + 1 + d := ⟨k - (j + 1), by omega⟩
  unfold fM
  rw [show m * (2 * P 0 1) ^ (j + 1 + d) = (m * (2 * P 0 1) ^ d * (2 * P 0 1)) * (2 * P 0 1) ^ j by
    rw [Int.pow_add, Int.pow_succ]
    simp only [Int.mul_assoc, Int.mul_comm, Int.mul_left_comm]]
  rw [Int.add_mul_ediv_right _ _ (Int.ne_of_gt (Int.pow_pos (by omega)))]
  exact Int.add_mul_emod_self_right _ _ _
theorem fM_hi {P : aP} {w m : Int} {k : Nat} (h0 : 0 < P 0 1) (hw : 0 ≤ w ∧ w < (2 * P 0 1) ^ k) (hm : 0 ≤ m ∧ m < 2 * P 0 1) : fM P (w + m * (2 * P 0 1) ^ k) k = m := by
  unfold fM
  rw [Int.add_mul_ediv_right _ _ (Int.ne_of_gt (Int.pow_pos (by omega))), Int.ediv_eq_zero_of_lt hw.1 hw.2, Int.zero_add]
  exact Int.emod_eq_of_lt hm.1 hm.2
theorem fPf_lo {P : aP} {S : aSk} {w m : Int} {k : Nat} (h0 : 0 < P 0 1) : ∀ j : Nat, j ≤ k → fPf P S (w + m * (2 * P 0 1) ^ k) j = fPf P S w j
  | 0, _ => rfl
  | j + 1, h => by
    show dPush (fPf P S (w + m * (2 * P 0 1) ^ k) j) (fM P (w + m * (2 * P 0 1) ^ k) j / 2) _ = dPush (fPf P S w j) (fM P w j / 2) _
    rw [fPf_lo h0 j (by omega), fM_lo h0 (by omega)]
/-- a way of cost k is reached by a row of k puffs -/
theorem plToRow {P : aP} {S : aSk} (hS : okS P S) (h0 : 0 < P 0 1) (h4 : P 0 1 ≤ 4) : ∀ (k : Nat) (D : Int → Int), plIn D → plC D (P 0 1).toNat = k → ∃ w : Int, (0 ≤ w ∧ w < (2 * P 0 1) ^ k) ∧ ∀ c : Int, 0 ≤ c ∧ c < P 0 1 → fPf P S w k c = (S c + D c) % 6
  | 0, D, h, e => ⟨0, by rw [Int.pow_zero]; omega, fun c hc => by
      have h1 := aSum_zero (P 0 1).toNat (fun i _ => by
        have := h i
        show 0 ≤ min (D i) (6 - D i)
        omega) e c (by omega)
      have h1 : min (D c) (6 - D c) = 0 := h1
      have := h c
      have := hS.1 c (by omega)
      show S c = (S c + D c) % 6
      omega⟩
  | k + 1, D, h, e => by
    obtain ⟨c, c1, c2, c3⟩ := aSum_some (f := fun c => min (D c) (6 - D c)) (P 0 1).toNat (by
      unfold plC at e
      omega)
    have c3 : 0 < min (D c) (6 - D c) := c3
    have hc := h c
    obtain ⟨on, hon⟩ : ∃ on : Bool, on = decide (D c ≤ 3) := ⟨_, rfl⟩
    have e2 : plC (plMv D c (if on = true then -1 else 1)) (P 0 1).toNat = k := by
      rw [plMv_c, e, if_pos (by omega)]
      by_cases d : D c ≤ 3
      · rw [hon, decide_eq_true d, if_pos rfl]
        omega
      · rw [hon, decide_eq_false d, if_neg Bool.noConfusion]
        omega
    obtain ⟨w, w1, w2⟩ := plToRow hS h0 h4 k _ (plMv_in h) e2
    have hm : 0 ≤ 2 * c + (if on = true then 1 else 0) ∧ 2 * c + (if on = true then 1 else 0) < 2 * P 0 1 := by
      split <;> omega
    refine ⟨w + (2 * c + (if on = true then 1 else 0)) * (2 * P 0 1) ^ k, ?_, ?_⟩
    · have hp : 0 < (2 * P 0 1) ^ k := Int.pow_pos (by omega)
      rw [Int.pow_succ]
      generalize (2 * P 0 1) ^ k = B at hp w1
      generalize hM : 2 * c + (if on = true then 1 else 0) = M at hm
      generalize 2 * P 0 1 = N at hm
      have g1 : 0 ≤ M * B := Int.mul_nonneg hm.1 (by omega)
      have g2 : (M + 1) * B ≤ N * B := Int.mul_le_mul_of_nonneg_right (by omega) (by omega)
      rw [Int.add_mul] at g2
      rw [Int.mul_comm B N]
      omega
    · intro j hj
      show dPush (fPf P S (w + (2 * c + (if on = true then 1 else 0)) * (2 * P 0 1) ^ k) k) (fM P (w + (2 * c + (if on = true then 1 else 0)) * (2 * P 0 1) ^ k) k / 2) _ j = _
      rw [fM_hi h0 w1 hm, fPf_lo h0 k (by omega)]
      have hcc : (2 * c + (if on = true then 1 else 0)) / 2 = c := by split <;> omega
      have hoo : decide ((2 * c + (if on = true then 1 else 0)) % 2 = 1) = on := by
        cases on
        · rw [if_neg Bool.noConfusion]
          exact decide_eq_false (by omega)
        · rw [if_pos rfl]
          exact decide_eq_true (by omega)
      rw [hcc, hoo, plPush (on := on) w2 ⟨c1, by omega⟩ j hj]
      unfold plMv
      by_cases ej : j = c
      · rw [if_pos ej, if_pos rfl, ej]
        cases on
        · rw [if_neg Bool.noConfusion, if_neg Bool.noConfusion]
          omega
        · rw [if_pos rfl, if_pos rfl]
          omega
      · rw [if_neg ej, if_neg ej]
theorem plFew_le {P : aP} {S : aSk} {w : Nat} (h : plMost P S w = sOwedAll P S) : ∀ n : Nat, w < n → plFew P S n ≤ plCost (P 0 1).toNat w
  | 0, hw => absurd hw (by omega)
  | n + 1, hw => by
    unfold plFew
    by_cases e : w = n
    · rw [← e]
      by_cases d : plCost (P 0 1).toNat w < plFew P S w
      · rw [if_pos ⟨d, h⟩]
        exact Int.le_refl _
      · rw [if_neg (fun q => d q.1)]
        omega
    · have := plFew_le h n (by omega)
      split <;> omega
theorem plFew_at {P : aP} {S : aSk} : ∀ n : Nat, plFew P S n = 4 ∨ ∃ w : Nat, w < n ∧ plMost P S w = sOwedAll P S ∧ plCost (P 0 1).toNat w = plFew P S n
  | 0 => Or.inl rfl
  | n + 1 => by
    unfold plFew
    by_cases d : plCost (P 0 1).toNat n < plFew P S n ∧ plMost P S n = sOwedAll P S
    · rw [if_pos d]
      exact Or.inr ⟨n, by omega, d.2, rfl⟩
    · rw [if_neg d]
      rcases plFew_at (P := P) (S := S) n with h | ⟨w, h1, h2, h3⟩
      · exact Or.inl h
      · exact Or.inr ⟨w, by omega, h2, h3⟩
theorem qPuffs_eq {P : aP} {S : aSk} (hP : okP P) (hS : okS P S) (h0 : 0 < P 0 1) : qPuffs P S = sPuffs P S := by
  have h4 : P 0 1 ≤ 4 := by have := hP.2.1; omega
  have h2 : ∀ i : Int, 0 ≤ i → fAll P S i = true → plFew P S (6 ^ (P 0 1).toNat) ≤ i := fun i hi hq => by
    unfold fAll at hq
    obtain ⟨w, _, w2⟩ := vAny_ex _ hq
    unfold fOkW at w2
    have w3 := (plOk_most (fPf_hi h0 h4 i.toNat)).mp (of_decide_eq_true w2)
    obtain ⟨D, d1, d2, d3⟩ := plOfRow (w := w) hS h0 h4 i.toNat
    obtain ⟨v, v1, v2⟩ := plNum (P 0 1).toNat D d1
    have e1 : plMost P S v = sOwedAll P S := plOk_congr (x := fPf P S w i.toNat) (y := fun c => (S c + plD v c) % 6) (fun c hc => by
      rw [d3 c hc]
      obtain ⟨c, rfl⟩ := Int.eq_ofNat_of_zero_le hc.1
      have := v2 c (by omega)
      show _ = (S c + plD v c) % 6
      rw [this]) w3
    have e2 : plCost (P 0 1).toNat v = plC D (P 0 1).toNat := plC_congr (D := plD v) _ v2
    have := plFew_le e1 _ v1
    omega
  have hr := plFew_rng (P := P) (S := S) (6 ^ (P 0 1).toNat)
  unfold qPuffs sPuffs
  rcases plFew_at (P := P) (S := S) (6 ^ (P 0 1).toNat) with e | ⟨w, w1, w2, w3⟩
  · rw [e, if_pos (by decide)]
    exact vFst_none 4 (fun k hk => by
      cases hq : fAll P S k
      · rfl
      · have := h2 k hk.1 hq
        omega)
  · generalize hF : plFew P S (6 ^ (P 0 1).toNat) = F at *
    by_cases e4 : 3 < F
    · rw [if_pos e4]
      exact vFst_none 4 (fun k hk => by
        cases hq : fAll P S k
        · rfl
        · have := h2 k hk.1 hq
          omega)
    · rw [if_neg e4]
      obtain ⟨k, rfl⟩ := Int.eq_ofNat_of_zero_le hr.1
      refine vFst_at (m := k) (fun i hi => ?_) ?_ 4 (by omega)
      · cases hq : fAll P S i
        · rfl
        · have := h2 i hi.1 hq
          omega
      · obtain ⟨v, v1, v2⟩ := plToRow hS h0 h4 k (plD w) (fun c => plD_rng w c) w3
        have ok : fOkW P S k v = true := by
          unfold fOkW
          rw [Int.toNat_natCast]
          refine decide_eq_true ((plOk_most (fPf_hi h0 h4 k)).mpr ?_)
          exact plOk_congr (x := fun c => (S c + plD w c) % 6) (fun c hc => (v2 c hc).symm) w2
        unfold fAll
        obtain ⟨v, rfl⟩ := Int.eq_ofNat_of_zero_le v1.1
        refine vAny_at ok _ ?_
        rw [Int.toNat_natCast]
        omega

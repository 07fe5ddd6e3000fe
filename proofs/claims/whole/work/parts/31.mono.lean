/-! bits, and that more clouds fill no less -/
theorem aBit_n (m : Nat) (p : Int) : aBit (m : Int) p = m.testBit p.toNat := by
  unfold aBit
  rw [Nat.testBit_eq_decide_div_mod_eq]
  have e : ((m : Int) / 2 ^ p.toNat % 2 = 1) ↔ (m / 2 ^ p.toNat % 2 = 1) := by
    have : (m : Int) / 2 ^ p.toNat % 2 = ((m / 2 ^ p.toNat % 2 : Nat) : Int) := by simp
    omega
  simp only [e]
theorem aBit_t {x p : Int} (hx : 0 ≤ x) : aBit x p = x.toNat.testBit p.toNat := by
  rw [← aBit_n, Int.toNat_of_nonneg hx]
theorem aBit_or {x y : Int} (p : Int) (hx : 0 ≤ x) (hy : 0 ≤ y) : aBit (aOr x y) p = (aBit x p || aBit y p) := by
  unfold aOr
  rw [aBit_n, aBit_t hx, aBit_t hy, Nat.testBit_or]
theorem aBit_and {x y : Int} (p : Int) (hx : 0 ≤ x) (hy : 0 ≤ y) : aBit (aAnd x y) p = (aBit x p && aBit y p) := by
  unfold aAnd
  rw [aBit_n, aBit_t hx, aBit_t hy, Nat.testBit_and]
theorem aBit_inj {x y : Int} (hx : 0 ≤ x) (hy : 0 ≤ y) (h : ∀ p : Int, 0 ≤ p → aBit x p = aBit y p) : x = y := by
  have : x.toNat = y.toNat := Nat.eq_of_testBit_eq (fun i => by
    have := h i (by omega)
    rw [aBit_t hx, aBit_t hy] at this
    exact this)
  omega
theorem vSub_bits {s pr : Int} (hs : 0 ≤ s) (hp : 0 ≤ pr) : vSub s pr = true ↔ ∀ k : Int, 0 ≤ k → aBit s k = true → aBit pr k = true := by
  unfold vSub
  rw [decide_eq_true_iff]
  constructor
  · intro h k hk hb
    rw [← h, aBit_and k hs hp] at hb
    simp only [Bool.and_eq_true] at hb
    exact hb.2
  · intro h
    refine aBit_inj (by unfold aAnd; omega) hs (fun k hk => ?_)
    rw [aBit_and k hs hp]
    cases e : aBit s k
    · rfl
    · rw [h k hk e]; rfl
theorem vMin_le0 {f : Int → Int} {ok : Int → Bool} {i0 : Int} : ∀ n : Nat, vMin f ok i0 n ≤ i0
  | 0 => Int.le_refl _
  | n + 1 => by
    have := vMin_le0 (f := f) (ok := ok) (i0 := i0) n
    unfold vMin
    split <;> omega
theorem vMin_le {f : Int → Int} {ok : Int → Bool} {i0 : Int} : ∀ (n : Nat) (i : Nat), i < n → ok i = true → vMin f ok i0 n ≤ f i
  | 0, i, h, _ => by omega
  | n + 1, i, h, hk => by
    unfold vMin
    by_cases e : i = n
    · subst e
      rw [if_pos hk]; omega
    · have := vMin_le (f := f) (ok := ok) (i0 := i0) n i (by omega) hk
      split <;> omega
theorem vMin_ge {f : Int → Int} {ok : Int → Bool} {i0 x : Int} (h0 : x ≤ i0) : ∀ n : Nat, (∀ i : Nat, i < n → ok i = true → x ≤ f i) → x ≤ vMin f ok i0 n
  | 0, _ => h0
  | n + 1, h => by
    have := vMin_ge (f := f) (ok := ok) h0 n (fun i hi => h i (by omega))
    unfold vMin
    split
    · rename_i hk
      have := h n (by omega) hk
      omega
    · exact this
theorem aSum_mono {f g : Int → Int} : ∀ n : Nat, (∀ i : Int, 0 ≤ i ∧ i < n → f i ≤ g i) → aSum f n ≤ aSum g n
  | 0, _ => Int.le_refl _
  | n + 1, h => by
    have h1 := aSum_mono (f := f) (g := g) n (fun i hi => h i (by omega))
    have h2 := h n (by omega)
    show aSum f n + f n ≤ aSum g n + g n
    omega
theorem vOB_mono {ow : Int → Int} {np : Nat} {m m' : Int} (ho : ∀ p : Int, 0 ≤ p ∧ p < np → 0 ≤ ow p) (h : ∀ p : Int, 0 ≤ p → aBit m p = true → aBit m' p = true) : vOB ow np m ≤ vOB ow np m' := by
  refine aSum_mono np (fun p hp => ?_)
  have := ho p hp
  try dsimp only
  cases e : aBit m p
  · rw [if_neg (by decide)]
    split <;> omega
  · rw [h p hp.1 e]; exact Int.le_refl _
theorem aOrs_nn (f : Int → Int) (h0 : ∀ n : Nat, 0 ≤ f n) : ∀ n : Nat, 0 ≤ aOrs f n
  | 0 => Int.le_refl _
  | n + 1 => by show 0 ≤ aOr _ _; unfold aOr; omega
theorem aOrs_bit {f : Int → Int} {p : Int} : ∀ n : Nat, (∀ i : Int, 0 ≤ i ∧ i < n → 0 ≤ f i) → (0 ≤ aOrs f n ∧ (aBit (aOrs f n) p = true ↔ ∃ i : Int, (0 ≤ i ∧ i < n) ∧ aBit (f i) p = true))
  | 0, _ => by
    refine ⟨Int.le_refl _, ?_⟩
    constructor
    · intro h
      have : aBit 0 p = false := by unfold aBit; simp
      rw [show aOrs f 0 = 0 from rfl, this] at h
      cases h
    · rintro ⟨i, hi, -⟩
      omega
  | n + 1, h => by
    obtain ⟨h1, h2⟩ := aOrs_bit (p := p) n (fun i hi => h i (by omega))
    have h3 := h n (by omega)
    refine ⟨by show 0 ≤ aOr _ _; unfold aOr; omega, ?_⟩
    show aBit (aOr (aOrs f n) (f n)) p = true ↔ _
    rw [aBit_or p h1 h3, Bool.or_eq_true, h2]
    constructor
    · rintro (⟨i, hi, hb⟩ | hb)
      · exact ⟨i, by omega, hb⟩
      · exact ⟨n, by omega, hb⟩
    · rintro ⟨i, hi, hb⟩
      by_cases e : i = n
      · subst e; exact Or.inr hb
      · exact Or.inl ⟨i, by omega, hb⟩
theorem vCut_mono {nc np : Nat} {h cn ow : Int → Int} (hh : ∀ c : Int, 0 ≤ c ∧ c < nc → 0 ≤ h c) (hc : ∀ c : Int, 0 ≤ c ∧ c < nc → 0 ≤ cn c) (ho : ∀ p : Int, 0 ≤ p ∧ p < np → 0 ≤ ow p) {i j pr pr' : Int} (hj : ∀ c : Int, 0 ≤ c → aBit j c = (aBit i c && aBit pr c)) (hpp : ∀ c : Int, 0 ≤ c → aBit pr c = true → aBit pr' c = true) : vCut nc np h cn ow j pr ≤ vCut nc np h cn ow i pr' := by
  unfold vCut
  refine Int.add_le_add (aSum_mono nc (fun c hcc => ?_)) (vOB_mono ho (fun p hp hb => ?_))
  · have h0 := hh c hcc
    try dsimp only
    rw [hj c hcc.1]
    cases e1 : aBit i c <;> cases e2 : aBit pr c
    · simp only [Bool.and_false, Bool.false_eq_true, if_false]; split <;> omega
    · rw [hpp c hcc.1 e2]; simp
    · simp
    · simp
  · have z0 : ∀ s : Int, ∀ c : Int, 0 ≤ c ∧ c < nc → 0 ≤ (if aBit s c = true then cn c else 0) := fun s c hcc => by
      have := hc c hcc
      split <;> omega
    rw [(aOrs_bit (p := p) nc (z0 j)).2] at hb
    rw [(aOrs_bit (p := p) nc (z0 i)).2]
    obtain ⟨c, hcc, hb⟩ := hb
    refine ⟨c, hcc, ?_⟩
    cases e : aBit j c
    · rw [e, if_neg (by decide)] at hb
      have : aBit 0 p = false := by unfold aBit; simp
      rw [this] at hb
      cases hb
    · rw [e, if_pos rfl] at hb
      have := hj c hcc.1
      rw [e] at this
      have := (Bool.and_eq_true _ _ ▸ this.symm : aBit i c = true ∧ aBit pr c = true)
      rw [this.1, if_pos rfl]
      exact hb
theorem vFill_mono {nc np : Nat} {h cn ow : Int → Int} (hh : ∀ c : Int, 0 ≤ c ∧ c < nc → 0 ≤ h c) (hc : ∀ c : Int, 0 ≤ c ∧ c < nc → 0 ≤ cn c) (ho : ∀ p : Int, 0 ≤ p ∧ p < np → 0 ≤ ow p) {pr pr' : Int} (h1 : 0 ≤ pr) (h2 : 0 ≤ pr') (hpp : ∀ c : Int, 0 ≤ c → aBit pr c = true → aBit pr' c = true) : vFill nc np h cn ow pr ≤ vFill nc np h cn ow pr' := by
  unfold vFill
  refine vMin_ge (vMin_le0 _) _ (fun i hi hk => ?_)
  have hj : (i &&& pr.toNat) < 2 ^ nc := Nat.lt_of_le_of_lt Nat.and_le_left hi
  have ej : ((i &&& pr.toNat : Nat) : Int) = aAnd (i : Int) pr := rfl
  refine Int.le_trans (vMin_le (2 ^ nc) (i &&& pr.toNat) hj ?_) ?_
  · rw [ej, vSub_bits (by unfold aAnd; omega) h1]
    intro k hk0 hb
    rw [aBit_and k (by omega) h1] at hb
    simp only [Bool.and_eq_true] at hb
    exact hb.2
  · rw [ej]
    exact vCut_mono hh hc ho (fun c hc0 => aBit_and c (by omega) h1) hpp

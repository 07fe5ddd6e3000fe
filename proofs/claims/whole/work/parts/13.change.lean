/-! HOW A SKY CHANGES -/
def dDrop (P : aP) (S : aSk) (c p : Int) : aSk := fun j => if j = 8 + p then S (8 + p) + 1 else if j = 4 + c then S (4 + c) - (if P 4 c = 1 then 2 else 1) else S j
def dPush (S : aSk) (c : Int) (on : Bool) : aSk := fun j => if j = c then (S c + (if on = true then 1 else -1)) % 6 else S j
def dRip (S : aSk) (p : Int) : aSk := fun j => if j = 8 + p then 0 else if j = 13 then aOr (S 13) (2 ^ p.toNat) else S j
def sMore (P : aP) (S : aSk) : Int := sUmb P S (S 15 + 1) - S 14
def dDay (P : aP) (S : aSk) : aSk := fun j => if j = 15 then S 15 + 1 else if j = 14 then S 14 + sMore P S else if 0 ≤ j ∧ j < P 0 1 then (S j + pDrift P (P 4 j) (S 15)) % 6 else S j
def aOff (Z Z' : aZ) (k : Nat) : Prop := ∀ a : Nat, ¬ (k ≤ a ∧ a ≤ k + 3) → Z' a = Z a
theorem aOff.rf {Z : aZ} {k : Nat} : aOff Z Z k := fun _ _ => rfl
theorem aOff.tr {Z Z1 Z2 : aZ} {k : Nat} (h1 : aOff Z Z1 k) (h2 : aOff Z1 Z2 k) : aOff Z Z2 k := fun a ha => (h2 a ha).trans (h1 a ha)
theorem aOff.u {Z Z1 : aZ} {k a : Nat} {j v : Int} (h : aOff Z Z1 k) (ha : k ≤ a ∧ a ≤ k + 3) : aOff Z (aU Z1 a j v) k := fun b hb => by
  rw [aU_row (fun e => hb (by rw [e]; exact ha))]
  exact h b hb
theorem aOff.up {Z Z1 : aZ} {k a : Nat} {g : Int → Int} (h : aOff Z Z1 k) (ha : k ≤ a ∧ a ≤ k + 3) : aOff Z (aUp Z1 a g) k := fun b hb => by
  unfold aUp
  rw [if_neg (fun e => hb (by rw [e]; exact ha))]
  exact h b hb
theorem vP_eq {Z Z' : aZ} (h : ∀ a : Nat, 3 ≤ a ∧ a ≤ 11 → Z' a = Z a) : vP Z' = vP Z := by
  funext r
  unfold vP
  split
  · rw [h 3 (by omega)]
  · exact h 4 (by omega)
  · exact h 7 (by omega)
  · exact h 8 (by omega)
  · exact h 9 (by omega)
  · exact h 10 (by omega)
  · exact h 11 (by omega)
  · rfl
theorem aOff.P {Z Z' : aZ} {k : Nat} (h : aOff Z Z' k) (hk : 11 < k) : vP Z' = vP Z := vP_eq (fun a ha => h a (by omega))
theorem aOff.S {Z Z' : aZ} {k k2 : Nat} (h : aOff Z Z' k) (hk : 11 < k) (h2 : k2 + 3 < k ∨ k + 3 < k2) : vS Z' k2 = vS Z k2 := by
  funext j
  unfold vS
  rw [h 3 (by omega), h (k2 + 1) (by omega), h (k2 + 2) (by omega), h (k2 + 3) (by omega), h k2 (by omega)]
theorem vS_u1 {Z : aZ} {k : Nat} {c v : Int} (hk : 11 < k) (hc : 0 ≤ c ∧ c < 4 ∧ c < Z 3 9) : vS (aU Z (k + 1) c v) k = fun j => if j = c then v else vS Z k j := by
  funext j
  unfold vS
  simp only [aU_row (Z := Z) (k := k + 1) (j := c) (v := v) (show 3 ≠ k + 1 by omega), aU_row (Z := Z) (k := k + 1) (j := c) (v := v) (show k + 2 ≠ k + 1 by omega), aU_row (Z := Z) (k := k + 1) (j := c) (v := v) (show k + 3 ≠ k + 1 by omega), aU_row (Z := Z) (k := k + 1) (j := c) (v := v) (show k ≠ k + 1 by omega), aU_at]
  by_cases h : j = c
  · subst h
    rw [if_neg (by omega), if_pos (by omega), if_pos (by omega), if_pos rfl, if_pos rfl]
  · simp only [if_neg h]
theorem vS_u2 {Z : aZ} {k : Nat} {c v : Int} (hk : 11 < k) (hc : 0 ≤ c ∧ c < 4 ∧ c < Z 3 9) : vS (aU Z (k + 2) c v) k = fun j => if j = 4 + c then v else vS Z k j := by
  funext j
  unfold vS
  simp only [aU_row (Z := Z) (k := k + 2) (j := c) (v := v) (show 3 ≠ k + 2 by omega), aU_row (Z := Z) (k := k + 2) (j := c) (v := v) (show k + 1 ≠ k + 2 by omega), aU_row (Z := Z) (k := k + 2) (j := c) (v := v) (show k + 3 ≠ k + 2 by omega), aU_row (Z := Z) (k := k + 2) (j := c) (v := v) (show k ≠ k + 2 by omega), aU_at]
  by_cases h : j = 4 + c
  · subst h
    rw [if_neg (by omega), if_neg (by omega), if_pos (by omega), if_pos (by omega), if_pos (by omega), if_pos rfl]
  · rw [if_neg h]
    by_cases h4 : j < 8
    · rw [if_neg (show ¬ j - 4 = c by omega)]
    · simp only [if_neg h4]
theorem vS_u3 {Z : aZ} {k : Nat} {p v : Int} (hk : 11 < k) (hp : 0 ≤ p ∧ p < 5) : vS (aU Z (k + 3) p v) k = fun j => if j = 8 + p then v else vS Z k j := by
  funext j
  unfold vS
  simp only [aU_row (Z := Z) (k := k + 3) (j := p) (v := v) (show 3 ≠ k + 3 by omega), aU_row (Z := Z) (k := k + 3) (j := p) (v := v) (show k + 1 ≠ k + 3 by omega), aU_row (Z := Z) (k := k + 3) (j := p) (v := v) (show k + 2 ≠ k + 3 by omega), aU_row (Z := Z) (k := k + 3) (j := p) (v := v) (show k ≠ k + 3 by omega), aU_at]
  by_cases h : j = 8 + p
  · subst h
    rw [if_neg (by omega), if_neg (by omega), if_neg (by omega), if_pos (by omega), if_pos (by omega), if_pos rfl]
  · rw [if_neg h]
    by_cases h4 : j < 13
    · rw [if_neg (show ¬ j - 8 = p by omega)]
    · simp only [if_neg h4]
theorem vS_uo {Z : aZ} {k : Nat} {i v : Int} (hk : 11 < k) (hi : i = 4 ∨ i = 5 ∨ i = 6) : vS (aU Z k i v) k = fun j => if j = 9 + i then v else vS Z k j := by
  funext j
  unfold vS
  simp only [aU_row (Z := Z) (k := k) (j := i) (v := v) (show 3 ≠ k by omega), aU_row (Z := Z) (k := k) (j := i) (v := v) (show k + 1 ≠ k by omega), aU_row (Z := Z) (k := k) (j := i) (v := v) (show k + 2 ≠ k by omega), aU_row (Z := Z) (k := k) (j := i) (v := v) (show k + 3 ≠ k by omega), aU_at]
  by_cases h : j = 9 + i
  · subst h
    rw [if_neg (by omega), if_neg (by omega), if_neg (by omega), if_neg (by omega), if_pos rfl]
    rcases hi with rfl | rfl | rfl <;> rfl
  · rw [if_neg h]
    by_cases h0 : j = 13
    · subst h0; rw [if_neg (show ¬ (4 : Int) = i by omega)]; simp
    · by_cases h1 : j = 14
      · subst h1; rw [if_neg (show ¬ (5 : Int) = i by omega)]; simp
      · by_cases h2 : j = 15
        · subst h2; rw [if_neg (show ¬ (6 : Int) = i by omega)]; simp
        · simp only [if_neg h0, if_neg h1, if_neg h2]
theorem aOr_rng {x y : Int} {n : Nat} (hx : 0 ≤ x ∧ x < 2 ^ n) (hy : 0 ≤ y ∧ y < 2 ^ n) : 0 ≤ aOr x y ∧ aOr x y < 2 ^ n := by
  unfold aOr
  have e : ((2 : Int) ^ n) = ((2 ^ n : Nat) : Int) := by simp
  rw [e] at hx hy ⊢
  have := Nat.or_lt_two_pow (x := x.toNat) (y := y.toNat) (n := n) (by omega) (by omega)
  omega
theorem okS_drop {P : aP} {S : aSk} (h : okS P S) {c p : Int} (hc : 0 ≤ c ∧ c < 4) (hp : 0 ≤ p ∧ p < 5) (h1 : 1 ≤ sHas P S c) (h2 : 1 ≤ sOwed P S p) : okS P (dDrop P S c p) := by
  obtain ⟨a1, a2, a3, a4, a5, a6⟩ := h
  have f1 := a2 c hc
  have f2 : 0 ≤ S (4 + c) - (if P 4 c = 1 then 2 else 1) := by
    unfold sHas at h1
    split at h1 <;> rename_i q
    · rw [if_pos q]; omega
    · rw [if_neg q]; omega
  have f4 : (if P 4 c = 1 then (2 : Int) else 1) ≥ 0 := by split <;> omega
  have f3 : S (8 + p) + 1 ≤ P 8 p := by
    unfold sOwed at h2
    split at h2 <;> omega
  have f5 := a3 p hp
  refine ⟨fun d hd => ?_, fun d hd => ?_, fun q hq => ?_, ?_, ?_, ?_⟩
  · show 0 ≤ (if d = 8 + p then _ else if d = 4 + c then _ else S d) ∧ (if d = 8 + p then _ else if d = 4 + c then _ else S d) ≤ 5
    rw [if_neg (by omega), if_neg (by omega)]
    exact a1 d hd
  · show 0 ≤ (if 4 + d = 8 + p then _ else if 4 + d = 4 + c then _ else S (4 + d)) ∧ (if 4 + d = 8 + p then _ else if 4 + d = 4 + c then _ else S (4 + d)) ≤ 9
    rw [if_neg (by omega)]
    by_cases e : 4 + d = 4 + c
    · rw [if_pos e]; omega
    · rw [if_neg e]; exact a2 d hd
  · show 0 ≤ (if 8 + q = 8 + p then S (8 + p) + 1 else if 8 + q = 4 + c then _ else S (8 + q)) ∧ (if 8 + q = 8 + p then S (8 + p) + 1 else if 8 + q = 4 + c then _ else S (8 + q)) ≤ P 8 q
    by_cases e : 8 + q = 8 + p
    · rw [if_pos e]
      obtain rfl : q = p := by omega
      omega
    · rw [if_neg e, if_neg (by omega)]; exact a3 q hq
  · show 0 ≤ (if (13 : Int) = 8 + p then _ else if (13 : Int) = 4 + c then _ else S 13) ∧ (if (13 : Int) = 8 + p then _ else if (13 : Int) = 4 + c then _ else S 13) < 32
    rw [if_neg (by omega), if_neg (by omega)]; exact a4
  · show 0 ≤ (if (14 : Int) = 8 + p then _ else if (14 : Int) = 4 + c then _ else S 14) ∧ (if (14 : Int) = 8 + p then _ else if (14 : Int) = 4 + c then _ else S 14) ≤ 45 * (if (15 : Int) = 8 + p then _ else if (15 : Int) = 4 + c then _ else S 15)
    rw [if_neg (by omega), if_neg (by omega), if_neg (by omega), if_neg (by omega)]; exact a5
  · show 0 ≤ (if (15 : Int) = 8 + p then _ else if (15 : Int) = 4 + c then _ else S 15)
    rw [if_neg (by omega), if_neg (by omega)]; exact a6
theorem okS_push {P : aP} {S : aSk} (h : okS P S) {c : Int} {on : Bool} (hc : 0 ≤ c ∧ c < 4) : okS P (dPush S c on) := by
  obtain ⟨a1, a2, a3, a4, a5, a6⟩ := h
  have g1 := Int.emod_nonneg (S c + (if on = true then 1 else -1)) (show (6 : Int) ≠ 0 by omega)
  have g2 := Int.emod_lt_of_pos (S c + (if on = true then 1 else -1)) (show (0 : Int) < 6 by omega)
  have ne : ∀ j : Int, j ≠ c → dPush S c on j = S j := fun j hj => if_neg hj
  refine ⟨fun d hd => ?_, fun d hd => ?_, fun q hq => ?_, ?_, ?_, ?_⟩
  · by_cases e : d = c
    · subst e
      show 0 ≤ (if d = d then _ else _) ∧ (if d = d then _ else _) ≤ 5
      rw [if_pos rfl]
      omega
    · rw [ne d e]; exact a1 d hd
  · rw [ne _ (by omega)]; exact a2 d hd
  · rw [ne _ (by omega)]; exact a3 q hq
  · rw [ne _ (by omega)]; exact a4
  · rw [ne _ (by omega), ne _ (by omega)]; exact a5
  · rw [ne _ (by omega)]; exact a6
theorem okS_rip {P : aP} {S : aSk} (hP : okP P) (h : okS P S) {p : Int} (hp : 0 ≤ p ∧ p < 5) : okS P (dRip S p) := by
  obtain ⟨a1, a2, a3, a4, a5, a6⟩ := h
  have hw := aPow2 hp
  have g := aOr_rng (x := S 13) (y := 2 ^ p.toNat) (n := 5) (by omega) (by omega)
  have ne : ∀ j : Int, j ≠ 8 + p → j ≠ 13 → dRip S p j = S j := fun j h1 h2 => by unfold dRip; rw [if_neg h1, if_neg h2]
  refine ⟨fun d hd => ?_, fun d hd => ?_, fun q hq => ?_, ?_, ?_, ?_⟩
  · rw [ne _ (by omega) (by omega)]; exact a1 d hd
  · rw [ne _ (by omega) (by omega)]; exact a2 d hd
  · by_cases e : q = p
    · subst e
      have : dRip S q (8 + q) = 0 := if_pos rfl
      rw [this]
      have := hP.2.2.2.2.2.2.2.2 q
      omega
    · rw [ne _ (by omega) (by omega)]; exact a3 q hq
  · have : dRip S p 13 = aOr (S 13) (2 ^ p.toNat) := by unfold dRip; rw [if_neg (by omega), if_pos rfl]
    rw [this]
    omega
  · rw [ne _ (by omega) (by omega), ne _ (by omega) (by omega)]; exact a5
  · rw [ne _ (by omega) (by omega)]; exact a6
theorem sMore_rng {P : aP} {S : aSk} (hP : okP P) (h : okS P S) : 0 ≤ sMore P S ∧ sMore P S ≤ 45 := by
  unfold sMore sUmb
  have hp := hP.2.2.1
  have := aSum_rng (f := fun p => if P 6 p < S 15 + 1 then sOwed P S p else 0) (a := 0) (b := 9) (P 0 2).toNat (fun i hi => by
    have := sOwed_rng hP h (p := i) (by omega)
    try dsimp only
    split <;> omega)
  omega
theorem okS_day {P : aP} {S : aSk} (hP : okP P) (h : okS P S) : okS P (dDay P S) := by
  have hm := sMore_rng hP h
  obtain ⟨a1, a2, a3, a4, a5, a6⟩ := h
  have hc := hP.2.1
  have ne : ∀ j : Int, ¬ (0 ≤ j ∧ j < P 0 1) → j ≠ 14 → j ≠ 15 → dDay P S j = S j := fun j h1 h2 h3 => by unfold dDay; rw [if_neg h3, if_neg h2, if_neg h1]
  have e14 : dDay P S 14 = S 14 + sMore P S := by unfold dDay; rw [if_neg (by omega), if_pos rfl]
  have e15 : dDay P S 15 = S 15 + 1 := by unfold dDay; rw [if_pos rfl]
  refine ⟨fun d hd => ?_, fun d hd => ?_, fun q hq => ?_, ?_, ?_, ?_⟩
  · by_cases e : d < P 0 1
    · have : dDay P S d = (S d + pDrift P (P 4 d) (S 15)) % 6 := by unfold dDay; rw [if_neg (by omega), if_neg (by omega), if_pos (by omega)]
      rw [this]
      have g1 := Int.emod_nonneg (S d + pDrift P (P 4 d) (S 15)) (show (6 : Int) ≠ 0 by omega)
      have g2 := Int.emod_lt_of_pos (S d + pDrift P (P 4 d) (S 15)) (show (0 : Int) < 6 by omega)
      omega
    · rw [ne _ (by omega) (by omega) (by omega)]; exact a1 d hd
  · rw [ne _ (by omega) (by omega) (by omega)]; exact a2 d hd
  · rw [ne _ (by omega) (by omega) (by omega)]; exact a3 q hq
  · rw [ne _ (by omega) (by omega) (by omega)]; exact a4
  · rw [e14, e15]; omega
  · rw [e15]; omega
theorem sCan_takes {P : aP} {S : aSk} {c p : Int} (h : sCan P S c p = true) : 1 ≤ sHas P S c ∧ 1 ≤ sOwed P S p := by
  unfold sCan at h
  have h1 := (of_decide_eq_true h).2
  unfold sTakes at h1
  have h2 := of_decide_eq_true h1
  exact ⟨h2.1, h2.2.1⟩
theorem vS_day {Z Z1 : aZ} {k : Nat} {f : Int → Int} (hk : 11 < k) (h4 : Z 3 9 ≤ 4) (hz : ∀ a : Nat, a ≠ k + 1 → Z1 a = Z a) (hy : ∀ b : Int, Z1 (k + 1) b = if 0 ≤ b ∧ b < Z 3 9 then f b else Z (k + 1) b) : vS Z1 k = fun j => if 0 ≤ j ∧ j < Z 3 9 then f j else vS Z k j := by
  funext j
  unfold vS
  rw [hz 3 (by omega), hz (k + 2) (by omega), hz (k + 3) (by omega), hz k (by omega), hy]
  by_cases h : 0 ≤ j ∧ j < Z 3 9
  · rw [if_pos h, if_neg (by omega), if_pos (by omega), if_pos (by omega), if_pos h]
  · rw [if_neg h, if_neg h]
/-- what a row of sixteen keeps of a sky -/
def vRow (Z : aZ) (r : Nat) : aSk := fun j => if j < 0 then 0 else if j < 4 then (if j < Z 3 9 then Z r j else 0) else if j < 8 then (if j - 4 < Z 3 9 then Z r j else 0) else if j < 16 then Z r j else 0
theorem vRow_of {Z : aZ} {r k : Nat} (h1 : ∀ j : Int, 0 ≤ j ∧ j < 4 → Z r j = Z (k + 1) j) (h2 : ∀ j : Int, 4 ≤ j ∧ j < 8 → Z r j = Z (k + 2) (j - 4)) (h3 : ∀ j : Int, 8 ≤ j ∧ j < 13 → Z r j = Z (k + 3) (j - 8)) (h4 : Z r 13 = Z k 4) (h5 : Z r 14 = Z k 5) (h6 : Z r 15 = Z k 6) : vRow Z r = vS Z k := by
  funext j
  unfold vRow vS
  by_cases a0 : j < 0
  · rw [if_pos a0, if_pos a0]
  rw [if_neg a0, if_neg a0]
  by_cases a1 : j < 4
  · rw [if_pos a1, if_pos a1, h1 j (by omega)]
  rw [if_neg a1, if_neg a1]
  by_cases a2 : j < 8
  · rw [if_pos a2, if_pos a2, h2 j (by omega)]
  rw [if_neg a2, if_neg a2]
  by_cases a3 : j < 13
  · rw [if_pos (by omega), if_pos a3, h3 j (by omega)]
  rw [if_neg a3]
  by_cases a4 : j = 13
  · subst a4; rw [if_pos (by omega), if_pos rfl, h4]
  rw [if_neg a4]
  by_cases a5 : j = 14
  · subst a5; rw [if_pos (by omega), if_pos rfl, h5]
  rw [if_neg a5]
  by_cases a6 : j = 15
  · subst a6; rw [if_pos (by omega), if_pos rfl, h6]
  rw [if_neg a6, if_neg (by omega)]
theorem vRow_eq {Z Z' : aZ} {r : Nat} (h3 : Z' 3 = Z 3) (hr : Z' r = Z r) : vRow Z' r = vRow Z r := by
  unfold vRow
  rw [h3, hr]
theorem aCp_ne {Z : aZ} {a d q : Nat} {sp dp n b : Int} (h : q ≠ d) : aCp Z a d sp dp n q b = Z q b := by unfold aCp; rw [if_neg h]
theorem aCp_row {Z : aZ} {a d q : Nat} {sp dp n : Int} (h : q ≠ d) : aCp Z a d sp dp n q = Z q := by funext b; exact aCp_ne h
theorem aCp_in {Z : aZ} {a d : Nat} {sp dp n b : Int} (h : dp ≤ b ∧ b < dp + n) : aCp Z a d sp dp n d b = Z a (sp + (b - dp)) := by unfold aCp; rw [if_pos rfl, if_pos h]
theorem aCp_out {Z : aZ} {a d : Nat} {sp dp n b : Int} (h : ¬ (dp ≤ b ∧ b < dp + n)) : aCp Z a d sp dp n d b = Z d b := by unfold aCp; rw [if_pos rfl, if_neg h]
theorem vS_frame {Z Z' : aZ} {k : Nat} (h3 : Z' 3 = Z 3) (h0 : Z' k = Z k) (h1 : Z' (k + 1) = Z (k + 1)) (h2 : Z' (k + 2) = Z (k + 2)) (h4 : Z' (k + 3) = Z (k + 3)) : vS Z' k = vS Z k := by
  unfold vS
  rw [h3, h0, h1, h2, h4]
def sBegin (Z : aZ) : aSk := fun j => if 0 ≤ j ∧ j < 4 ∧ j < Z 3 9 then Z 5 j else if 4 ≤ j ∧ j < 8 ∧ j - 4 < Z 3 9 then Z 6 (j - 4) else 0
/-! doings -/
def sDoB (P : aP) (S : aSk) (f : Int) : Bool :=
  if f / 100 = 0 then decide (f = 0) else if f / 100 = 1 then (pHasC P (f / 10 % 10) && pHasP P (f % 10) && sCan P S (f / 10 % 10) (f % 10)) else if f / 100 = 2 then (pHasC P (f / 10 % 10) && decide (f % 10 ≤ 1)) else if f / 100 = 3 then (decide (f / 10 % 10 = 0) && pHasP P (f % 10) && !sTorn S (f % 10)) else if f / 100 = 4 then (pHasP P (f / 10 % 10) && decide (sOwed P S (f / 10 % 10) ≤ f % 10)) else false
def sDoS (P : aP) (S : aSk) (f : Int) : aSk :=
  if sDoB P S f = true then (if f / 100 = 0 then dDay P S else if f / 100 = 1 then dDrop P S (f / 10 % 10) (f % 10) else if f / 100 = 2 then dPush S (f / 10 % 10) (decide (f % 10 = 1)) else if f / 100 = 3 then dRip S (f % 10) else S) else S
/-- what a method leaves that makes the sky k into S' -/
def aSp (Z : aZ) (Y : aY) (k : Nat) (S' : aSk) (Z' : aZ) (Y' : aY) : Prop := vS Z' k = S' ∧ okS (vP Z) S' ∧ aOff Z Z' k ∧ aB Z' ∧ Y' = Y

/-! the reference's reader against the automaton of the parts -/
def fgS (t : Int → Int) (n lo hi i f x i' f' : Int) : Prop := (f = -9 ∧ i < n ∧ lo ≤ t i - 48 ∧ t i - 48 ≤ hi ∧ x = t i - 48 ∧ i' = i + 1 ∧ f' = -9) ∨ (¬ (f = -9 ∧ i < n ∧ lo ≤ t i - 48 ∧ t i - 48 ≤ hi) ∧ x = 0 ∧ i' = i ∧ f' = if f = -9 then i else f)
theorem fgOf {Z Z' : aZ} {a b x : Int} (h : (qFg Z a b ∧ x = Z 73 (Z 62 18) - 48 ∧ Z' = aU Z 62 18 (Z 62 18 + 1)) ∨ (¬ qFg Z a b ∧ x = 0 ∧ Z' = aU Z 62 19 (if Z 62 19 = -9 then Z 62 18 else Z 62 19))) : fgS (Z 73) (Z 62 17) a b (Z 62 18) (Z 62 19) x (Z' 62 18) (Z' 62 19) ∧ (∀ a : Nat, a ≠ 62 → Z' a = Z a) ∧ ∀ j : Int, j ≠ 18 → j ≠ 19 → Z' 62 j = Z 62 j := by
  rcases h with ⟨h1, h2, rfl⟩ | ⟨h1, h2, rfl⟩
  · refine ⟨Or.inl ⟨h1.1, h1.2.1, h1.2.2.1, h1.2.2.2, h2, aU_eq, ?_⟩, fun a ha => aU_row ha, fun j q1 q2 => aU_nj q1⟩
    rw [aU_nj (by decide)]
    exact h1.1
  · refine ⟨Or.inr ⟨h1, h2, ?_, aU_eq⟩, fun a ha => aU_row ha, fun j q1 q2 => aU_nj q2⟩
    rw [aU_nj (by decide)]
theorem fgS_x {t : Int → Int} {n lo hi i f x i' f' : Int} (h : fgS t n lo hi i f x i' f') (hl : 0 ≤ lo) (hh : hi ≤ 9) : 0 ≤ x ∧ x ≤ 9 := by
  rcases h with h | h <;> omega
theorem fgS_i {t : Int → Int} {n lo hi i f x i' f' : Int} (h : fgS t n lo hi i f x i' f') : i ≤ i' ∧ i' ≤ i + 1 := by
  rcases h with h | h <;> omega
theorem kF_a {t : Int → Int} {n i a w c s : Int} (f : Nat) : kF t n f i 0 a w c s = kF t n f i 0 0 w c s := by
  cases f <;> rfl
theorem kIn {t : Int → Int} {n lo hi i h a w c s x i' f' : Int} (hh : h ≠ 0) (hin : i ≤ n) (hk : ∀ l : Int, kFit h a l = decide (lo ≤ l - 48 ∧ l - 48 ≤ hi)) (hl : 0 ≤ lo ∧ hi ≤ 9) (g : fgS t n lo hi i (-9) x i' f') :
    (f' = -9 ∧ i' = i + 1 ∧ x = t i - 48 ∧ i < n ∧ (48 ≤ t i ∧ t i ≤ 57) ∧ kF t n (n - i).toNat i h a w c s = kF t n (n - (i + 1)).toNat (i + 1) (if a + 1 < kLen h then h else 0) (a + 1) w c s) ∨ (f' = i ∧ kF t n (n - i).toNat i h a w c s = i) := by
  rcases g with ⟨-, g1, g2, g3, g4, g5, g6⟩ | ⟨g1, g2, g3, g4⟩
  · refine Or.inl ⟨g6, g5, g4, g1, by omega, ?_⟩
    rw [kF_s g1, if_pos hh, hk, if_pos (decide_eq_true ⟨g2, g3⟩)]
  · refine Or.inr ⟨by rw [g4, if_pos rfl], ?_⟩
    by_cases e : i < n
    · rw [kF_s e, if_pos hh, hk, if_neg]
      intro q
      have := of_decide_eq_true q
      omega
    · rw [kF_e (by omega), if_neg hh]
      omega
theorem fgS_no {t : Int → Int} {n lo hi i f x i' f' : Int} (h : fgS t n lo hi i f x i' f') (hf : f ≠ -9) : f' = f ∧ i' = i := by
  rcases h with h | ⟨h1, h2, h3, h4⟩
  · exact absurd h.1 hf
  · rw [if_neg hf] at h4
    exact ⟨h4, h3⟩
theorem kFit_of {h a lo hi : Int} (h0 : 0 ≤ a ∧ a < kLen h) (h1 : aSc (kLow h) a = lo + 48) (h2 : aSc (kHigh h) a = hi + 48) (l : Int) : kFit h a l = decide (lo ≤ l - 48 ∧ l - 48 ≤ hi) := by
  unfold kFit
  rw [h1, h2]
  exact decide_eq_decide.mpr (by omega)
def rdK (t : Int → Int) (n i w c s i' f' w' c' s' : Int) : Prop := (f' = -9 ∧ i < i' ∧ i' ≤ n ∧ (∀ j : Int, i < j → j < i' → 48 ≤ t j ∧ t j ≤ 57) ∧ kF t n (n - i).toNat i 0 0 w c s = kF t n (n - i').toNat i' 0 0 w' c' s') ∨ (0 ≤ f' ∧ f' = kF t n (n - i).toNat i 0 0 w c s)
theorem kOpen {t : Int → Int} {n i w c s : Int} (hi : i < n) (hk : kLen (t i) ≠ 0) (hw : w + (if t i = 87 then 1 else 0) ≤ 4) (hc : c + (if t i = 67 then 1 else 0) ≤ 4) (hs : s + (if t i = 83 then 1 else 0) ≤ 5) : kF t n (n - i).toNat i 0 0 w c s = kF t n (n - (i + 1)).toNat (i + 1) (t i) 0 (w + (if t i = 87 then 1 else 0)) (c + (if t i = 67 then 1 else 0)) (s + (if t i = 83 then 1 else 0)) := by
  rw [kF_s hi, if_neg (by omega), if_neg]
  rintro (q | q | q | q)
  · exact hk q
  · omega
  · omega
  · omega
theorem kW {t : Int → Int} {n i w c s x i' f' : Int} (h : t i = 87) (hw : w < 4) (hc : c ≤ 4) (hs : s ≤ 5) (hi : 0 ≤ i ∧ i < n) (g : fgS t n 0 2 (i + 1) (-9) x i' f') : rdK t n i w c s i' f' (w + 1) c s ∧ (f' = -9 → x = t (i + 1) - 48 ∧ i + 1 < n) := by
  have e := kOpen (t := t) (w := w) (c := c) (s := s) hi.2 (by rw [h]; decide) (by rw [h]; simp; omega) (by rw [h]; simp; omega) (by rw [h]; simp; omega)
  rw [h] at e
  simp only [if_true, show ((87 : Int) = 67) = False by simp, show ((87 : Int) = 83) = False by simp, if_false, Int.add_zero] at e
  rcases kIn (h := 87) (a := 0) (w := w + 1) (c := c) (s := s) (by decide) (by omega) (kFit_of (by decide) (by decide) (by decide)) (by decide) g with ⟨q1, q2, q3, q4, q5, q6⟩ | ⟨q1, q2⟩
  · refine ⟨Or.inl ⟨q1, by omega, by omega, fun j j1 j2 => ?_, ?_⟩, fun _ => ⟨q3, q4⟩⟩
    · rw [show j = i + 1 by omega]; exact q5
    · rw [e, q6, q2, if_neg (by decide), kF_a]
  · exact ⟨Or.inr ⟨by omega, by rw [e, q2]; exact q1⟩, fun q => by omega⟩
theorem kC {t : Int → Int} {n i w c s x1 i1 f1 x2 i2 f2 x3 i' f' : Int} (h : t i = 67) (hw : w ≤ 4) (hc : c < 4) (hs : s ≤ 5) (hi : 0 ≤ i ∧ i < n) (g1 : fgS t n 0 5 (i + 1) (-9) x1 i1 f1) (g2 : fgS t n 1 9 i1 f1 x2 i2 f2) (g3 : fgS t n 0 3 i2 f2 x3 i' f') : rdK t n i w c s i' f' w (c + 1) s ∧ (f' = -9 → x1 = t (i + 1) - 48 ∧ x2 = t (i + 2) - 48 ∧ x3 = t (i + 3) - 48 ∧ i + 3 < n) := by
  have e := kOpen (t := t) (w := w) (c := c) (s := s) hi.2 (by rw [h]; decide) (by rw [h]; simp; omega) (by rw [h]; simp; omega) (by rw [h]; simp; omega)
  rw [h] at e
  simp only [if_true, show ((67 : Int) = 87) = False by simp, show ((67 : Int) = 83) = False by simp, if_false, Int.add_zero] at e
  rcases kIn (h := 67) (a := 0) (w := w) (c := c + 1) (s := s) (by decide) (by omega) (kFit_of (by decide) (by decide) (by decide)) (by decide) g1 with ⟨q1, q2, q3, q4, q5, q6⟩ | ⟨q1, q2⟩
  · rw [q1, q2] at g2
    rw [if_pos (by decide)] at q6
    rcases kIn (h := 67) (a := 0 + 1) (w := w) (c := c + 1) (s := s) (by decide) (by omega) (kFit_of (by decide) (by decide) (by decide)) (by decide) g2 with ⟨r1, r2, r3, r4, r5, r6⟩ | ⟨r1, r2⟩
    · rw [r1, r2] at g3
      rw [if_pos (by decide)] at r6
      rcases kIn (h := 67) (a := 0 + 1 + 1) (w := w) (c := c + 1) (s := s) (by decide) (by omega) (kFit_of (by decide) (by decide) (by decide)) (by decide) g3 with ⟨u1, u2, u3, u4, u5, u6⟩ | ⟨u1, u2⟩
      · refine ⟨Or.inl ⟨u1, by omega, by omega, fun j j1 j2 => ?_, ?_⟩, fun _ => ⟨q3, ?_, ?_, by omega⟩⟩
        · rcases (show j = i + 1 ∨ j = i + 1 + 1 ∨ j = i + 1 + 1 + 1 by omega) with rfl | rfl | rfl
          · exact q5
          · exact r5
          · exact u5
        · rw [e, q6, r6, u6, u2, if_neg (by decide), kF_a]
        · rw [r3, show i + 1 + 1 = i + 2 by omega]
        · rw [u3, show i + 1 + 1 + 1 = i + 3 by omega]
      · exact ⟨Or.inr ⟨by omega, by rw [e, q6, r6, u2]; exact u1⟩, fun q => by omega⟩
    · have z := fgS_no g3 (by omega)
      exact ⟨Or.inr ⟨by omega, by rw [e, q6, r2]; omega⟩, fun q => by omega⟩
  · have z := fgS_no g2 (by omega)
    have z2 := fgS_no g3 (by omega)
    exact ⟨Or.inr ⟨by omega, by rw [e, q2]; omega⟩, fun q => by omega⟩
theorem kS {t : Int → Int} {n i w c s x1 i1 f1 x2 i2 f2 x3 i3 f3 x4 i' f' : Int} (h : t i = 83) (hw : w ≤ 4) (hc : c ≤ 4) (hs : s < 5) (hi : 0 ≤ i ∧ i < n) (g1 : fgS t n 0 5 (i + 1) (-9) x1 i1 f1) (g2 : fgS t n 1 9 i1 f1 x2 i2 f2) (g3 : fgS t n 1 9 i2 f2 x3 i3 f3) (g4 : fgS t n 0 3 i3 f3 x4 i' f') : rdK t n i w c s i' f' w c (s + 1) ∧ (f' = -9 → x1 = t (i + 1) - 48 ∧ x2 = t (i + 2) - 48 ∧ x3 = t (i + 3) - 48 ∧ x4 = t (i + 4) - 48 ∧ i + 4 < n) := by
  have e := kOpen (t := t) (w := w) (c := c) (s := s) hi.2 (by rw [h]; decide) (by rw [h]; simp; omega) (by rw [h]; simp; omega) (by rw [h]; simp; omega)
  rw [h] at e
  simp only [if_true, show ((83 : Int) = 87) = False by simp, show ((83 : Int) = 67) = False by simp, if_false, Int.add_zero] at e
  rcases kIn (h := 83) (a := 0) (w := w) (c := c) (s := s + 1) (by decide) (by omega) (kFit_of (by decide) (by decide) (by decide)) (by decide) g1 with ⟨q1, q2, q3, q4, q5, q6⟩ | ⟨q1, q2⟩
  · rw [q1, q2] at g2
    rw [if_pos (by decide)] at q6
    rcases kIn (h := 83) (a := 0 + 1) (w := w) (c := c) (s := s + 1) (by decide) (by omega) (kFit_of (by decide) (by decide) (by decide)) (by decide) g2 with ⟨r1, r2, r3, r4, r5, r6⟩ | ⟨r1, r2⟩
    · rw [r1, r2] at g3
      rw [if_pos (by decide)] at r6
      rcases kIn (h := 83) (a := 0 + 1 + 1) (w := w) (c := c) (s := s + 1) (by decide) (by omega) (kFit_of (by decide) (by decide) (by decide)) (by decide) g3 with ⟨u1, u2, u3, u4, u5, u6⟩ | ⟨u1, u2⟩
      · rw [u1, u2] at g4
        rw [if_pos (by decide)] at u6
        rcases kIn (h := 83) (a := 0 + 1 + 1 + 1) (w := w) (c := c) (s := s + 1) (by decide) (by omega) (kFit_of (by decide) (by decide) (by decide)) (by decide) g4 with ⟨v1, v2, v3, v4, v5, v6⟩ | ⟨v1, v2⟩
        · refine ⟨Or.inl ⟨v1, by omega, by omega, fun j j1 j2 => ?_, ?_⟩, fun _ => ⟨q3, ?_, ?_, ?_, by omega⟩⟩
          · rcases (show j = i + 1 ∨ j = i + 1 + 1 ∨ j = i + 1 + 1 + 1 ∨ j = i + 1 + 1 + 1 + 1 by omega) with rfl | rfl | rfl | rfl
            · exact q5
            · exact r5
            · exact u5
            · exact v5
          · rw [e, q6, r6, u6, v6, v2, if_neg (by decide), kF_a]
          · rw [r3, show i + 1 + 1 = i + 2 by omega]
          · rw [u3, show i + 1 + 1 + 1 = i + 3 by omega]
          · rw [v3, show i + 1 + 1 + 1 + 1 = i + 4 by omega]
        · exact ⟨Or.inr ⟨by omega, by rw [e, q6, r6, u6, v2]; exact v1⟩, fun q => by omega⟩
      · have z := fgS_no g4 (by omega)
        exact ⟨Or.inr ⟨by omega, by rw [e, q6, r6, u2]; omega⟩, fun q => by omega⟩
    · have z := fgS_no g3 (by omega)
      have z2 := fgS_no g4 (by omega)
      exact ⟨Or.inr ⟨by omega, by rw [e, q6, r2]; omega⟩, fun q => by omega⟩
  · have z := fgS_no g2 (by omega)
    have z2 := fgS_no g3 (by omega)
    have z3 := fgS_no g4 (by omega)
    exact ⟨Or.inr ⟨by omega, by rw [e, q2]; omega⟩, fun q => by omega⟩
theorem kX {t : Int → Int} {n i w c s w' c' s' : Int} (hw : w ≤ 4) (hc : c ≤ 4) (hs : s ≤ 5) (hi : 0 ≤ i ∧ i < n) (h1 : t i = 87 → w = 4) (h2 : t i = 67 → c = 4) (h3 : t i = 83 → s = 5) : rdK t n i w c s i i w' c' s' := by
  refine Or.inr ⟨hi.1, ?_⟩
  rw [kF_s hi.2, if_neg (by omega)]
  refine (if_pos ?_).symm
  by_cases e1 : t i = 87
  · exact Or.inr (Or.inl (by rw [if_pos e1, h1 e1]; decide))
  · by_cases e2 : t i = 67
    · exact Or.inr (Or.inr (Or.inl (by rw [if_pos e2, h2 e2]; decide)))
    · by_cases e3 : t i = 83
      · exact Or.inr (Or.inr (Or.inr (by rw [if_pos e3, h3 e3]; decide)))
      · refine Or.inl ?_
        unfold kLen
        rw [if_neg e1, if_neg e2, if_neg e3]
/-- what was read, as the class's picture -/
def vT (Z : aZ) : aP
  | 0 => fun j => if j = 0 then Z 62 13 else if j = 1 then Z 62 14 else if j = 2 then Z 62 15 else 0
  | 1 => Z 70
  | 2 => fun j => Z 71 (3 * j)
  | 3 => fun j => Z 71 (3 * j + 1)
  | 4 => fun j => Z 71 (3 * j + 2)
  | 5 => fun j => Z 72 (4 * j)
  | 6 => fun j => Z 72 (4 * j + 1)
  | 7 => fun j => Z 72 (4 * j + 3)
  | 8 => fun j => qPr (Z 72 (4 * j + 3)) (Z 72 (4 * j + 2))
  | _ => fun _ => 0
theorem vT_eq {Z Z' : aZ} (h : ∀ a : Nat, a = 70 ∨ a = 71 ∨ a = 72 → Z' a = Z a) (h1 : Z' 62 13 = Z 62 13) (h2 : Z' 62 14 = Z 62 14) (h3 : Z' 62 15 = Z 62 15) : vT Z' = vT Z := by
  funext k
  unfold vT
  split <;> (try rfl) <;> funext j <;> (try rw [h1, h2, h3]) <;> (try rw [h 70 (by omega)]) <;> (try rw [h 71 (by omega)]) <;> (try rw [h 72 (by omega)])


theorem vT_W {Z Z' : aZ} {x : Int} (e13 : Z' 62 13 = Z 62 13 + 1) (e14 : Z' 62 14 = Z 62 14) (e15 : Z' 62 15 = Z 62 15) (e70 : ∀ j : Int, Z' 70 j = if j = Z 62 13 then x else Z 70 j) (e71 : Z' 71 = Z 71) (e72 : Z' 72 = Z 72) : vT Z' = aU (aU (vT Z) 1 (Z 62 13) x) 0 0 (Z 62 13 + 1) := by
  funext r j
  match r with
  | 0 =>
    show (if j = 0 then Z' 62 13 else if j = 1 then Z' 62 14 else if j = 2 then Z' 62 15 else 0) = (if j = 0 then Z 62 13 + 1 else (if j = 0 then Z 62 13 else if j = 1 then Z 62 14 else if j = 2 then Z 62 15 else 0))
    rw [e13, e14, e15]
    split <;> rfl
  | 1 => exact e70 j
  | 2 => show Z' 71 (3 * j) = Z 71 (3 * j); rw [e71]
  | 3 => show Z' 71 (3 * j + 1) = Z 71 (3 * j + 1); rw [e71]
  | 4 => show Z' 71 (3 * j + 2) = Z 71 (3 * j + 2); rw [e71]
  | 5 => show Z' 72 (4 * j) = Z 72 (4 * j); rw [e72]
  | 6 => show Z' 72 (4 * j + 1) = Z 72 (4 * j + 1); rw [e72]
  | 7 => show Z' 72 (4 * j + 3) = Z 72 (4 * j + 3); rw [e72]
  | 8 => show qPr (Z' 72 (4 * j + 3)) (Z' 72 (4 * j + 2)) = qPr (Z 72 (4 * j + 3)) (Z 72 (4 * j + 2)); rw [e72]
  | n + 9 => rfl
theorem vT_C {Z Z' : aZ} {x1 x2 x3 : Int} (e13 : Z' 62 13 = Z 62 13) (e14 : Z' 62 14 = Z 62 14 + 1) (e15 : Z' 62 15 = Z 62 15) (e70 : Z' 70 = Z 70) (e71 : ∀ j : Int, Z' 71 j = if j = 3 * Z 62 14 + 2 then x3 else if j = 3 * Z 62 14 + 1 then x2 else if j = 3 * Z 62 14 then x1 else Z 71 j) (e72 : Z' 72 = Z 72) : vT Z' = aU (aU (aU (aU (vT Z) 2 (Z 62 14) x1) 3 (Z 62 14) x2) 4 (Z 62 14) x3) 0 1 (Z 62 14 + 1) := by
  funext r j
  match r with
  | 0 =>
    show (if j = 0 then Z' 62 13 else if j = 1 then Z' 62 14 else if j = 2 then Z' 62 15 else 0) = (if j = 1 then Z 62 14 + 1 else (if j = 0 then Z 62 13 else if j = 1 then Z 62 14 else if j = 2 then Z 62 15 else 0))
    rw [e13, e14, e15]
    by_cases a : j = 0
    · rw [if_pos a, if_neg (by omega), if_pos a]
    · rw [if_neg a, if_neg a]
      split <;> rfl
  | 1 => show Z' 70 j = Z 70 j; rw [e70]
  | 2 =>
    show Z' 71 (3 * j) = if j = Z 62 14 then x1 else Z 71 (3 * j)
    rw [e71, if_neg (by omega), if_neg (by omega)]
    by_cases a : j = Z 62 14
    · rw [if_pos (by omega), if_pos a]
    · rw [if_neg (by omega), if_neg a]
  | 3 =>
    show Z' 71 (3 * j + 1) = if j = Z 62 14 then x2 else Z 71 (3 * j + 1)
    rw [e71, if_neg (by omega)]
    by_cases a : j = Z 62 14
    · rw [if_pos (by omega), if_pos a]
    · rw [if_neg (by omega), if_neg (by omega), if_neg a]
  | 4 =>
    show Z' 71 (3 * j + 2) = if j = Z 62 14 then x3 else Z 71 (3 * j + 2)
    rw [e71]
    by_cases a : j = Z 62 14
    · rw [if_pos (by omega), if_pos a]
    · rw [if_neg (by omega), if_neg (by omega), if_neg (by omega), if_neg a]
  | 5 => show Z' 72 (4 * j) = Z 72 (4 * j); rw [e72]
  | 6 => show Z' 72 (4 * j + 1) = Z 72 (4 * j + 1); rw [e72]
  | 7 => show Z' 72 (4 * j + 3) = Z 72 (4 * j + 3); rw [e72]
  | 8 => show qPr (Z' 72 (4 * j + 3)) (Z' 72 (4 * j + 2)) = qPr (Z 72 (4 * j + 3)) (Z 72 (4 * j + 2)); rw [e72]
  | n + 9 => rfl
theorem vT_S {Z Z' : aZ} {x1 x2 x3 x4 : Int} (e13 : Z' 62 13 = Z 62 13) (e14 : Z' 62 14 = Z 62 14) (e15 : Z' 62 15 = Z 62 15 + 1) (e70 : Z' 70 = Z 70) (e71 : Z' 71 = Z 71) (e72 : ∀ j : Int, Z' 72 j = if j = 4 * Z 62 15 + 3 then x4 else if j = 4 * Z 62 15 + 2 then x3 else if j = 4 * Z 62 15 + 1 then x2 else if j = 4 * Z 62 15 then x1 else Z 72 j) : vT Z' = aU (aU (aU (aU (aU (vT Z) 5 (Z 62 15) x1) 6 (Z 62 15) x2) 7 (Z 62 15) x4) 8 (Z 62 15) (qPr x4 x3)) 0 2 (Z 62 15 + 1) := by
  funext r j
  match r with
  | 0 =>
    show (if j = 0 then Z' 62 13 else if j = 1 then Z' 62 14 else if j = 2 then Z' 62 15 else 0) = (if j = 2 then Z 62 15 + 1 else (if j = 0 then Z 62 13 else if j = 1 then Z 62 14 else if j = 2 then Z 62 15 else 0))
    rw [e13, e14, e15]
    by_cases a : j = 0
    · rw [if_pos a, if_neg (by omega), if_pos a]
    · rw [if_neg a, if_neg a]
      by_cases b : j = 1
      · rw [if_pos b, if_neg (by omega), if_pos b]
      · rw [if_neg b, if_neg b]
        split <;> rfl
  | 1 => show Z' 70 j = Z 70 j; rw [e70]
  | 2 => show Z' 71 (3 * j) = Z 71 (3 * j); rw [e71]
  | 3 => show Z' 71 (3 * j + 1) = Z 71 (3 * j + 1); rw [e71]
  | 4 => show Z' 71 (3 * j + 2) = Z 71 (3 * j + 2); rw [e71]
  | 5 =>
    show Z' 72 (4 * j) = if j = Z 62 15 then x1 else Z 72 (4 * j)
    rw [e72, if_neg (by omega), if_neg (by omega), if_neg (by omega)]
    by_cases a : j = Z 62 15
    · rw [if_pos (by omega), if_pos a]
    · rw [if_neg (by omega), if_neg a]
  | 6 =>
    show Z' 72 (4 * j + 1) = if j = Z 62 15 then x2 else Z 72 (4 * j + 1)
    rw [e72, if_neg (by omega), if_neg (by omega)]
    by_cases a : j = Z 62 15
    · rw [if_pos (by omega), if_pos a]
    · rw [if_neg (by omega), if_neg (by omega), if_neg a]
  | 7 =>
    show Z' 72 (4 * j + 3) = if j = Z 62 15 then x4 else Z 72 (4 * j + 3)
    rw [e72]
    by_cases a : j = Z 62 15
    · rw [if_pos (by omega), if_pos a]
    · rw [if_neg (by omega), if_neg (by omega), if_neg (by omega), if_neg (by omega), if_neg a]
  | 8 =>
    show qPr (Z' 72 (4 * j + 3)) (Z' 72 (4 * j + 2)) = if j = Z 62 15 then qPr x4 x3 else qPr (Z 72 (4 * j + 3)) (Z 72 (4 * j + 2))
    rw [e72, e72]
    by_cases a : j = Z 62 15
    · rw [if_pos (by omega), if_neg (by omega), if_pos (by omega), if_pos a]
    · rw [if_neg (by omega), if_neg (by omega), if_neg (by omega), if_neg (by omega), if_neg (by omega), if_neg (by omega), if_neg (by omega), if_neg (by omega), if_neg a]
  | n + 9 => rfl
def okCm (Z : aZ) : Prop := (0 ≤ Z 62 13 ∧ Z 62 13 ≤ 4) ∧ (0 ≤ Z 62 14 ∧ Z 62 14 ≤ 4) ∧ (0 ≤ Z 62 15 ∧ Z 62 15 ≤ 5)
/-- what was read lies in its bounds -/
def okVr (Z : aZ) : Prop := (∀ j : Int, 0 ≤ Z 70 j ∧ Z 70 j ≤ 2) ∧ ((∀ j : Int, 0 ≤ Z 71 (3 * j) ∧ Z 71 (3 * j) ≤ 5) ∧ (∀ j : Int, 0 ≤ Z 71 (3 * j + 1) ∧ Z 71 (3 * j + 1) ≤ 9) ∧ ∀ j : Int, 0 ≤ Z 71 (3 * j + 2) ∧ Z 71 (3 * j + 2) ≤ 3) ∧ (∀ j : Int, 0 ≤ Z 72 (4 * j) ∧ Z 72 (4 * j) ≤ 5) ∧ (∀ j : Int, 0 ≤ Z 72 (4 * j + 1) ∧ Z 72 (4 * j + 1) ≤ 9) ∧ (∀ j : Int, 0 ≤ Z 72 (4 * j + 2) ∧ Z 72 (4 * j + 2) ≤ 9) ∧ ∀ j : Int, 0 ≤ Z 72 (4 * j + 3) ∧ Z 72 (4 * j + 3) ≤ 3
theorem okVr_eq {Z Z' : aZ} (h1 : Z' 70 = Z 70) (h2 : Z' 71 = Z 71) (h3 : Z' 72 = Z 72) (h : okVr Z) : okVr Z' := by
  unfold okVr
  rw [h1, h2, h3]
  exact h
theorem fgS_lh {t : Int → Int} {n lo hi i f x i' f' : Int} (h : fgS t n lo hi i f x i' f') (hl : 0 ≤ hi) : 0 ≤ x ∨ lo ≤ x := by
  rcases h with h | h <;> omega
theorem fgS_hi {t : Int → Int} {n lo hi i f x i' f' : Int} (h : fgS t n lo hi i f x i' f') (hl : 0 ≤ lo ∧ 0 ≤ hi) : 0 ≤ x ∧ x ≤ hi := by
  rcases h with h | h <;> omega
def rdFr (Z Z' : aZ) : Prop := (∀ a : Nat, a ≠ 62 → a ≠ 70 → a ≠ 71 → a ≠ 72 → Z' a = Z a) ∧ ∀ j : Int, ¬ (13 ≤ j ∧ j ≤ 15) → j ≠ 18 → j ≠ 19 → Z' 62 j = Z 62 j
theorem rdFr.tr {Z Z1 Z2 : aZ} (h : rdFr Z Z1) (g : rdFr Z1 Z2) : rdFr Z Z2 := ⟨fun a h1 h2 h3 h4 => (g.1 a h1 h2 h3 h4).trans (h.1 a h1 h2 h3 h4), fun j h1 h2 h3 => (g.2 j h1 h2 h3).trans (h.2 j h1 h2 h3)⟩
theorem rdFr.rf {Z : aZ} : rdFr Z Z := ⟨fun _ _ _ _ _ => rfl, fun _ _ _ _ => rfl⟩
def rdPost (Z Z' : aZ) : Prop := rdK (Z 73) (Z 62 17) (Z 62 18) (Z 62 13) (Z 62 14) (Z 62 15) (Z' 62 18) (Z' 62 19) (Z' 62 13) (Z' 62 14) (Z' 62 15) ∧ (Z' 62 19 = -9 → vT Z' = qStep (Z 73) (Z 62 17) (Z 62 18) (vT Z)) ∧ okCm Z' ∧ okVr Z' ∧ rdFr Z Z' ∧ 0 ≤ Z' 62 18 ∧ Z' 62 18 ≤ 100
theorem tFg_in {t : Int → Int} {n i : Int} (h : 0 ≤ i ∧ i < n) : tFg t n i = t i - 48 := by
  unfold tFg tL
  rw [if_pos h]


/-- a figure is read -/
def fgR (Z Z' : aZ) (a b x : Int) : Prop := fgS (Z 73) (Z 62 17) a b (Z 62 18) (Z 62 19) x (Z' 62 18) (Z' 62 19) ∧ (∀ a : Nat, a ≠ 62 → Z' a = Z a) ∧ ∀ j : Int, j ≠ 18 → j ≠ 19 → Z' 62 j = Z 62 j
theorem fgR.up {Z Z1 Z2 : aZ} {k : Nat} {j v a b x : Int} (h : fgR (aU Z1 k j v) Z2 a b x) (h1 : k ≠ 62) (h2 : k ≠ 73) (e : Z1 73 = Z 73) (e2 : Z1 62 17 = Z 62 17) : fgS (Z 73) (Z 62 17) a b (Z1 62 18) (Z1 62 19) x (Z2 62 18) (Z2 62 19) ∧ (∀ a : Nat, a ≠ 62 → a ≠ k → Z2 a = Z1 a) ∧ (∀ i : Int, Z2 k i = if i = j then v else Z1 k i) ∧ ∀ j : Int, j ≠ 18 → j ≠ 19 → Z2 62 j = Z1 62 j := by
  obtain ⟨s, u, w⟩ := h
  rw [aU_row (fun q => h2 q.symm), aU_ne (fun q => h1 q.symm), aU_ne (fun q => h1 q.symm), aU_ne (fun q => h1 q.symm), e, e2] at s
  refine ⟨s, fun a q1 q2 => by rw [u a q1, aU_row q2], fun i => by rw [u k h1, aU_at], fun j q1 q2 => ?_⟩
  rw [w j q1 q2, aU_ne (fun q => h1 q.symm)]
theorem fgR.st {Z Za Z2 : aZ} {a b x : Int} (h : fgR Za Z2 a b x) (eZ : Za = aU Z 62 18 (Z 62 18 + 1)) (h9 : Z 62 19 = -9) : fgS (Z 73) (Z 62 17) a b (Z 62 18 + 1) (-9) x (Z2 62 18) (Z2 62 19) ∧ (∀ a : Nat, a ≠ 62 → Z2 a = Z a) ∧ ∀ j : Int, j ≠ 18 → j ≠ 19 → Z2 62 j = Z 62 j := by
  subst eZ
  obtain ⟨s, u, w⟩ := h
  rw [aU_row (show (73 : Nat) ≠ 62 by decide), aU_nj (show (17 : Int) ≠ 18 by decide), aU_eq, aU_nj (show (19 : Int) ≠ 18 by decide), h9] at s
  exact ⟨s, fun a ha => by rw [u a ha, aU_row ha], fun j h1 h2 => by rw [w j h1 h2, aU_nj h1]⟩
theorem rdW {Z Za Zb : aZ} {x : Int} (ht : Z 73 (Z 62 18) = 87) (hw : Z 62 13 < 4) (hC : okCm Z) (hV : okVr Z) (hi : 0 ≤ Z 62 18 ∧ Z 62 18 < Z 62 17) (hn : Z 62 17 ≤ 52)
    (eZ : Za = aU Z 62 18 (Z 62 18 + 1)) (h9 : Z 62 19 = -9) (f1 : fgR Za Zb 0 2 x) : rdPost Z (aU (aU Zb 70 (Z 62 13) x) 62 13 (Z 62 13 + 1)) := by
  obtain ⟨s, u, v⟩ := f1.st eZ h9
  have hx := fgS_hi s (by decide)
  have hii := fgS_i s
  obtain ⟨hC1, hC2, hC3⟩ := hC
  have k := kW ht hw hC2.2 hC3.2 hi s
  generalize hZ : aU (aU Zb 70 (Z 62 13) x) 62 13 (Z 62 13 + 1) = Z'
  have r : ∀ j : Int, j ≠ 13 → Z' 62 j = Zb 62 j := fun j hj => by rw [← hZ, aU_nj hj, aU_ne (by decide)]
  have e13 : Z' 62 13 = Z 62 13 + 1 := by rw [← hZ, aU_eq]
  have e14 : Z' 62 14 = Z 62 14 := by rw [r 14 (by decide), v 14 (by decide) (by decide)]
  have e15 : Z' 62 15 = Z 62 15 := by rw [r 15 (by decide), v 15 (by decide) (by decide)]
  have e70 : ∀ j : Int, Z' 70 j = if j = Z 62 13 then x else Z 70 j := fun j => by
    rw [← hZ, aU_ne (by decide), aU_at, u 70 (by decide)]
  have eo : ∀ a : Nat, a ≠ 62 → a ≠ 70 → Z' a = Z a := fun a h1 h2 => by rw [← hZ, aU_row h1, aU_row h2, u a h1]
  refine ⟨?_, fun q => ?_, ?_, ?_, ⟨fun a h1 h2 _ _ => eo a h1 h2, fun j h1 h2 h3 => ?_⟩, ?_⟩
  · rw [r 18 (by decide), r 19 (by decide), e13, e14, e15]
    exact k.1
  · rw [r 19 (by decide)] at q
    obtain ⟨k1, k2⟩ := k.2 q
    unfold qStep
    rw [if_pos ht]
    unfold qW
    rw [if_pos (show vT Z 0 0 < 4 from hw), vT_W e13 e14 e15 e70 (eo 71 (by decide) (by decide)) (eo 72 (by decide) (by decide)), tFg_in (by omega), ← k1]
    rfl
  · unfold okCm
    rw [e13, e14, e15]
    omega
  · unfold okVr
    rw [eo 71 (by decide) (by decide), eo 72 (by decide) (by decide)]
    refine ⟨fun j => ?_, hV.2⟩
    have := hV.1 j
    rw [e70]
    split <;> omega
  · rw [r j (by omega), v j h2 h3]
  · rw [r 18 (by decide)]
    omega
theorem rdC {Z Za Z1 Z2 Z3 : aZ} {x1 x2 x3 : Int} (ht : Z 73 (Z 62 18) = 67) (hw : Z 62 14 < 4) (hC : okCm Z) (hV : okVr Z) (hi : 0 ≤ Z 62 18 ∧ Z 62 18 < Z 62 17) (hn : Z 62 17 ≤ 52)
    (eZ : Za = aU Z 62 18 (Z 62 18 + 1)) (h9 : Z 62 19 = -9) (f1 : fgR Za Z1 0 5 x1) (f2 : fgR (aU Z1 71 (3 * Z 62 14) x1) Z2 1 9 x2) (f3 : fgR (aU Z2 71 (3 * Z 62 14 + 1) x2) Z3 0 3 x3) : rdPost Z (aU (aU Z3 71 (3 * Z 62 14 + 2) x3) 62 14 (Z 62 14 + 1)) := by
  obtain ⟨s1, u1, v1⟩ := f1.st eZ h9
  obtain ⟨s2, u2, w2, v2⟩ := f2.up (Z := Z) (by decide) (by decide) (u1 73 (by decide)) (v1 17 (by decide) (by decide))
  obtain ⟨s3, u3, w3, v3⟩ := f3.up (Z := Z) (by decide) (by decide) (by rw [u2 73 (by decide) (by decide), u1 73 (by decide)]) (by rw [v2 17 (by decide) (by decide), v1 17 (by decide) (by decide)])
  have v : ∀ j : Int, j ≠ 18 → j ≠ 19 → Z3 62 j = Z 62 j := fun j h1 h2 => by rw [v3 j h1 h2, v2 j h1 h2, v1 j h1 h2]
  have u : ∀ a : Nat, a ≠ 62 → a ≠ 71 → Z3 a = Z a := fun a h1 h2 => by rw [u3 a h1 h2, u2 a h1 h2, u1 a h1]
  have hx1 := fgS_hi s1 (by decide)
  have hx2 := fgS_hi s2 (by decide)
  have hx3 := fgS_hi s3 (by decide)
  have hi1 := fgS_i s1
  have hi2 := fgS_i s2
  have hi3 := fgS_i s3
  obtain ⟨hC1, hC2, hC3⟩ := hC
  have k := kC ht hC1.2 hw hC3.2 hi s1 s2 s3
  generalize hZ : aU (aU Z3 71 (3 * Z 62 14 + 2) x3) 62 14 (Z 62 14 + 1) = Z'
  have r : ∀ j : Int, j ≠ 14 → Z' 62 j = Z3 62 j := fun j hj => by rw [← hZ, aU_nj hj, aU_ne (by decide)]
  have e14 : Z' 62 14 = Z 62 14 + 1 := by rw [← hZ, aU_eq]
  have e13 : Z' 62 13 = Z 62 13 := by rw [r 13 (by decide), v 13 (by decide) (by decide)]
  have e15 : Z' 62 15 = Z 62 15 := by rw [r 15 (by decide), v 15 (by decide) (by decide)]
  have e71 : ∀ j : Int, Z' 71 j = if j = 3 * Z 62 14 + 2 then x3 else if j = 3 * Z 62 14 + 1 then x2 else if j = 3 * Z 62 14 then x1 else Z 71 j := fun j => by
    rw [← hZ, aU_ne (by decide), aU_at, w3, w2, u1 71 (by decide)]
  have eo : ∀ a : Nat, a ≠ 62 → a ≠ 71 → Z' a = Z a := fun a h1 h2 => by rw [← hZ, aU_row h1, aU_row h2, u a h1 h2]
  refine ⟨?_, fun q => ?_, ?_, ?_, ⟨fun a h1 h2 h3 _ => eo a h1 h3, fun j h1 h2 h3 => ?_⟩, ?_⟩
  · rw [r 18 (by decide), r 19 (by decide), e13, e14, e15]
    exact k.1
  · rw [r 19 (by decide)] at q
    obtain ⟨k1, k2, k3, k4⟩ := k.2 q
    unfold qStep
    rw [if_neg (show ¬ Z 73 (Z 62 18) = 87 by omega), if_pos ht]
    unfold qC
    rw [if_pos (show vT Z 0 1 < 4 from hw), vT_C e13 e14 e15 (eo 70 (by decide) (by decide)) e71 (eo 72 (by decide) (by decide)), tFg_in (by omega), tFg_in (by omega), tFg_in (by omega), ← k1, ← k2, ← k3]
    rfl
  · unfold okCm
    rw [e13, e14, e15]
    omega
  · unfold okVr
    rw [eo 70 (by decide) (by decide), eo 72 (by decide) (by decide)]
    obtain ⟨g1, ⟨g2, g3, g4⟩, g5⟩ := hV
    refine ⟨g1, ⟨fun j => ?_, fun j => ?_, fun j => ?_⟩, g5⟩
    · have := g2 j
      rw [e71, if_neg (by omega), if_neg (by omega)]
      split <;> omega
    · have := g3 j
      rw [e71, if_neg (by omega)]
      split
      · omega
      · rw [if_neg (by omega)]
        omega
    · have := g4 j
      rw [e71]
      split
      · omega
      · rw [if_neg (by omega), if_neg (by omega)]
        omega
  · rw [r j (by omega), v j h2 h3]
  · rw [r 18 (by decide)]
    omega
theorem rdS {Z Za Z1 Z2 Z3 Z4 : aZ} {x1 x2 x3 x4 : Int} (ht : Z 73 (Z 62 18) = 83) (hw : Z 62 15 < 5) (hC : okCm Z) (hV : okVr Z) (hi : 0 ≤ Z 62 18 ∧ Z 62 18 < Z 62 17) (hn : Z 62 17 ≤ 52)
    (eZ : Za = aU Z 62 18 (Z 62 18 + 1)) (h9 : Z 62 19 = -9) (f1 : fgR Za Z1 0 5 x1) (f2 : fgR (aU Z1 72 (4 * Z 62 15) x1) Z2 1 9 x2) (f3 : fgR (aU Z2 72 (4 * Z 62 15 + 1) x2) Z3 1 9 x3) (f4 : fgR (aU Z3 72 (4 * Z 62 15 + 2) x3) Z4 0 3 x4) : rdPost Z (aU (aU Z4 72 (4 * Z 62 15 + 3) x4) 62 15 (Z 62 15 + 1)) := by
  obtain ⟨s1, u1, v1⟩ := f1.st eZ h9
  obtain ⟨s2, u2, w2, v2⟩ := f2.up (Z := Z) (by decide) (by decide) (u1 73 (by decide)) (v1 17 (by decide) (by decide))
  obtain ⟨s3, u3, w3, v3⟩ := f3.up (Z := Z) (by decide) (by decide) (by rw [u2 73 (by decide) (by decide), u1 73 (by decide)]) (by rw [v2 17 (by decide) (by decide), v1 17 (by decide) (by decide)])
  obtain ⟨s4, u4, w4, v4⟩ := f4.up (Z := Z) (by decide) (by decide) (by rw [u3 73 (by decide) (by decide), u2 73 (by decide) (by decide), u1 73 (by decide)]) (by rw [v3 17 (by decide) (by decide), v2 17 (by decide) (by decide), v1 17 (by decide) (by decide)])
  have v : ∀ j : Int, j ≠ 18 → j ≠ 19 → Z4 62 j = Z 62 j := fun j h1 h2 => by rw [v4 j h1 h2, v3 j h1 h2, v2 j h1 h2, v1 j h1 h2]
  have u : ∀ a : Nat, a ≠ 62 → a ≠ 72 → Z4 a = Z a := fun a h1 h2 => by rw [u4 a h1 h2, u3 a h1 h2, u2 a h1 h2, u1 a h1]
  have hx1 := fgS_hi s1 (by decide)
  have hx2 := fgS_hi s2 (by decide)
  have hx3 := fgS_hi s3 (by decide)
  have hx4 := fgS_hi s4 (by decide)
  have hi1 := fgS_i s1
  have hi2 := fgS_i s2
  have hi3 := fgS_i s3
  have hi4 := fgS_i s4
  obtain ⟨hC1, hC2, hC3⟩ := hC
  have k := kS ht hC1.2 hC2.2 hw hi s1 s2 s3 s4
  generalize hZ : aU (aU Z4 72 (4 * Z 62 15 + 3) x4) 62 15 (Z 62 15 + 1) = Z'
  have r : ∀ j : Int, j ≠ 15 → Z' 62 j = Z4 62 j := fun j hj => by rw [← hZ, aU_nj hj, aU_ne (by decide)]
  have e15 : Z' 62 15 = Z 62 15 + 1 := by rw [← hZ, aU_eq]
  have e13 : Z' 62 13 = Z 62 13 := by rw [r 13 (by decide), v 13 (by decide) (by decide)]
  have e14 : Z' 62 14 = Z 62 14 := by rw [r 14 (by decide), v 14 (by decide) (by decide)]
  have e72 : ∀ j : Int, Z' 72 j = if j = 4 * Z 62 15 + 3 then x4 else if j = 4 * Z 62 15 + 2 then x3 else if j = 4 * Z 62 15 + 1 then x2 else if j = 4 * Z 62 15 then x1 else Z 72 j := fun j => by
    rw [← hZ, aU_ne (by decide), aU_at, w4, w3, w2, u1 72 (by decide)]
  have eo : ∀ a : Nat, a ≠ 62 → a ≠ 72 → Z' a = Z a := fun a h1 h2 => by rw [← hZ, aU_row h1, aU_row h2, u a h1 h2]
  refine ⟨?_, fun q => ?_, ?_, ?_, ⟨fun a h1 h2 h3 h4 => eo a h1 h4, fun j h1 h2 h3 => ?_⟩, ?_⟩
  · rw [r 18 (by decide), r 19 (by decide), e13, e14, e15]
    exact k.1
  · rw [r 19 (by decide)] at q
    obtain ⟨k1, k2, k3, k4, k5⟩ := k.2 q
    unfold qStep
    rw [if_neg (show ¬ Z 73 (Z 62 18) = 87 by omega), if_neg (show ¬ Z 73 (Z 62 18) = 67 by omega), if_pos ht]
    unfold qS
    rw [if_pos (show vT Z 0 2 < 5 from hw), vT_S e13 e14 e15 (eo 70 (by decide) (by decide)) (eo 71 (by decide) (by decide)) e72, tFg_in (by omega), tFg_in (by omega), tFg_in (by omega), tFg_in (by omega), ← k1, ← k2, ← k3, ← k4]
    rfl
  · unfold okCm
    rw [e13, e14, e15]
    omega
  · unfold okVr
    rw [eo 70 (by decide) (by decide), eo 71 (by decide) (by decide)]
    obtain ⟨g1, g2, g3, g4, g5, g6⟩ := hV
    refine ⟨g1, g2, fun j => ?_, fun j => ?_, fun j => ?_, fun j => ?_⟩
    · have := g3 j
      rw [e72, if_neg (by omega), if_neg (by omega), if_neg (by omega)]
      split <;> omega
    · have := g4 j
      rw [e72, if_neg (by omega), if_neg (by omega)]
      split
      · omega
      · rw [if_neg (by omega)]
        omega
    · have := g5 j
      rw [e72, if_neg (by omega)]
      split
      · omega
      · rw [if_neg (by omega), if_neg (by omega)]
        omega
    · have := g6 j
      rw [e72]
      split
      · omega
      · rw [if_neg (by omega), if_neg (by omega), if_neg (by omega)]
        omega
  · rw [r j (by omega), v j h2 h3]
  · rw [r 18 (by decide)]
    omega
theorem rdX {Z : aZ} (hC : okCm Z) (hV : okVr Z) (hi : 0 ≤ Z 62 18 ∧ Z 62 18 < Z 62 17) (hn : Z 62 17 ≤ 52) (h1 : Z 73 (Z 62 18) = 87 → ¬ Z 62 13 < 4) (h2 : Z 73 (Z 62 18) = 67 → ¬ Z 62 14 < 4) (h3 : Z 73 (Z 62 18) = 83 → ¬ Z 62 15 < 5) : rdPost Z (aU Z 62 19 (Z 62 18)) := by
  obtain ⟨hC1, hC2, hC3⟩ := id hC
  have r : ∀ j : Int, j ≠ 19 → aU Z 62 19 (Z 62 18) 62 j = Z 62 j := fun j hj => aU_nj hj
  refine ⟨?_, fun q => ?_, ?_, okVr_eq (aU_row (by decide)) (aU_row (by decide)) (aU_row (by decide)) hV, ⟨fun a h1 _ _ _ => aU_row h1, fun j _ _ h3 => aU_nj h3⟩, ?_⟩
  · rw [r 18 (by decide), aU_eq, r 13 (by decide), r 14 (by decide), r 15 (by decide)]
    exact kX hC1.2 hC2.2 hC3.2 hi (fun q => by have := h1 q; omega) (fun q => by have := h2 q; omega) (fun q => by have := h3 q; omega)
  · rw [aU_eq] at q
    omega
  · unfold okCm
    rw [r 13 (by decide), r 14 (by decide), r 15 (by decide)]
    exact hC
  · rw [r 18 (by decide)]
    omega

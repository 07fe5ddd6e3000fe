/-! pass: what the class reads is what the reference reads -/
def qRg (c : Int) (q t b : Int → Int) : Prop := ∀ j : Int, q j = if 0 ≤ j ∧ j < c then t j else b j
theorem qRg.up {c v : Int} {q t b : Int → Int} (h : qRg c q t b) (hc : 0 ≤ c) : qRg (c + 1) (fun j => if j = c then v else q j) (fun j => if j = c then v else t j) b := fun j => by
  have hj := h j
  show (if j = c then v else q j) = if 0 ≤ j ∧ j < c + 1 then (if j = c then v else t j) else b j
  by_cases e : j = c
  · rw [if_pos e, if_pos (by omega), if_pos e]
  · rw [if_neg e, if_neg e, hj]
    by_cases e2 : 0 ≤ j ∧ j < c
    · rw [if_pos e2, if_pos (by omega)]
    · rw [if_neg e2, if_neg (by omega)]
def qAg (Q T B : aP) : Prop := (Q 0 0 = T 0 0 ∧ Q 0 1 = T 0 1 ∧ Q 0 2 = T 0 2) ∧ (0 ≤ T 0 0 ∧ 0 ≤ T 0 1 ∧ 0 ≤ T 0 2) ∧ qRg (T 0 0) (Q 1) (T 1) (B 1) ∧ (qRg (T 0 1) (Q 2) (T 2) (B 2) ∧ qRg (T 0 1) (Q 3) (T 3) (B 3) ∧ qRg (T 0 1) (Q 4) (T 4) (B 4)) ∧ qRg (T 0 2) (Q 5) (T 5) (B 5) ∧ qRg (T 0 2) (Q 6) (T 6) (B 6) ∧ qRg (T 0 2) (Q 7) (T 7) (B 7) ∧ qRg (T 0 2) (Q 8) (T 8) (B 8)
theorem qAg.step {t : Int → Int} {n i : Int} {Q T B : aP} (h : qAg Q T B) : qAg (qStep t n i Q) (qStep t n i T) B := by
  obtain ⟨⟨c0, c1, c2⟩, ⟨p0, p1, p2⟩, h1, ⟨h2, h3, h4⟩, h5, h6, h7, h8⟩ := id h
  unfold qStep
  by_cases w : t i = 87
  · rw [if_pos w, if_pos w]
    unfold qW
    rw [c0]
    by_cases l : T 0 0 < 4
    · rw [if_pos l, if_pos l]
      exact ⟨⟨rfl, c1, c2⟩, ⟨by show 0 ≤ T 0 0 + 1; omega, p1, p2⟩, h1.up p0, ⟨h2, h3, h4⟩, h5, h6, h7, h8⟩
    · rw [if_neg l, if_neg l]
      exact h
  · rw [if_neg w, if_neg w]
    by_cases w : t i = 67
    · rw [if_pos w, if_pos w]
      unfold qC
      rw [c1]
      by_cases l : T 0 1 < 4
      · rw [if_pos l, if_pos l]
        exact ⟨⟨c0, rfl, c2⟩, ⟨p0, by show 0 ≤ T 0 1 + 1; omega, p2⟩, h1, ⟨h2.up p1, h3.up p1, h4.up p1⟩, h5, h6, h7, h8⟩
      · rw [if_neg l, if_neg l]
        exact h
    · rw [if_neg w, if_neg w]
      by_cases w : t i = 83
      · rw [if_pos w, if_pos w]
        unfold qS
        rw [c2]
        by_cases l : T 0 2 < 5
        · rw [if_pos l, if_pos l]
          exact ⟨⟨c0, c1, rfl⟩, ⟨p0, p1, by show 0 ≤ T 0 2 + 1; omega⟩, h1, ⟨h2, h3, h4⟩, h5.up p2, h6.up p2, h7.up p2, h8.up p2⟩
        · rw [if_neg l, if_neg l]
          exact h
      · rw [if_neg w, if_neg w]
        exact h
theorem qAg.run {t : Int → Int} {n : Int} {Q T B : aP} (h : qAg Q T B) : ∀ k : Nat, qAg (qRun t n Q k) (qRun t n T k) B
  | 0 => h
  | k + 1 => (qAg.run h k).step
theorem qRg0 {q t b : Int → Int} (h : q = b) : qRg 0 q t b := fun j => by rw [if_neg (by omega), h]
theorem qAg.beg (Q T : aP) : qAg (tQ0 Q) (tQ0 T) Q := by
  refine ⟨⟨rfl, rfl, rfl⟩, ⟨Int.le_refl 0, Int.le_refl 0, Int.le_refl 0⟩, qRg0 rfl, ⟨qRg0 rfl, qRg0 rfl, qRg0 rfl⟩, qRg0 rfl, qRg0 rfl, qRg0 rfl, qRg0 rfl⟩
theorem qPr_9 {k f : Int} (hk : 0 ≤ k ∧ k ≤ 3) (hf : 0 ≤ f ∧ f ≤ 9) : 0 ≤ qPr k f ∧ qPr k f ≤ 9 := by
  unfold qPr
  have := Int.tdiv_eq_ediv_of_nonneg (a := f) (b := 2) hf.1
  split <;> omega
theorem rl_pass {d x1 x2 : Int} {Z Z1 Z2 : aZ} {Y Y1 Y2 : aY} (h : Rel d Z Y)
    (g1 : x1 = (if tFault (Z 2) (Z 1 1) = -9 then 100 * Z1 3 8 + 10 * Z1 3 9 + Z1 3 10 else -3) ∧ (tFault (Z 2) (Z 1 1) ≠ -9 → Z1 = Z) ∧ (tFault (Z 2) (Z 1 1) = -9 → vF Z1 = qRun (Z 2) (Z 1 1) (aU (aU (aU (vF Z) 0 0 0) 0 1 0) 0 2 0) (Z 1 1 - 1).toNat ∧ okCn Z1 ∧ vS Z1 12 = sBegin Z1 ∧ Z1 20 1 = 0 ∧ Z1 20 2 = 0 ∧ Z1 59 0 = 0 ∧ Z1 59 1 = 0 ∧ (∀ a : Nat, ¬ (3 ≤ a ∧ a ≤ 15) → a ≠ 20 → a ≠ 59 → Z1 a = Z a)) ∧ aB Z1 ∧ Y1 = Y)
    (g2 : x2 = (if tFault (Z1 73) (Z1 62 17) = -9 then 100 * Z2 62 0 + 10 * Z2 62 1 + Z2 62 2 else -3) ∧ (tFault (Z1 73) (Z1 62 17) ≠ -9 → rdT Z1 Z2) ∧ (tFault (Z1 73) (Z1 62 17) = -9 → qpNew Z1 Z2) ∧ aB Z2 ∧ Y2 = Y1) (hd : 0 ≤ d) : x2 = x1 ∧ Rel d Z2 Y2 := by
  obtain ⟨e1, no1, ok1, hB1, rfl⟩ := g1
  obtain ⟨e2, no2, ok2, hB, rfl⟩ := g2
  by_cases c : tFault (Z 2) (Z 1 1) = -9
  · obtain ⟨a1, ⟨a2, a3, a4⟩, a5, a6, a7, a8, a9, a10⟩ := ok1 c
    obtain ⟨hT, hP, hS, hA, hK, hW, hM⟩ := h
    have c62 : Z1 62 = Z 62 := a10 62 (by decide) (by decide) (by decide)
    have c73 : Z1 73 = Z 2 := by rw [a10 73 (by decide) (by decide) (by decide), hT.2.2]
    rw [c73, c62, hT.2.1] at e2 ok2
    obtain ⟨⟨m1, m2, m3⟩, b2, b3, ⟨b4, b5, b6⟩, b7, b8, ⟨b9, b10, b11, b12⟩, b13, ⟨b14, b15, b16⟩, b17, b18⟩ := ok2 c
    rw [c73, c62, hT.2.1] at b3
    have ag := (qAg.beg (vF Z) (vT Z1)).run (t := Z 2) (n := Z 1 1) (Z 1 1 - 1).toNat
    rw [← b3] at ag
    have a1' : vF Z1 = qRun (Z 2) (Z 1 1) (tQ0 (vF Z)) (Z 1 1 - 1).toNat := a1
    rw [← a1'] at ag
    obtain ⟨⟨s0, s1, s2⟩, -, r1, ⟨r2, r3, r4⟩, r5, r6, r7, r8⟩ := ag
    have s0 : Z1 3 8 = Z2 62 13 := s0
    have s1 : Z1 3 9 = Z2 62 14 := s1
    have s2 : Z1 3 10 = Z2 62 15 := s2
    have lo2 : ∀ a : Nat, a < 62 → Z2 a = Z1 a := fun a ha => b18 a (by omega) (by omega)
    have lo : ∀ a : Nat, ¬ ((3 ≤ a ∧ a ≤ 15) ∨ a = 20 ∨ a = 59 ∨ (62 ≤ a ∧ a ≤ 72) ∨ a = 78) → Z2 a = Z a := fun a q => by rw [b18 a (by omega) (by omega), a10 a (by omega) (by omega) (by omega)]
    have f : ∀ j : Int, ¬ ((0 ≤ j ∧ j ≤ 2) ∨ (13 ≤ j ∧ j ≤ 15) ∨ j = 18 ∨ j = 19 ∨ j = 22) → Z2 62 j = Z 62 j := fun j hj => by rw [b17 j (by omega) (by omega) (by omega) (by omega) (by omega), c62]
    have eQo : ∀ a : Nat, 63 ≤ a → a ≤ 69 → Z1 a = Z a := fun a q1 q2 => a10 a (by omega) (by omega) (by omega)
    have hPo := hP.1
    have old : ∀ (k : Nat) (j : Int), vQ Z k j = vP Z k j := fun k j => by rw [hP.2]
    have eV : vQ Z2 = vP Z2 := by
      funext k j
      match k with
      | 0 =>
        show (if j = 0 then Z2 62 0 else if j = 1 then Z2 62 1 else Z2 62 2) = (if j = 0 then Z2 3 8 else if j = 1 then Z2 3 9 else Z2 3 10)
        rw [b4, b5, b6, lo2 3 (by decide), s0, s1, s2]
      | 1 =>
        show Z2 63 j = Z2 4 j
        rw [b7, lo2 4 (by decide), eQo 63 (by decide) (by decide)]
        have q := r1 j
        have q2 : Z 63 j = Z 4 j := old 1 j
        have q : Z1 4 j = if 0 ≤ j ∧ j < Z2 62 13 then Z2 70 j else Z 4 j := q
        rw [q, q2]
      | 2 => rfl
      | 3 => rfl
      | 4 =>
        show Z2 64 j = Z2 7 j
        rw [b8, lo2 7 (by decide), eQo 64 (by decide) (by decide)]
        have q : Z1 7 j = if 0 ≤ j ∧ j < Z2 62 14 then Z2 71 (3 * j + 2) else Z 7 j := r4 j
        have q2 : Z 64 j = Z 7 j := old 4 j
        rw [q, q2]
      | 5 =>
        show Z2 65 j = Z2 8 j
        rw [b9, lo2 8 (by decide), eQo 65 (by decide) (by decide)]
        have q : Z1 8 j = if 0 ≤ j ∧ j < Z2 62 15 then Z2 72 (4 * j) else Z 8 j := r5 j
        have q2 : Z 65 j = Z 8 j := old 5 j
        rw [q, q2]
      | 6 =>
        show Z2 66 j = Z2 9 j
        rw [b10, lo2 9 (by decide), eQo 66 (by decide) (by decide)]
        have q : Z1 9 j = if 0 ≤ j ∧ j < Z2 62 15 then Z2 72 (4 * j + 1) else Z 9 j := r6 j
        have q2 : Z 66 j = Z 9 j := old 6 j
        rw [q, q2]
      | 7 =>
        show Z2 68 j = Z2 10 j
        rw [b11, lo2 10 (by decide), eQo 68 (by decide) (by decide)]
        have q : Z1 10 j = if 0 ≤ j ∧ j < Z2 62 15 then Z2 72 (4 * j + 3) else Z 10 j := r7 j
        have q2 : Z 68 j = Z 10 j := old 7 j
        rw [q, q2]
      | 8 =>
        show Z2 67 j = Z2 11 j
        rw [b12, lo2 11 (by decide), eQo 67 (by decide) (by decide)]
        have q : Z1 11 j = if 0 ≤ j ∧ j < Z2 62 15 then qPr (Z2 72 (4 * j + 3)) (Z2 72 (4 * j + 2)) else Z 11 j := r8 j
        have q2 : Z 67 j = Z 11 j := old 8 j
        rw [q, q2]
      | n + 9 => rfl
    obtain ⟨v1, ⟨v2, v3, v4⟩, v5, v6, v7, v8⟩ := b2
    have hPn : okP (vQ Z2) := by
      rw [← hP.2] at hPo
      obtain ⟨-, -, -, o1, o4, o5, o6, o7, o8⟩ := hPo
      refine ⟨?_, ?_, ?_, fun j => ?_, fun j => ?_, fun j => ?_, fun j => ?_, fun j => ?_, fun j => ?_⟩
      · rw [vQ_0, b4]; exact m1
      · rw [vQ_1, b5]; exact m2
      · rw [vQ_2, b6]; exact m3
      · show 0 ≤ Z2 63 j ∧ Z2 63 j ≤ 2
        have q1 := v1 j
        have q2 : 0 ≤ Z 63 j ∧ Z 63 j ≤ 2 := o1 j
        rw [b7, eQo 63 (by decide) (by decide)]
        split <;> omega
      · show 0 ≤ Z2 64 j ∧ Z2 64 j ≤ 3
        have q1 := v4 j
        have q2 : 0 ≤ Z 64 j ∧ Z 64 j ≤ 3 := o4 j
        rw [b8, eQo 64 (by decide) (by decide)]
        split <;> omega
      · show 0 ≤ Z2 65 j ∧ Z2 65 j ≤ 5
        have q1 := v5 j
        have q2 : 0 ≤ Z 65 j ∧ Z 65 j ≤ 5 := o5 j
        rw [b9, eQo 65 (by decide) (by decide)]
        split <;> omega
      · show 0 ≤ Z2 66 j ∧ Z2 66 j ≤ 9
        have q1 := v6 j
        have q2 : 0 ≤ Z 66 j ∧ Z 66 j ≤ 9 := o6 j
        rw [b10, eQo 66 (by decide) (by decide)]
        split <;> omega
      · show 0 ≤ Z2 68 j ∧ Z2 68 j ≤ 3
        have q1 := v8 j
        have q2 : 0 ≤ Z 68 j ∧ Z 68 j ≤ 3 := o7 j
        rw [b11, eQo 68 (by decide) (by decide)]
        split <;> omega
      · show 0 ≤ Z2 67 j ∧ Z2 67 j ≤ 9
        have q1 := qPr_9 (v8 j) (v7 j)
        have q2 : 0 ≤ Z 67 j ∧ Z 67 j ≤ 9 := o8 j
        rw [b12, eQo 67 (by decide) (by decide)]
        split <;> omega
    have eB : ∀ j : Int, vS Z2 12 j = if 0 ≤ j ∧ j < 4 ∧ j < Z2 62 14 then Z2 71 (3 * j) else if 4 ≤ j ∧ j < 8 ∧ j - 4 < Z2 62 14 then Z2 71 (3 * (j - 4) + 1) else 0 := fun j => by
      rw [vS_frame (lo2 3 (by decide)) (lo2 12 (by decide)) (lo2 13 (by decide)) (lo2 14 (by decide)) (lo2 15 (by decide)), a5]
      unfold sBegin
      rw [s1]
      have q : Z1 5 j = if 0 ≤ j ∧ j < Z2 62 14 then Z2 71 (3 * j) else Z 5 j := r2 j
      have q2 : Z1 6 (j - 4) = if 0 ≤ j - 4 ∧ j - 4 < Z2 62 14 then Z2 71 (3 * (j - 4) + 1) else Z 6 (j - 4) := r3 (j - 4)
      by_cases k1 : 0 ≤ j ∧ j < 4 ∧ j < Z2 62 14
      · rw [if_pos k1, if_pos k1, q, if_pos (by omega)]
      · rw [if_neg k1, if_neg k1]
        by_cases k2 : 4 ≤ j ∧ j < 8 ∧ j - 4 < Z2 62 14
        · rw [if_pos k2, if_pos k2, q2, if_pos (by omega)]
        · rw [if_neg k2, if_neg k2]
    have eR : vR Z2 0 = vS Z2 12 := by
      funext j
      rw [eB, vR_M]
      unfold rlM
      rw [b5]
      simp only [b13]
      by_cases k0 : j < 0
      · rw [if_pos k0, if_neg (by omega), if_neg (by omega)]
      · rw [if_neg k0]
        by_cases k1 : j < 4
        · rw [if_pos k1]
          by_cases k2 : j < Z2 62 14
          · rw [if_pos k2, if_pos (by omega), if_pos (by omega), show 16 * 0 + j = j by omega]
          · rw [if_neg k2, if_neg (by omega), if_neg (by omega)]
        · rw [if_neg k1]
          by_cases k2 : j < 8
          · rw [if_pos k2]
            by_cases k3 : j - 4 < Z2 62 14
            · rw [if_pos k3, if_neg (by omega), if_pos (by omega), if_neg (by omega), if_pos (by omega), show 16 * 0 + j - 4 = j - 4 by omega]
            · rw [if_neg k3, if_neg (by omega), if_neg (by omega)]
          · rw [if_neg k2]
            by_cases k3 : j < 16
            · rw [if_pos k3, if_neg (by omega), if_neg (by omega), if_pos (by omega), if_neg (by omega), if_neg (by omega)]
            · rw [if_neg k3, if_neg (by omega), if_neg (by omega)]
    have z0 : ∀ j : Int, 8 ≤ j → vS Z2 12 j = 0 := fun j hj => by rw [eB, if_neg (by omega), if_neg (by omega)]
    have h20 : Z2 20 = Z1 20 := lo2 20 (by decide)
    refine ⟨?_, relT_eq (lo 1 (by omega)) (lo 2 (by omega)) (f 17 (by omega)) (lo 73 (by omega)) hT, ⟨by rw [← eV]; exact hPn, eV⟩, ⟨⟨⟨fun c hc => ?_, fun c hc => ?_, fun p hp => ?_, ?_, ?_, ?_⟩, fun p q1 q2 => z0 _ (by have q9 := hPn.2.2.1; rw [eV] at q9; omega), by rw [z0 15 (by decide)]; exact hd⟩, eR⟩, ⟨?_, ?_, ?_, fun i h5 h6 => ?_⟩, fun s hs => ?_, relW_eq (fun a ha => lo a (by omega)) (f 25 (by omega)) hW, ⟨hM.1, (f 20 (by omega)).trans hM.2.1, ⟨v1, ⟨v2, v3, v4⟩, v5, v6, v7, v8⟩, hB⟩⟩
    · rw [e1, e2, if_pos c, if_pos c, b4, b5, b6, s0, s1, s2]
    · have := v2 c
      rw [eB]
      split
      · omega
      · split <;> omega
    · have := v3 c
      rw [eB, if_neg (by omega)]
      split
      · rw [show 4 + c - 4 = c by omega]; omega
      · omega
    · rw [z0 _ (by omega), ← eV]
      have := hPn.2.2.2.2.2.2.2.2 p
      omega
    · rw [z0 _ (by omega)]; decide
    · rw [z0 _ (by omega), z0 _ (by omega)]; decide
    · rw [z0 _ (by omega)]; decide
    · unfold okA
      rw [h20, a6, a7]
      decide
    · have := hA.2.1
      unfold okN at this ⊢
      rw [b14, f 23 (by omega)]
      omega
    · rw [b14, h20, a7]
    · rw [h20, a7] at h6
      omega
    · rw [lo2 59 (by decide)]
      rcases hs with rfl | rfl
      · rw [a8, b15]
        exact ⟨rfl, fun q => absurd rfl q⟩
      · rw [a9, b16]
        exact ⟨rfl, fun q => absurd rfl q⟩
  · have z1 := no1 c
    subst z1
    rw [h.1.2.1, h.1.2.2] at e2 no2
    obtain ⟨-, t2, t3, t4⟩ := no2 c
    refine ⟨by rw [e2, e1, if_neg c, if_neg c], h.sm t4.sm t3 hB h.2.2.2.2.2.2.1 (Int.le_refl _)⟩
theorem oz_push {P : aP} {S : aSk} {c : Int} {on : Bool} (hP : okP P) (h : oz P S) (hc : c < P 0 1) : oz P (dPush S c on) := fun p h1 h2 => by
  have := hP.2.1
  have := hP.2.2.1
  unfold dPush
  rw [if_neg (by omega)]
  exact h p h1 h2
theorem oz_rip {P : aP} {S : aSk} {p : Int} (hP : okP P) (h : oz P S) (hp : p < P 0 2) : oz P (dRip S p) := fun q h1 h2 => by
  have := hP.2.2.1
  unfold dRip
  rw [if_neg (by omega), if_neg (by omega)]
  exact h q h1 h2
theorem dDay_15 {P : aP} {S : aSk} : dDay P S 15 = S 15 + 1 := by
  unfold dDay
  rw [if_pos rfl]
theorem dPush_15 {S : aSk} {c : Int} {on : Bool} (hc : c < 4) : dPush S c on 15 = S 15 := by
  unfold dPush
  rw [if_neg (by omega)]
theorem dDrop_15 {P : aP} {S : aSk} {c p : Int} (hc : c < 4) (hp : p < 5) : dDrop P S c p 15 = S 15 := by
  unfold dDrop
  rw [if_neg (by omega), if_neg (by omega)]
theorem dRip_15 {S : aSk} {p : Int} (hp : 0 ≤ p ∧ p < 5) : dRip S p 15 = S 15 := by
  unfold dRip
  rw [if_neg (by omega), if_neg (by decide)]

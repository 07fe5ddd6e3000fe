/-! what each call that changes something does to both sides -/
theorem rl_write {d l x1 x2 : Int} {Z Z1 Z2 : aZ} {Y Y1 Y2 : aY} (h : Rel d Z Y)
    (g1 : x1 = (if 0 ≤ l ∧ l ≤ 255 then (if Z 1 1 < 52 then Z 1 1 + 1 else -4) else -2) ∧ Z1 = (if 0 ≤ l ∧ l ≤ 255 ∧ Z 1 1 < 52 then aU (aU Z 2 (Z 1 1) l) 1 1 (Z 1 1 + 1) else Z) ∧ aB Z1 ∧ Y1 = Y)
    (g2 : x2 = (if 0 ≤ l ∧ l ≤ 255 then (if Z1 62 17 < 52 then Z1 62 17 + 1 else -4) else -2) ∧ Z2 = (if 0 ≤ l ∧ l ≤ 255 ∧ Z1 62 17 < 52 then aU (aU Z1 73 (Z1 62 17) l) 62 17 (Z1 62 17 + 1) else Z1) ∧ aB Z2 ∧ Y2 = Y1) : x2 = x1 ∧ Rel d Z2 Y2 := by
  obtain ⟨e1, z1, -, rfl⟩ := g1
  obtain ⟨e2, z2, hB, rfl⟩ := g2
  have hn : Z1 62 17 = Z 1 1 := by
    rw [z1]
    split
    · rw [aU_ne (by decide), aU_ne (by decide)]; exact h.1.2.1
    · exact h.1.2.1
  rw [hn] at e2 z2
  refine ⟨by rw [e2, e1], ?_⟩
  by_cases c : 0 ≤ l ∧ l ≤ 255 ∧ Z 1 1 < 52
  · rw [if_pos c] at z1 z2
    obtain ⟨hT, hP, hS, hA, hK, hW, hM⟩ := h
    have lo : ∀ a : Nat, ¬ (a = 1 ∨ a = 2 ∨ a = 62 ∨ a = 73) → Z2 a = Z a := fun a q => by rw [z2, aU_row (by omega), aU_row (by omega), z1, aU_row (by omega), aU_row (by omega)]
    have f : ∀ j : Int, j ≠ 17 → Z2 62 j = Z 62 j := fun j hj => by rw [z2, aU_nj hj, aU_ne (by decide), z1, aU_ne (by decide), aU_ne (by decide)]
    have t1 : Z2 1 1 = Z 1 1 + 1 := by rw [z2, aU_ne (by decide), aU_ne (by decide), z1, aU_eq]
    have t2 : Z2 2 = aU Z 2 (Z 1 1) l 2 := by rw [z2, aU_row (by decide), aU_row (by decide), z1, aU_row (by decide)]
    have t3 : ∀ j : Int, Z2 73 j = if j = Z 1 1 then l else Z 2 j := fun j => by rw [z2, aU_ne (by decide), aU_at, z1, aU_ne (by decide), aU_ne (by decide), hT.2.2]
    refine ⟨⟨⟨?_, fun j => ?_⟩, ?_, ?_⟩, relP_eq (vP_eq (fun a ha => lo a (by omega))) (vQ_eq2 (f 0 (by omega)) (f 1 (by omega)) (f 2 (by omega)) (fun a ha => lo a (by omega))) hP, relS_eq (vP_eq (fun a ha => lo a (by omega))) (vS_frame (lo 3 (by omega)) (lo 12 (by omega)) (lo 13 (by omega)) (lo 14 (by omega)) (lo 15 (by omega))) (vR_eq 0 (f 1 (by omega)) (lo 69 (by omega))) (Int.le_refl _) hS, relA_eq (fun a ha => lo a (by omega)) (by rw [lo 20 (by omega)]) (by rw [lo 20 (by omega)]) (f 1 (by omega)) (f 22 (by omega)) (f 23 (by omega)) (Int.le_refl _) hA, relK_eq (fun a ha => lo a (by omega)) (f 1 (by omega)) (Int.le_refl _) hK, relW_eq (fun a ha => lo a (by omega)) (f 25 (by omega)) hW, ⟨hM.1, (f 20 (by omega)).trans hM.2.1, okVr_eq (lo 70 (by omega)) (lo 71 (by omega)) (lo 72 (by omega)) hM.2.2.1, hB⟩⟩
    · have := hT.1.1
      omega
    · have := hT.1.2 j
      rw [t2, aU_at]
      split <;> omega
    · rw [t1, z2, aU_eq]
    · funext j
      rw [t3, t2, aU_at]
  · rw [if_neg c] at z1 z2
    rw [z2, z1]
    exact h
theorem rl_wipe {d x1 x2 : Int} {Z Z1 Z2 : aZ} {Y Y1 Y2 : aY} (h : Rel d Z Y) (g1 : x1 = Z 1 1 ∧ Z1 = aU Z 1 1 0 ∧ aB Z1 ∧ Y1 = Y) (g2 : x2 = Z1 62 17 ∧ Z2 = aU Z1 62 17 0 ∧ aB Z2 ∧ Y2 = Y1) : x2 = x1 ∧ Rel d Z2 Y2 := by
  obtain ⟨e1, z1, -, rfl⟩ := g1
  obtain ⟨e2, z2, hB, rfl⟩ := g2
  obtain ⟨hT, hP, hS, hA, hK, hW, hM⟩ := h
  refine ⟨by rw [e2, e1, z1, aU_ne (by decide)]; exact hT.2.1, ?_⟩
  have lo : ∀ a : Nat, ¬ (a = 1 ∨ a = 62) → Z2 a = Z a := fun a q => by rw [z2, aU_row (by omega), z1, aU_row (by omega)]
  have f : ∀ j : Int, j ≠ 17 → Z2 62 j = Z 62 j := fun j hj => by rw [z2, aU_nj hj, z1, aU_ne (by decide)]
  have t1 : Z2 1 1 = 0 := by rw [z2, aU_ne (by decide), z1, aU_eq]
  refine ⟨⟨⟨by omega, fun j => ?_⟩, ?_, ?_⟩, relP_eq (vP_eq (fun a ha => lo a (by omega))) (vQ_eq2 (f 0 (by omega)) (f 1 (by omega)) (f 2 (by omega)) (fun a ha => lo a (by omega))) hP, relS_eq (vP_eq (fun a ha => lo a (by omega))) (vS_frame (lo 3 (by omega)) (lo 12 (by omega)) (lo 13 (by omega)) (lo 14 (by omega)) (lo 15 (by omega))) (vR_eq 0 (f 1 (by omega)) (lo 69 (by omega))) (Int.le_refl _) hS, relA_eq (fun a ha => lo a (by omega)) (by rw [lo 20 (by omega)]) (by rw [lo 20 (by omega)]) (f 1 (by omega)) (f 22 (by omega)) (f 23 (by omega)) (Int.le_refl _) hA, relK_eq (fun a ha => lo a (by omega)) (f 1 (by omega)) (Int.le_refl _) hK, relW_eq (fun a ha => lo a (by omega)) (f 25 (by omega)) hW, ⟨hM.1, (f 20 (by omega)).trans hM.2.1, okVr_eq (lo 70 (by omega)) (lo 71 (by omega)) (lo 72 (by omega)) hM.2.2.1, hB⟩⟩
  · rw [lo 2 (by omega)]
    exact hT.1.2 j
  · rw [t1, z2, aU_eq]
  · rw [lo 73 (by omega), lo 2 (by omega)]
    exact hT.2.2
theorem rl_see {d y n x1 x2 : Int} {Z Z1 Z2 : aZ} {Y Y1 Y2 : aY} (h : Rel d Z Y)
    (g1 : x1 = (if 0 ≤ y ∧ y < 6 then (if 0 ≤ n ∧ n ≤ 9 then (if Z 36 2 < 6 then Z 36 2 + 1 else -4) else -2) else -1) ∧ Z1 = (if (0 ≤ y ∧ y < 6) ∧ (0 ≤ n ∧ n ≤ 9) ∧ Z 36 2 < 6 then aU (aU (aU Z 37 (Z 36 2) y) 38 (Z 36 2) n) 36 2 (Z 36 2 + 1) else Z) ∧ aB Z1 ∧ Y1 = Y)
    (g2 : x2 = (if 0 ≤ y ∧ y < 6 then (if 0 ≤ n ∧ n ≤ 9 then (if Z1 62 25 < 6 then Z1 62 25 + 1 else -4) else -2) else -1) ∧ Z2 = (if (0 ≤ y ∧ y < 6) ∧ (0 ≤ n ∧ n ≤ 9) ∧ Z1 62 25 < 6 then aU (aU (aU Z1 76 (Z1 62 25) y) 77 (Z1 62 25) n) 62 25 (Z1 62 25 + 1) else Z1) ∧ aB Z2 ∧ Y2 = Y1) : x2 = x1 ∧ Rel d Z2 Y2 := by
  obtain ⟨e1, z1, -, rfl⟩ := g1
  obtain ⟨e2, z2, hB, rfl⟩ := g2
  have hn : Z1 62 25 = Z 36 2 := by
    rw [z1]
    split
    · rw [aU_ne (by decide), aU_ne (by decide), aU_ne (by decide)]; exact h.2.2.2.2.2.1.2.1
    · exact h.2.2.2.2.2.1.2.1
  rw [hn] at e2 z2
  refine ⟨by rw [e2, e1], ?_⟩
  by_cases c : (0 ≤ y ∧ y < 6) ∧ (0 ≤ n ∧ n ≤ 9) ∧ Z 36 2 < 6
  · rw [if_pos c] at z1 z2
    obtain ⟨hT, hP, hS, hA, hK, ⟨⟨w1, w2, w3⟩, w4, w5, w6⟩, hM⟩ := h
    have lo : ∀ a : Nat, ¬ (a = 36 ∨ a = 37 ∨ a = 38 ∨ a = 62 ∨ a = 76 ∨ a = 77) → Z2 a = Z a := fun a q => by rw [z2, aU_row (by omega), aU_row (by omega), aU_row (by omega), z1, aU_row (by omega), aU_row (by omega), aU_row (by omega)]
    have f : ∀ j : Int, j ≠ 25 → Z2 62 j = Z 62 j := fun j hj => by rw [z2, aU_nj hj, aU_ne (by decide), aU_ne (by decide), z1, aU_ne (by decide), aU_ne (by decide), aU_ne (by decide)]
    have t1 : Z2 36 2 = Z 36 2 + 1 := by rw [z2, aU_ne (by decide), aU_ne (by decide), aU_ne (by decide), z1, aU_eq]
    have t2 : ∀ j : Int, Z2 37 j = if j = Z 36 2 then y else Z 37 j := fun j => by rw [z2, aU_ne (by decide), aU_ne (by decide), aU_ne (by decide), z1, aU_ne (by decide), aU_ne (by decide), aU_at]
    have t3 : ∀ j : Int, Z2 38 j = if j = Z 36 2 then n else Z 38 j := fun j => by rw [z2, aU_ne (by decide), aU_ne (by decide), aU_ne (by decide), z1, aU_ne (by decide), aU_at, aU_ne (by decide)]
    have t4 : ∀ j : Int, Z2 76 j = if j = Z 36 2 then y else Z 37 j := fun j => by rw [z2, aU_ne (by decide), aU_ne (by decide), aU_at, z1, aU_ne (by decide), aU_ne (by decide), aU_ne (by decide), w5]
    have t5 : ∀ j : Int, Z2 77 j = if j = Z 36 2 then n else Z 38 j := fun j => by rw [z2, aU_ne (by decide), aU_at, aU_ne (by decide), z1, aU_ne (by decide), aU_ne (by decide), aU_ne (by decide), w6]
    refine ⟨relT_eq (lo 1 (by omega)) (lo 2 (by omega)) (f 17 (by omega)) (lo 73 (by omega)) hT, relP_eq (vP_eq (fun a ha => lo a (by omega))) (vQ_eq2 (f 0 (by omega)) (f 1 (by omega)) (f 2 (by omega)) (fun a ha => lo a (by omega))) hP, relS_eq (vP_eq (fun a ha => lo a (by omega))) (vS_frame (lo 3 (by omega)) (lo 12 (by omega)) (lo 13 (by omega)) (lo 14 (by omega)) (lo 15 (by omega))) (vR_eq 0 (f 1 (by omega)) (lo 69 (by omega))) (Int.le_refl _) hS, relA_eq (fun a ha => lo a (by omega)) (by rw [lo 20 (by omega)]) (by rw [lo 20 (by omega)]) (f 1 (by omega)) (f 22 (by omega)) (f 23 (by omega)) (Int.le_refl _) hA, relK_eq (fun a ha => lo a (by omega)) (f 1 (by omega)) (Int.le_refl _) hK, ⟨⟨by omega, fun j => ?_, fun j => ?_⟩, ?_, ?_, ?_⟩, ⟨hM.1, (f 20 (by omega)).trans hM.2.1, okVr_eq (lo 70 (by omega)) (lo 71 (by omega)) (lo 72 (by omega)) hM.2.2.1, hB⟩⟩
    · have := w2 j
      rw [t2]
      split <;> omega
    · have := w3 j
      rw [t3]
      split <;> omega
    · rw [t1, z2, aU_eq]
    · funext j
      rw [t4, t2]
    · funext j
      rw [t5, t3]
  · rw [if_neg c] at z1 z2
    rw [z2, z1]
    exact h
theorem rl_unsee {d x1 x2 : Int} {Z Z1 Z2 : aZ} {Y Y1 Y2 : aY} (h : Rel d Z Y) (g1 : x1 = Z 36 2 ∧ Z1 = aU Z 36 2 0 ∧ aB Z1 ∧ Y1 = Y) (g2 : x2 = Z1 62 25 ∧ Z2 = aU Z1 62 25 0 ∧ aB Z2 ∧ Y2 = Y1) : x2 = x1 ∧ Rel d Z2 Y2 := by
  obtain ⟨e1, z1, -, rfl⟩ := g1
  obtain ⟨e2, z2, hB, rfl⟩ := g2
  obtain ⟨hT, hP, hS, hA, hK, ⟨⟨w1, w2, w3⟩, w4, w5, w6⟩, hM⟩ := h
  refine ⟨by rw [e2, e1, z1, aU_ne (by decide)]; exact w4, ?_⟩
  have lo : ∀ a : Nat, ¬ (a = 36 ∨ a = 62) → Z2 a = Z a := fun a q => by rw [z2, aU_row (by omega), z1, aU_row (by omega)]
  have f : ∀ j : Int, j ≠ 25 → Z2 62 j = Z 62 j := fun j hj => by rw [z2, aU_nj hj, z1, aU_ne (by decide)]
  have t1 : Z2 36 2 = 0 := by rw [z2, aU_ne (by decide), z1, aU_eq]
  refine ⟨relT_eq (lo 1 (by omega)) (lo 2 (by omega)) (f 17 (by omega)) (lo 73 (by omega)) hT, relP_eq (vP_eq (fun a ha => lo a (by omega))) (vQ_eq2 (f 0 (by omega)) (f 1 (by omega)) (f 2 (by omega)) (fun a ha => lo a (by omega))) hP, relS_eq (vP_eq (fun a ha => lo a (by omega))) (vS_frame (lo 3 (by omega)) (lo 12 (by omega)) (lo 13 (by omega)) (lo 14 (by omega)) (lo 15 (by omega))) (vR_eq 0 (f 1 (by omega)) (lo 69 (by omega))) (Int.le_refl _) hS, relA_eq (fun a ha => lo a (by omega)) (by rw [lo 20 (by omega)]) (by rw [lo 20 (by omega)]) (f 1 (by omega)) (f 22 (by omega)) (f 23 (by omega)) (Int.le_refl _) hA, relK_eq (fun a ha => lo a (by omega)) (f 1 (by omega)) (Int.le_refl _) hK, ⟨⟨by omega, ?_, ?_⟩, ?_, ?_, ?_⟩, ⟨hM.1, (f 20 (by omega)).trans hM.2.1, okVr_eq (lo 70 (by omega)) (lo 71 (by omega)) (lo 72 (by omega)) hM.2.2.1, hB⟩⟩
  · rw [lo 37 (by omega)]; exact w2
  · rw [lo 38 (by omega)]; exact w3
  · rw [t1, z2, aU_eq]
  · rw [lo 76 (by omega), lo 37 (by omega)]; exact w5
  · rw [lo 77 (by omega), lo 38 (by omega)]; exact w6
theorem rl_seed {d : Int} {v x1 x2 : Int64} {Z Z1 Z2 : aZ} {Y Y1 Y2 : aY} (h : Rel d Z Y) (g1 : x1 = Y 0 ∧ Z1 = Z ∧ Y1 = aUy Y 0 v) (g2 : x2 = Y1 62 ∧ Z2 = Z1 ∧ Y2 = aUy Y1 62 v) : x2 = x1 ∧ Rel d Z2 Y2 := by
  obtain ⟨e1, rfl, y1⟩ := g1
  obtain ⟨e2, rfl, y2⟩ := g2
  refine ⟨by rw [e2, e1, y1]; exact h.2.2.2.2.2.2.1, h.sm sm.rf h.2.2.2.2.2.2.2.2.1 h.2.2.2.2.2.2.2.2.2 ?_ (Int.le_refl _)⟩
  rw [y2, y1]
  rfl
theorem rl_keep {d s x1 x2 : Int} {Z Z1 Z2 : aZ} {Y Y1 Y2 : aY} (h : Rel d Z Y)
    (g1 : x1 = (if 0 ≤ s ∧ s < 2 then Z 12 6 else -1) ∧ (if 0 ≤ s ∧ s < 2 then vRow Z1 (57 + s.toNat) = vS Z 12 ∧ Z1 59 s = 1 ∧ (∀ b : Int, b ≠ s → Z1 59 b = Z 59 b) ∧ (∀ a : Nat, a ≠ (57 + s.toNat) → a ≠ 59 → Z1 a = Z a) else Z1 = Z) ∧ aB Z1 ∧ Y1 = Y)
    (g2 : x2 = (if 0 ≤ s ∧ s < 2 then Z1 69 15 else -1) ∧ (if 0 ≤ s ∧ s < 2 then Z2 78 s = 1 ∧ (∀ b : Int, b ≠ s → Z2 78 b = Z1 78 b) ∧ (∀ j : Int, Z2 79 j = if 16 * s ≤ j ∧ j < 16 * s + 16 then Z1 69 (j - 16 * s) else Z1 79 j) ∧ (∀ a : Nat, a ≠ 78 → a ≠ 79 → Z2 a = Z1 a) else Z2 = Z1) ∧ aB Z2 ∧ Y2 = Y1) : x2 = x1 ∧ Rel d Z2 Y2 := by
  obtain ⟨e1, z1, -, rfl⟩ := g1
  obtain ⟨e2, z2, hB, rfl⟩ := g2
  by_cases c : 0 ≤ s ∧ s < 2
  · rw [if_pos c] at z1 z2 e1 e2
    obtain ⟨a1, a2, a3, a4⟩ := z1
    obtain ⟨b1, b2, b3, b4⟩ := z2
    obtain ⟨hT, hP, hS, hA, hK, hW, hM⟩ := h
    have c1 : ∀ a : Nat, 62 ≤ a → Z1 a = Z a := fun a ha => a4 a (by omega) (by omega)
    have hd15 : Z 69 15 = Z 12 6 := by
      have := congrFun hS.2 15
      rw [vR_hi (by decide), vS_15] at this
      exact this
    refine ⟨by rw [e2, e1, c1 69 (by decide)]; exact hd15, ?_⟩
    have lo : ∀ a : Nat, ¬ (57 ≤ a ∧ a ≤ 59) → a ≠ 78 ∧ a ≠ 79 → Z2 a = Z a := fun a q q2 => by rw [b4 a q2.1 q2.2, a4 a (by omega) (by omega)]
    have lo := fun (a : Nat) (q : ¬ (57 ≤ a ∧ a ≤ 59) ∧ a ≠ 78 ∧ a ≠ 79) => lo a q.1 q.2
    have f : ∀ j : Int, j = j → Z2 62 j = Z 62 j := fun j _ => by rw [lo 62 (by omega)]
    have e3 : Z2 3 = Z 3 := lo 3 (by omega)
    have eP : vP Z2 = vP Z := vP_eq (fun a ha => lo a (by omega))
    refine ⟨relT_eq (lo 1 (by omega)) (lo 2 (by omega)) (f 17 (by omega)) (lo 73 (by omega)) hT, relP_eq (vP_eq (fun a ha => lo a (by omega))) (vQ_eq2 (f 0 (by omega)) (f 1 (by omega)) (f 2 (by omega)) (fun a ha => lo a (by omega))) hP, relS_eq (vP_eq (fun a ha => lo a (by omega))) (vS_frame (lo 3 (by omega)) (lo 12 (by omega)) (lo 13 (by omega)) (lo 14 (by omega)) (lo 15 (by omega))) (vR_eq 0 (f 1 (by omega)) (lo 69 (by omega))) (Int.le_refl _) hS, relA_eq (fun a ha => lo a (by omega)) (by rw [lo 20 (by omega)]) (by rw [lo 20 (by omega)]) (f 1 (by omega)) (f 22 (by omega)) (f 23 (by omega)) (Int.le_refl _) hA, fun s' hs' => ?_, relW_eq (fun a ha => lo a (by omega)) (f 25 (by omega)) hW, ⟨hM.1, (f 20 (by omega)).trans hM.2.1, okVr_eq (lo 70 (by omega)) (lo 71 (by omega)) (lo 72 (by omega)) hM.2.2.1, hB⟩⟩
    have e59 : Z2 59 = Z1 59 := b4 59 (by decide) (by decide)
    have hrow : ∀ k : Nat, 57 ≤ k → k ≤ 59 → vRow Z2 k = vRow Z1 k := fun k q1 q2 => vRow_eq (b4 3 (by decide) (by decide)) (b4 k (by omega) (by omega))
    rw [e59, eP, hrow _ (by omega) (by omega)]
    by_cases q : s' = s
    · rw [q, b1, a2, a1]
      refine ⟨rfl, fun _ => ⟨hS.1, ?_⟩⟩
      unfold rKp
      rw [f 1 rfl, rlM_congr (g := fun j => Z 69 (16 * 0 + j)) (fun j hj => by rw [b3, if_pos (by omega), c1 69 (by decide), show 16 * s + j - 16 * s = 16 * 0 + j by omega])]
      exact hS.2
    · obtain ⟨k1, k2⟩ := hK s' hs'
      rw [b2 s' q, a3 s' q, c1 78 (by decide)]
      refine ⟨k1, fun z => ?_⟩
      obtain ⟨k3, k4⟩ := k2 z
      have er : vRow Z1 (57 + s'.toNat) = vRow Z (57 + s'.toNat) := vRow_eq (a4 3 (by omega) (by decide)) (a4 _ (by omega) (by omega))
      rw [er]
      refine ⟨k3, ?_⟩
      rw [← k4]
      unfold rKp
      rw [f 1 rfl]
      exact rlM_congr (fun j hj => by rw [b3, if_neg (by omega), c1 79 (by decide)])
  · rw [if_neg c] at z1 z2 e1 e2
    rw [z2, z1]
    exact ⟨by rw [e2, e1], h⟩
theorem rl_again {d s x1 x2 : Int} {Z Z1 Z2 : aZ} {Y Y1 Y2 : aY} (h : Rel d Z Y)
    (g1 : x1 = (if 0 ≤ s ∧ s < 2 then (if Z 59 s ≠ 0 then Z1 12 6 else -3) else -1) ∧ (if (0 ≤ s ∧ s < 2) ∧ Z 59 s ≠ 0 then vS Z1 12 = vRow Z (57 + s.toNat) ∧ Z1 20 1 = 0 ∧ Z1 20 2 = 0 ∧ (∀ a : Nat, a ≠ 20 → ¬ (12 ≤ a ∧ a ≤ 15) → Z1 a = Z a) else Z1 = Z) ∧ aB Z1 ∧ Y1 = Y)
    (g2 : x2 = (if 0 ≤ s ∧ s < 2 then (if Z1 78 s ≠ 0 then Z2 69 15 else -3) else -1) ∧ (if (0 ≤ s ∧ s < 2) ∧ Z1 78 s ≠ 0 then Z2 62 22 = 0 ∧ (∀ j : Int, j ≠ 22 → Z2 62 j = Z1 62 j) ∧ (∀ j : Int, Z2 69 j = if 0 ≤ j ∧ j < 16 then Z1 79 (16 * s + j) else Z1 69 j) ∧ (∀ a : Nat, a ≠ 62 → a ≠ 69 → Z2 a = Z1 a) else Z2 = Z1) ∧ aB Z2 ∧ Y2 = Y1) : x2 = x1 ∧ Rel d Z2 Y2 := by
  obtain ⟨e1, z1, -, rfl⟩ := g1
  obtain ⟨e2, z2, hB, rfl⟩ := g2
  by_cases c : 0 ≤ s ∧ s < 2
  · have hk := h.2.2.2.2.1 s (by omega)
    have h78 : Z1 78 s = Z 59 s := by
      by_cases c2 : (0 ≤ s ∧ s < 2) ∧ Z 59 s ≠ 0
      · rw [if_pos c2] at z1
        rw [z1.2.2.2 78 (by decide) (by decide)]; exact hk.1
      · rw [if_neg c2] at z1
        rw [z1]; exact hk.1
    rw [h78] at e2 z2
    by_cases c2 : Z 59 s ≠ 0
    · rw [if_pos ⟨c, c2⟩] at z1 z2
      rw [if_pos c, if_pos c2] at e1 e2
      obtain ⟨a1, a2, a3, a4⟩ := z1
      obtain ⟨b1, b2, b3, b4⟩ := z2
      obtain ⟨hT, hP, hS, hA, hK, hW, hM⟩ := h
      obtain ⟨k3, k4⟩ := hk.2 c2
      have lo : ∀ a : Nat, ¬ (a = 20 ∨ (12 ≤ a ∧ a ≤ 15) ∨ a = 62 ∨ a = 69) → Z2 a = Z a := fun a q => by rw [b4 a (by omega) (by omega), a4 a (by omega) (by omega)]
      have f : ∀ j : Int, j ≠ 22 → Z2 62 j = Z 62 j := fun j hj => by rw [b2 j hj, a4 62 (by decide) (by decide)]
      have eP : vP Z2 = vP Z := vP_eq (fun a ha => lo a (by omega))
      have eS : vS Z2 12 = vRow Z (57 + s.toNat) := by
        rw [← a1]
        exact vS_frame (b4 3 (by decide) (by decide)) (b4 12 (by decide) (by decide)) (b4 13 (by decide) (by decide)) (b4 14 (by decide) (by decide)) (b4 15 (by decide) (by decide))
      have eR : vR Z2 0 = vRow Z (57 + s.toNat) := by
        rw [← k4, vR_M]
        unfold rKp
        rw [f 1 (by decide)]
        exact rlM_congr (fun j hj => by rw [b3, if_pos (by omega), a4 79 (by decide) (by decide), show 16 * s + (16 * 0 + j) = 16 * s + j by omega])
      have h20 : Z2 20 = Z1 20 := b4 20 (by decide) (by decide)
      have rS : relS d Z2 := by
        unfold relS
        rw [eP, eS, eR]
        exact ⟨k3, rfl⟩
      refine ⟨?_, relT_eq (lo 1 (by omega)) (lo 2 (by omega)) (f 17 (by omega)) (lo 73 (by omega)) hT, relP_eq (vP_eq (fun a ha => lo a (by omega))) (vQ_eq2 (f 0 (by omega)) (f 1 (by omega)) (f 2 (by omega)) (fun a ha => lo a (by omega))) hP, rS, ⟨?_, ?_, ?_, fun i h5 h6 => ?_⟩, relK_eq (fun a ha => lo a (by omega)) (f 1 (by omega)) (Int.le_refl _) hK, relW_eq (fun a ha => lo a (by omega)) (f 25 (by omega)) hW, ⟨hM.1, (f 20 (by omega)).trans hM.2.1, okVr_eq (lo 70 (by omega)) (lo 71 (by omega)) (lo 72 (by omega)) hM.2.2.1, hB⟩⟩
      · have q := congrFun rS.2 15
        rw [vR_hi (by decide), vS_15] at q
        rw [e2, e1, ← b4 12 (by decide) (by decide)]
        exact q
      · unfold okA; rw [h20, a2, a3]; decide
      · have := hA.2.1
        unfold okN at this ⊢
        rw [b1, f 23 (by decide)]
        omega
      · rw [b1, h20, a3]
      · rw [h20, a3] at h6
        omega
    · rw [if_neg (fun q => c2 q.2)] at z1 z2
      rw [if_pos c, if_neg c2] at e1 e2
      rw [z2, z1]
      exact ⟨by rw [e2, e1], h⟩
  · rw [if_neg (fun q => c q.1)] at z1 z2
    rw [if_neg c] at e1 e2
    rw [z2, z1]
    exact ⟨by rw [e2, e1], h⟩

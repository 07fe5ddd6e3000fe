/-! acts -/
theorem rl_did {d : Int} {Z Z1 Z2 : aZ} {Y : aY} {S' : aSk} (h : Rel d Z Y) (g1 : aDid Z S' Z1) (g2 : qDid Z1 S' Z2) (hB : aB Z2) (hz : oz (vP Z) S') (hd : S' 15 ≤ d + 1) : Rel (d + 1) Z2 Y := by
  obtain ⟨a1, a2, a3, a4, a5, a6⟩ := g1
  obtain ⟨b1, b2, ⟨b3, b4, b5, b6⟩, b7⟩ := g2
  obtain ⟨hT, hP, hS, ⟨⟨⟨o1, o2⟩, o3, o4⟩, ⟨⟨n1, n2⟩, n3, n4⟩, hn, hr⟩, hK, hW, hM⟩ := h
  have hrg := aRw_rng Z1 (Z1 20 2 - 1)
  have lo1 : ∀ a : Nat, ¬ ((20 ≤ a ∧ a < 36) ∨ (12 ≤ a ∧ a ≤ 15)) → Z1 a = Z a := fun a q => a6 a (by omega) (by omega) (by omega)
  have lo : ∀ a : Nat, ¬ ((20 ≤ a ∧ a < 36) ∨ (12 ≤ a ∧ a ≤ 15) ∨ a = 62 ∨ a = 69 ∨ a = 75) → Z2 a = Z a := fun a q => by rw [b7 a (by omega) (by omega) (by omega), lo1 a (by omega)]
  have f : ∀ j : Int, ¬ (j = 22 ∨ j = 23) → Z2 62 j = Z 62 j := fun j hj => by rw [b5 j (by omega) (by omega), lo1 62 (by omega)]
  have eP : vP Z2 = vP Z := vP_eq (fun a ha => lo a (by omega))
  have eS : vS Z2 12 = S' := by
    rw [← a1]
    exact vS_frame (b7 3 (by decide) (by decide) (by decide)) (b7 12 (by decide) (by decide) (by decide)) (b7 13 (by decide) (by decide) (by decide)) (b7 14 (by decide) (by decide) (by decide)) (b7 15 (by decide) (by decide) (by decide))
  have h20 : Z2 20 = Z1 20 := b7 20 (by decide) (by decide) (by decide)
  have hrow : ∀ k : Nat, 22 ≤ k → k < 36 → vRow Z2 k = vRow Z1 k := fun k q1 q2 => vRow_eq (b7 3 (by decide) (by decide) (by decide)) (b7 k (by omega) (by omega) (by omega))
  have c62 : Z1 62 = Z 62 := lo1 62 (by omega)
  rw [c62] at b3 b4 b6
  rw [lo1 69 (by omega), lo1 75 (by omega)] at b6
  have rw1 : ∀ i : Int, aRw Z2 i = aRw Z1 i := fun i => by unfold aRw; rw [h20]
  have k1 : Z2 20 1 = (if Z 20 2 = 14 then (Z 20 1 + 1) % 14 else Z 20 1) := by rw [h20, a4]
  have k2 : Z2 20 2 = (if Z 20 2 = 14 then 14 else Z 20 2 + 1) := by rw [h20, a3]
  have rA : relA (d + 1) Z2 := by
    refine ⟨?_, ?_, ?_, fun i h5 h6 => ?_⟩
    · unfold okA
      rw [k1, k2]
      constructor
      · split <;> omega
      · split <;> omega
    · unfold okN
      rw [b3, b4]
      constructor
      · omega
      · split <;> omega
    · rw [b4, k2, hn]
      by_cases c : Z 20 2 = 14
      · rw [if_neg (by omega), if_pos c]
      · rw [if_pos (by omega), if_neg c]
    · have hrg2 := aRw_rng Z1 i
      rw [eP, rw1, hrow _ hrg2.1 hrg2.2]
      by_cases c : i = Z2 20 2 - 1
      · rw [c, h20, a5]
        refine ⟨hS.1.mono (by omega), ?_⟩
        rw [← hS.2, b3]
        have e1 : ((Z 62 23 + 1) % 14 + 14 - Z1 20 2 + (Z1 20 2 - 1)) % 14 = Z 62 23 := by omega
        rw [e1, vR_M]
        unfold rRow
        rw [f 1 (by decide)]
        exact rlM_congr (fun j hj => by rw [b6, if_pos (by omega), show 16 * Z 62 23 + j - 16 * Z 62 23 = 16 * 0 + j by omega])
      · obtain ⟨i', hi'⟩ : ∃ i' : Int, i' = (if Z 20 2 = 14 then i + 1 else i) := ⟨_, rfl⟩
        rw [k2] at h6 c
        have hlt : 0 ≤ i' ∧ i' < Z 20 2 := by
          by_cases c14 : Z 20 2 = 14
          · rw [if_pos c14] at h6 c hi'
            omega
          · rw [if_neg c14] at h6 c hi'
            omega
        obtain ⟨r1, r2⟩ := hr i' hlt.1 hlt.2
        have er : aRw Z1 i = aRw Z i' := by
          unfold aRw
          rw [a4]
          by_cases c14 : Z 20 2 = 14
          · rw [if_pos c14] at hi' ⊢
            rw [hi', show ((Z 20 1 + 1) % 14 + i) % 14 = (Z 20 1 + (i + 1)) % 14 by omega]
          · rw [if_neg c14] at hi' ⊢
            rw [hi']
        have hne : aRw Z1 i ≠ aRw Z1 (Z1 20 2 - 1) := by
          unfold aRw
          rw [a3]
          by_cases c14 : Z 20 2 = 14
          · rw [if_pos c14] at h6 c ⊢
            omega
          · rw [if_neg c14] at h6 c ⊢
            omega
        have eV : vRow Z1 (aRw Z1 i) = vRow Z (aRw Z i') := by
          rw [← er]
          exact vRow_eq (lo1 3 (by omega)) (a6 _ (by omega) hne (by omega))
        rw [eV]
        refine ⟨r1.mono (by omega), ?_⟩
        rw [← r2, b3, k2]
        have e1 : ((Z 62 23 + 1) % 14 + 14 - (if Z 20 2 = 14 then 14 else Z 20 2 + 1) + i) % 14 = (Z 62 23 + 14 - Z 20 2 + i') % 14 := by
          by_cases c14 : Z 20 2 = 14
          · rw [if_pos c14] at hi' ⊢
            omega
          · rw [if_neg c14] at hi' ⊢
            omega
        rw [e1]
        have hk : (Z 62 23 + 14 - Z 20 2 + i') % 14 ≠ Z 62 23 := by
          by_cases c14 : Z 20 2 = 14
          · rw [if_pos c14] at hi'
            omega
          · rw [if_neg c14] at hi'
            omega
        unfold rRow
        rw [f 1 (by decide)]
        exact rlM_congr (fun j hj => by rw [b6, if_neg (by omega)])
  refine ⟨relT_eq (lo 1 (by omega)) (lo 2 (by omega)) (f 17 (by omega)) (lo 73 (by omega)) hT, relP_eq (vP_eq (fun a ha => lo a (by omega))) (vQ_eq2 (f 0 (by omega)) (f 1 (by omega)) (f 2 (by omega)) (fun a ha => lo a (by omega))) hP, ?_, rA, relK_eq (fun a ha => lo a (by omega)) (f 1 (by omega)) (show d ≤ d + 1 by omega) hK, relW_eq (fun a ha => lo a (by omega)) (f 25 (by omega)) hW, ⟨hM.1, (f 20 (by omega)).trans hM.2.1, okVr_eq (lo 70 (by omega)) (lo 71 (by omega)) (lo 72 (by omega)) hM.2.2.1, hB⟩⟩
  unfold relS
  rw [eP, eS, b1]
  exact ⟨⟨a2, hz, hd⟩, rfl⟩
theorem rl_undo {d x1 x2 : Int} {Z Z1 Z2 : aZ} {Y Y1 Y2 : aY} (h : Rel d Z Y)
    (g1 : x1 = (if 0 < Z 20 2 then Z 20 2 - 1 else -3) ∧ Z1 20 2 = (if 0 < Z 20 2 then Z 20 2 - 1 else Z 20 2) ∧ Z1 20 1 = Z 20 1 ∧ vS Z1 12 = (if 0 < Z 20 2 then vRow Z (aRw Z (Z 20 2 - 1)) else vS Z 12) ∧ (∀ a : Nat, a ≠ 20 → ¬ (12 ≤ a ∧ a ≤ 15) → Z1 a = Z a) ∧ aB Z1 ∧ Y1 = Y)
    (g2 : x2 = (if 0 < Z1 62 22 then Z1 62 22 - 1 else -3) ∧ (if 0 < Z1 62 22 then Z2 62 22 = Z1 62 22 - 1 ∧ Z2 62 23 = ((Z1 62 23 + 13) % 14) ∧ (∀ j : Int, j ≠ 22 → j ≠ 23 → Z2 62 j = Z1 62 j) ∧ (∀ j : Int, Z2 69 j = if 0 ≤ j ∧ j < 16 then Z1 75 (16 * ((Z1 62 23 + 13) % 14) + j) else Z1 69 j) ∧ (∀ a : Nat, a ≠ 62 → a ≠ 69 → Z2 a = Z1 a) else Z2 = Z1) ∧ aB Z2 ∧ Y2 = Y1) : x2 = x1 ∧ Rel d Z2 Y2 := by
  obtain ⟨e1, a2, a3, a4, a5, -, rfl⟩ := g1
  obtain ⟨e2, z2, hB, rfl⟩ := g2
  obtain ⟨hT, hP, hS, ⟨⟨⟨o1, o2⟩, o3, o4⟩, ⟨⟨n1, n2⟩, n3, n4⟩, hn, hr⟩, hK, hW, hM⟩ := h
  have c62 : Z1 62 = Z 62 := a5 62 (by decide) (by decide)
  rw [c62, hn] at e2 z2
  refine ⟨by rw [e2, e1], ?_⟩
  have ar : ∀ i : Int, aRw Z1 i = aRw Z i := fun i => by unfold aRw; rw [a3]
  by_cases c : 0 < Z 20 2
  · rw [if_pos c] at z2 a2 a4
    obtain ⟨b1, b2, b3, b4, b5⟩ := z2
    have lo : ∀ a : Nat, ¬ (a = 20 ∨ (12 ≤ a ∧ a ≤ 15) ∨ a = 62 ∨ a = 69) → Z2 a = Z a := fun a q => by rw [b5 a (by omega) (by omega), a5 a (by omega) (by omega)]
    have f : ∀ j : Int, ¬ (j = 22 ∨ j = 23) → Z2 62 j = Z 62 j := fun j hj => b3 j (by omega) (by omega)
    have eP : vP Z2 = vP Z := vP_eq (fun a ha => lo a (by omega))
    obtain ⟨r1, r2⟩ := hr (Z 20 2 - 1) (by omega) (by omega)
    have eS : vS Z2 12 = vRow Z (aRw Z (Z 20 2 - 1)) := by
      rw [← a4]
      exact vS_frame (b5 3 (by decide) (by decide)) (b5 12 (by decide) (by decide)) (b5 13 (by decide) (by decide)) (b5 14 (by decide) (by decide)) (b5 15 (by decide) (by decide))
    have eR : vR Z2 0 = vRow Z (aRw Z (Z 20 2 - 1)) := by
      rw [← r2, vR_M]
      unfold rRow
      rw [f 1 (by decide), show (Z 62 23 + 14 - Z 20 2 + (Z 20 2 - 1)) % 14 = (Z 62 23 + 13) % 14 by omega]
      exact rlM_congr (fun j hj => by rw [b4, if_pos (by omega), a5 75 (by decide) (by decide), show 16 * ((Z 62 23 + 13) % 14) + (16 * 0 + j) = 16 * ((Z 62 23 + 13) % 14) + j by omega])
    have h20 : Z2 20 = Z1 20 := b5 20 (by decide) (by decide)
    refine ⟨relT_eq (lo 1 (by omega)) (lo 2 (by omega)) (f 17 (by omega)) (lo 73 (by omega)) hT, relP_eq (vP_eq (fun a ha => lo a (by omega))) (vQ_eq2 (f 0 (by omega)) (f 1 (by omega)) (f 2 (by omega)) (fun a ha => lo a (by omega))) hP, ?_, ⟨?_, ?_, ?_, fun i h5 h6 => ?_⟩, relK_eq (fun a ha => lo a (by omega)) (f 1 (by omega)) (Int.le_refl _) hK, relW_eq (fun a ha => lo a (by omega)) (f 25 (by omega)) hW, ⟨hM.1, (f 20 (by omega)).trans hM.2.1, okVr_eq (lo 70 (by omega)) (lo 71 (by omega)) (lo 72 (by omega)) hM.2.2.1, hB⟩⟩
    · unfold relS
      rw [eP, eS, eR]
      exact ⟨r1, rfl⟩
    · unfold okA
      rw [h20, a2, a3]
      omega
    · unfold okN
      rw [b1, b2]
      omega
    · rw [b1, h20, a2]
    · rw [h20, a2] at h6
      obtain ⟨q1, q2⟩ := hr i h5 (by omega)
      have e9 : aRw Z2 i = aRw Z i := by unfold aRw; rw [h20, a3]
      have hrg := aRw_rng Z i
      rw [eP, e9, vRow_eq (lo 3 (by omega)) (lo _ (by omega)), h20, a2, b2]
      refine ⟨q1, ?_⟩
      rw [← q2, show ((Z 62 23 + 13) % 14 + 14 - (Z 20 2 - 1) + i) % 14 = (Z 62 23 + 14 - Z 20 2 + i) % 14 by omega]
      unfold rRow
      rw [f 1 (by decide), lo 75 (by omega)]
  · rw [if_neg c] at z2 a2 a4
    subst z2
    have lo : ∀ a : Nat, ¬ (a = 20 ∨ (12 ≤ a ∧ a ≤ 15)) → Z2 a = Z a := fun a q => a5 a (by omega) (by omega)
    have f : ∀ j : Int, j = j → Z2 62 j = Z 62 j := fun j _ => by rw [c62]
    have eP : vP Z2 = vP Z := vP_eq (fun a ha => lo a (by omega))
    refine ⟨relT_eq (lo 1 (by omega)) (lo 2 (by omega)) (f 17 (by omega)) (lo 73 (by omega)) hT, relP_eq (vP_eq (fun a ha => lo a (by omega))) (vQ_eq2 (f 0 (by omega)) (f 1 (by omega)) (f 2 (by omega)) (fun a ha => lo a (by omega))) hP, ?_, ⟨?_, ?_, ?_, fun i h5 h6 => ?_⟩, relK_eq (fun a ha => lo a (by omega)) (f 1 (by omega)) (Int.le_refl _) hK, relW_eq (fun a ha => lo a (by omega)) (f 25 (by omega)) hW, ⟨hM.1, (f 20 (by omega)).trans hM.2.1, okVr_eq (lo 70 (by omega)) (lo 71 (by omega)) (lo 72 (by omega)) hM.2.2.1, hB⟩⟩
    · exact relS_eq eP a4 (vR_eq 0 (f 1 rfl) (lo 69 (by omega))) (Int.le_refl _) hS
    · unfold okA
      rw [a2, a3]
      omega
    · unfold okN
      rw [f 22 rfl, f 23 rfl]
      omega
    · rw [f 22 rfl, a2, hn]
    · rw [a2] at h6
      omega

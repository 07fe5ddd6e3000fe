set_option maxHeartbeats 4000000 in
set_option maxRecDepth 100000 in
theorem lk_loop {X : aX} {G : aG} {b L : Nat} {xs : Nat → Int32} {rt : Option FieldType} (hX : aOK X G RL cL_law 4 rt 10 358) (hSc : lSc X b L xs) (hL : L ≤ 3072) (hend : ∀ (i : Int) (Z : aZ) (Y : aY), AW X G 979 [some (.ref b), some (.ref (G.1 0)), some (.ref (G.1 62)), some (.int (aI i))] [] Z Y) : ∀ (n : Nat) (i : Int) (Z : aZ) (Y : aY), (0 ≤ i ∧ i ≤ 3072) → Rel i Z Y → (3080 - i).toNat < n → AW X G 18 [some (.ref b), some (.ref (G.1 0)), some (.ref (G.1 62)), some (.int (aI i))] [] Z Y := by
  intro n
  induction n with
  | zero => intro i Z Y hi hR hn; omega
  | succ n ih =>
    intro i Z Y hi hR hn
    refine a_iload_n hX rfl rfl dL_law_18 (pc' := 19) rfl ?_
    refine a_aload_n hX rfl rfl dL_law_19 (pc' := 20) rfl ?_
    refine l_len hX hSc dL_law_20 (pc' := 21) rfl ?_
    refine a_bipush hX rfl dL_law_21 (pc' := 23) rfl ?_
    refine a_isub hX dL_law_23 (pc' := 24) rfl ?_
    refine a_icmp_gt hX (by omega) (by omega) dL_law_24 (pc' := 27) rfl (tgt := 979) (by decide) (fun _ => hend i Z Y) (fun c24 => ?_)
    refine a_aload_n hX rfl rfl dL_law_27 (pc' := 28) rfl ?_
    refine a_iload_n hX rfl rfl dL_law_28 (pc' := 29) rfl ?_
    refine l_ald hX hSc (by omega) hL dL_law_29 (pc' := 30) rfl ?_
    refine a_bipush hX rfl dL_law_30 (pc' := 32) rfl ?_
    refine l_iand hX dL_law_32 (pc' := 33) rfl ?_
    have hK : ∀ (Z' : aZ) (Y' : aY), Rel (i + 1) Z' Y' → AW X G 973 [some (.ref b), some (.ref (G.1 0)), some (.ref (G.1 62)), some (.int (aI i))] [] Z' Y' := fun Z' Y' h => by
      refine a_iinc3 hX (by decide) rfl dL_law_973 (pc' := 976) rfl ?_
      refine a_goto hX dL_law_976 (tgt := 18) (by decide) ?_
      exact ih (i + 6) Z' Y' (by omega) (h.mono (by omega)) (by omega)
    obtain ⟨z, hz⟩ : ∃ z : Int, z = (aI (lS xs i) &&& aI 31).toInt := ⟨_, rfl⟩
    have hzr := aI_rng (aI (lS xs i) &&& aI 31)
    rw [← hz] at hzr ⊢
    have hsw : z = 0 ∨ z = 1 ∨ z = 2 ∨ z = 3 ∨ z = 4 ∨ z = 5 ∨ z = 6 ∨ z = 7 ∨ z = 8 ∨ z = 9 ∨ z = 10 ∨ z = 11 ∨ z = 12 ∨ z = 13 ∨ z = 14 ∨ z = 15 ∨ z = 16 ∨ z = 17 ∨ z = 18 ∨ z = 19 ∨ z = 20 ∨ z = 21 ∨ z = 22 ∨ z = 23 ∨ z = 24 ∨ z = 25 ∨ z = 26 ∨ z = 27 ∨ (z < 0 ∨ 27 < z) := by omega
    rcases hsw with ez | ez | ez | ez | ez | ez | ez | ez | ez | ez | ez | ez | ez | ez | ez | ez | ez | ez | ez | ez | ez | ez | ez | ez | ez | ez | ez | ez | ez
    · refine a_tsIn hX dL_law_33 (by omega) (by omega) (by omega) (off := 127) (by rw [ez]; rfl) (tgt := 160) (by decide) ?_
      exact lk_0 hX hSc hL (by omega) hR hK
    · refine a_tsIn hX dL_law_33 (by omega) (by omega) (by omega) (off := 150) (by rw [ez]; rfl) (tgt := 183) (by decide) ?_
      exact lk_1 hX hSc hL (by omega) hR hK
    · refine a_tsIn hX dL_law_33 (by omega) (by omega) (by omega) (off := 163) (by rw [ez]; rfl) (tgt := 196) (by decide) ?_
      exact lk_2 hX hSc hL (by omega) hR hK
    · refine a_tsIn hX dL_law_33 (by omega) (by omega) (by omega) (off := 176) (by rw [ez]; rfl) (tgt := 209) (by decide) ?_
      exact lk_3 hX hSc hL (by omega) hR hK
    · refine a_tsIn hX dL_law_33 (by omega) (by omega) (by omega) (off := 189) (by rw [ez]; rfl) (tgt := 222) (by decide) ?_
      exact lk_4 hX hSc hL (by omega) hR hK
    · refine a_tsIn hX dL_law_33 (by omega) (by omega) (by omega) (off := 222) (by rw [ez]; rfl) (tgt := 255) (by decide) ?_
      exact lk_5 hX hSc hL (by omega) hR hK
    · refine a_tsIn hX dL_law_33 (by omega) (by omega) (by omega) (off := 255) (by rw [ez]; rfl) (tgt := 288) (by decide) ?_
      exact lk_6 hX hSc hL (by omega) hR hK
    · refine a_tsIn hX dL_law_33 (by omega) (by omega) (by omega) (off := 268) (by rw [ez]; rfl) (tgt := 301) (by decide) ?_
      exact lk_7 hX hSc hL (by omega) hR hK
    · refine a_tsIn hX dL_law_33 (by omega) (by omega) (by omega) (off := 301) (by rw [ez]; rfl) (tgt := 334) (by decide) ?_
      exact lk_8 hX hSc hL (by omega) hR hK
    · refine a_tsIn hX dL_law_33 (by omega) (by omega) (by omega) (off := 350) (by rw [ez]; rfl) (tgt := 383) (by decide) ?_
      exact lk_9 hX hSc hL (by omega) hR hK
    · refine a_tsIn hX dL_law_33 (by omega) (by omega) (by omega) (off := 373) (by rw [ez]; rfl) (tgt := 406) (by decide) ?_
      exact lk_10 hX hSc hL (by omega) hR hK
    · refine a_tsIn hX dL_law_33 (by omega) (by omega) (by omega) (off := 386) (by rw [ez]; rfl) (tgt := 419) (by decide) ?_
      exact lk_11 hX hSc hL (by omega) hR hK
    · refine a_tsIn hX dL_law_33 (by omega) (by omega) (by omega) (off := 419) (by rw [ez]; rfl) (tgt := 452) (by decide) ?_
      exact lk_12 hX hSc hL (by omega) hR hK
    · refine a_tsIn hX dL_law_33 (by omega) (by omega) (by omega) (off := 442) (by rw [ez]; rfl) (tgt := 475) (by decide) ?_
      exact lk_13 hX hSc hL (by omega) hR hK
    · refine a_tsIn hX dL_law_33 (by omega) (by omega) (by omega) (off := 455) (by rw [ez]; rfl) (tgt := 488) (by decide) ?_
      exact lk_14 hX hSc hL (by omega) hR hK
    · refine a_tsIn hX dL_law_33 (by omega) (by omega) (by omega) (off := 478) (by rw [ez]; rfl) (tgt := 511) (by decide) ?_
      exact lk_15 hX hSc hL (by omega) hR hK
    · refine a_tsIn hX dL_law_33 (by omega) (by omega) (by omega) (off := 491) (by rw [ez]; rfl) (tgt := 524) (by decide) ?_
      exact lk_16 hX hSc hL (by omega) hR hK
    · refine a_tsIn hX dL_law_33 (by omega) (by omega) (by omega) (off := 554) (by rw [ez]; rfl) (tgt := 587) (by decide) ?_
      exact lk_17 hX hSc hL (by omega) hR hK
    · refine a_tsIn hX dL_law_33 (by omega) (by omega) (by omega) (off := 587) (by rw [ez]; rfl) (tgt := 620) (by decide) ?_
      exact lk_18 hX hSc hL (by omega) hR hK
    · refine a_tsIn hX dL_law_33 (by omega) (by omega) (by omega) (off := 600) (by rw [ez]; rfl) (tgt := 633) (by decide) ?_
      exact lk_19 hX hSc hL (by omega) hR hK
    · refine a_tsIn hX dL_law_33 (by omega) (by omega) (by omega) (off := 623) (by rw [ez]; rfl) (tgt := 656) (by decide) ?_
      exact lk_20 hX hSc hL (by omega) hR hK
    · refine a_tsIn hX dL_law_33 (by omega) (by omega) (by omega) (off := 672) (by rw [ez]; rfl) (tgt := 705) (by decide) ?_
      exact lk_21 hX hSc hL (by omega) hR hK
    · refine a_tsIn hX dL_law_33 (by omega) (by omega) (by omega) (off := 715) (by rw [ez]; rfl) (tgt := 748) (by decide) ?_
      exact lk_22 hX hSc hL (by omega) hR hK
    · refine a_tsIn hX dL_law_33 (by omega) (by omega) (by omega) (off := 794) (by rw [ez]; rfl) (tgt := 827) (by decide) ?_
      exact lk_23 hX hSc hL (by omega) hR hK
    · refine a_tsIn hX dL_law_33 (by omega) (by omega) (by omega) (off := 848) (by rw [ez]; rfl) (tgt := 881) (by decide) ?_
      exact lk_24 hX hSc hL (by omega) hR hK
    · refine a_tsIn hX dL_law_33 (by omega) (by omega) (by omega) (off := 871) (by rw [ez]; rfl) (tgt := 904) (by decide) ?_
      exact lk_25 hX hSc hL (by omega) hR hK
    · refine a_tsIn hX dL_law_33 (by omega) (by omega) (by omega) (off := 894) (by rw [ez]; rfl) (tgt := 927) (by decide) ?_
      exact lk_26 hX hSc hL (by omega) hR hK
    · refine a_tsIn hX dL_law_33 (by omega) (by omega) (by omega) (off := 917) (by rw [ez]; rfl) (tgt := 950) (by decide) ?_
      exact lk_27 hX hSc hL (by omega) hR hK
    · refine a_tsOut hX dL_law_33 (by omega) ez (tgt := 973) (by decide) ?_
      exact hK Z Y (hR.mono (by omega))

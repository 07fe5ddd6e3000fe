theorem qRun_fig {t : Int → Int} {n i : Int} {Q : aP} (hi : 1 ≤ i) : ∀ d : Nat, (∀ j : Int, i < j → j ≤ i + d → 48 ≤ t j ∧ t j ≤ 57) → qRun t n Q (i + d).toNat = qStep t n i (qRun t n Q (i - 1).toNat)
  | 0, _ => by
    rw [show (i + ((0 : Nat) : Int)) = i by omega]
    exact qRun_s hi
  | d + 1, h => by
    have e := qRun_fig (t := t) (n := n) (Q := Q) hi d (fun j h1 h2 => h j h1 (by omega))
    have hj := h (i + (d + 1 : Nat)) (by omega) (by omega)
    rw [qRun_s (i := i + (d + 1 : Nat)) (by omega), show i + ((d + 1 : Nat) : Int) - 1 = i + d by omega, e]
    unfold qStep
    rw [if_neg (show ¬ t (i + ((d + 1 : Nat) : Int)) = 87 by omega), if_neg (show ¬ t (i + ((d + 1 : Nat) : Int)) = 67 by omega), if_neg (show ¬ t (i + ((d + 1 : Nat) : Int)) = 83 by omega)]
def tQ0 (Q : aP) : aP := aU (aU (aU Q 0 0 0) 0 1 0) 0 2 0
/-- the reader has come to a part's beginning, or to the fault -/
def rdI (Z Z3 : aZ) : Prop := (0 ≤ Z3 62 18 ∧ Z3 62 18 ≤ 100) ∧ ((Z3 62 19 = -9 ∧ 1 ≤ Z3 62 18 ∧ Z3 62 18 ≤ Z 62 17 ∧ tFault (Z 73) (Z 62 17) = kF (Z 73) (Z 62 17) (Z 62 17 - Z3 62 18).toNat (Z3 62 18) 0 0 (Z3 62 13) (Z3 62 14) (Z3 62 15) ∧ vT Z3 = qRun (Z 73) (Z 62 17) (tQ0 (vT Z)) (Z3 62 18 - 1).toNat) ∨ (0 ≤ Z3 62 19 ∧ Z3 62 19 = tFault (Z 73) (Z 62 17)))
theorem rdI.step {Z Z3 Z4 : aZ} (h : rdI Z Z3) (h9 : Z3 62 19 = -9) (hF : rdFr Z Z3) (g : rdPost Z3 Z4) : rdI Z Z4 ∧ (Z4 62 19 = -9 → Z3 62 18 < Z4 62 18) := by
  obtain ⟨k, v, -, -, hF2, hi⟩ := g
  obtain ⟨-, ⟨-, h1, h2, h3, h4⟩ | ⟨h1, -⟩⟩ := h
  · have e17 : Z3 62 17 = Z 62 17 := hF.2 17 (by decide) (by decide) (by decide)
    have e73 : Z3 73 = Z 73 := hF.1 73 (by decide) (by decide) (by decide) (by decide)
    unfold rdK at k
    rw [e17, e73] at k
    rw [e17, e73, h4] at v
    rcases k with ⟨k1, k2, k3, k4, k5⟩ | ⟨k1, k2⟩
    · refine ⟨⟨hi, Or.inl ⟨k1, by omega, k3, by rw [h3]; exact k5, ?_⟩⟩, fun _ => k2⟩
      rw [v k1]
      have e := qRun_fig (t := Z 73) (n := Z 62 17) (Q := tQ0 (vT Z)) h1 (Z4 62 18 - 1 - Z3 62 18).toNat (fun j j1 j2 => k4 j j1 (by omega))
      rw [show Z3 62 18 + ((Z4 62 18 - 1 - Z3 62 18).toNat : Int) = Z4 62 18 - 1 by omega] at e
      exact e.symm
    · exact ⟨⟨hi, Or.inr ⟨k1, by rw [k2, h3]⟩⟩, fun q => by omega⟩
  · omega
def rdT (Z Z' : aZ) : Prop := (tFault (Z 73) (Z 62 17) = -9 → vT Z' = qRun (Z 73) (Z 62 17) (tQ0 (vT Z)) (Z 62 17 - 1).toNat) ∧ okCm Z' ∧ okVr Z' ∧ rdFr Z Z'
theorem rdI.fin {Z Z3 : aZ} (h : rdI Z Z3) (hC : okCm Z3) (hV : okVr Z3) (hF : rdFr Z Z3) (hx : Z3 62 19 ≠ -9 ∨ Z 62 17 ≤ Z3 62 18) : Z3 62 19 = tFault (Z 73) (Z 62 17) ∧ rdT Z Z3 := by
  obtain ⟨-, ⟨h0, h1, h2, h3, h4⟩ | ⟨h1, h2⟩⟩ := h
  · have e : Z3 62 18 = Z 62 17 := by omega
    rw [e] at h3 h4
    rw [kF_e (Int.le_refl _), if_pos rfl] at h3
    exact ⟨by rw [h0, h3], fun _ => h4, hC, hV, hF⟩
  · exact ⟨h2, fun q => by omega, hC, hV, hF⟩
theorem rdT.no {Z Z' : aZ} (h1 : tFault (Z 73) (Z 62 17) = 0) (hC : okCm Z') (hV : okVr Z') (hF : rdFr Z Z') : rdT Z Z' := ⟨fun q => by omega, hC, hV, hF⟩
def tZ0 (Z : aZ) : aZ := aU (aU (aU (aU (aU Z 62 18 0) 62 19 (-9)) 62 13 0) 62 14 0) 62 15 0
theorem tZ0_f {Z : aZ} : okCm (tZ0 Z) ∧ (∀ a : Nat, a ≠ 62 → tZ0 Z a = Z a) ∧ (∀ j : Int, ¬ (13 ≤ j ∧ j ≤ 15) → j ≠ 18 → j ≠ 19 → tZ0 Z 62 j = Z 62 j) ∧ tZ0 Z 62 19 = -9 := by
  unfold okCm tZ0
  refine ⟨⟨?_, ?_, ?_⟩, fun a ha => by rw [aU_row ha, aU_row ha, aU_row ha, aU_row ha, aU_row ha], fun j h1 h2 h3 => by rw [aU_nj (by omega), aU_nj (by omega), aU_nj (by omega), aU_nj (by omega), aU_nj (by omega)], ?_⟩
  · rw [aU_nj (by decide), aU_nj (by decide), aU_eq]; decide
  · rw [aU_nj (by decide), aU_eq]; decide
  · rw [aU_eq]; decide
  · rw [aU_nj (by decide), aU_nj (by decide), aU_nj (by decide), aU_eq]
theorem tZ0_Fr {Z : aZ} : rdFr Z (tZ0 Z) := ⟨fun a h _ _ _ => tZ0_f.2.1 a h, tZ0_f.2.2.1⟩
theorem tZ0_V {Z : aZ} (h : okVr Z) : okVr (tZ0 Z) := okVr_eq (tZ0_f.2.1 _ (by decide)) (tZ0_f.2.1 _ (by decide)) (tZ0_f.2.1 _ (by decide)) h
theorem tZ0_T {Z : aZ} : vT (aU (tZ0 Z) 62 18 1) = tQ0 (vT Z) := by
  funext r j
  match r with
  | 0 =>
    show (if j = 0 then aU (tZ0 Z) 62 18 1 62 13 else if j = 1 then aU (tZ0 Z) 62 18 1 62 14 else if j = 2 then aU (tZ0 Z) 62 18 1 62 15 else 0) = (if j = 2 then 0 else if j = 1 then 0 else if j = 0 then 0 else (if j = 0 then Z 62 13 else if j = 1 then Z 62 14 else if j = 2 then Z 62 15 else 0))
    rw [aU_nj (by decide), aU_nj (by decide), aU_nj (by decide)]
    unfold tZ0
    rw [aU_nj (by decide), aU_nj (by decide), aU_eq, aU_nj (by decide), aU_eq, aU_eq]
    (repeat' split) <;> first | rfl | (exfalso; omega)
  | 1 => rfl
  | 2 => rfl
  | 3 => rfl
  | 4 => rfl
  | 5 => rfl
  | 6 => rfl
  | 7 => rfl
  | 8 => rfl
  | n + 9 => rfl
theorem tZ0_I {Z : aZ} (h1 : 1 ≤ Z 62 17) (h2 : Z 73 0 = 80) : rdI Z (aU (tZ0 Z) 62 18 1) := by
  refine ⟨by rw [aU_eq]; decide, Or.inl ⟨?_, ?_, ?_, ?_, ?_⟩⟩
  · rw [aU_nj (by decide)]; exact tZ0_f.2.2.2
  · rw [aU_eq]; decide
  · rw [aU_eq]; exact h1
  · have e : tFault (Z 73) (Z 62 17) = kF (Z 73) (Z 62 17) (Z 62 17 - 1).toNat 1 0 0 0 0 0 := by
      unfold tFault tL
      rw [if_pos (show (0 : Int) ≤ 0 ∧ 0 < Z 62 17 by omega), if_pos h2]
    rw [e, aU_eq, aU_nj (by decide), aU_nj (by decide), aU_nj (by decide)]
    unfold tZ0
    rw [aU_nj (show (13 : Int) ≠ 15 by decide), aU_nj (show (13 : Int) ≠ 14 by decide), aU_eq, aU_nj (show (14 : Int) ≠ 15 by decide), aU_eq, aU_eq]
  · rw [tZ0_T, aU_eq]
    rfl
theorem tFault_0 {t : Int → Int} {n : Int} (h : n = 0 ∨ t 0 ≠ 80) : tFault t n = 0 := by
  unfold tFault tL
  rw [if_neg]
  rcases h with h | h
  · rw [if_neg (by omega)]; decide
  · split
    · exact h
    · decide

set_option maxHeartbeats 4000000 in
set_option maxRecDepth 100000 in
theorem q_readText {G : aG} {Z : aZ} {Y : aY} (ht : ∀ j : Int, 0 ≤ Z 73 j ∧ Z 73 j ≤ 255) (hV : okVr Z) (hn : 0 ≤ Z 62 17 ∧ Z 62 17 ≤ 52) (hB : aB Z) : aSI G yX10_readText cX10_readText 1 (some .int) 3 70 [.ref (G.1 62)] Z Y (fun x Z' Y' => x = tFault (Z 73) (Z 62 17) ∧ rdT Z Z' ∧ aB Z' ∧ Y' = Y) := by
  refine aS.of (own := RX10) (by decide +kernel) rfl 0 (Nat.le_of_ble_eq_true rfl) (fun X hX hE => ?_)
  show AW X G 0 [some (.ref (G.1 62))] [] Z Y
  refine a_aload_n hX rfl rfl dX10_readText_0 (pc' := 1) rfl ?_
  refine a_iconst hX dX10_readText_1 (pc' := 2) rfl ?_
  refine a_putfIB hX fl_X10_78 nf_9_18 (ji := 18) rfl rfl (by decide) rfl hB (by omega) dX10_readText_2 (pc' := 5) rfl (fun hB => ?_)
  refine a_aload_n hX rfl rfl dX10_readText_5 (pc' := 6) rfl ?_
  refine a_bipush hX rfl dX10_readText_6 (pc' := 8) rfl ?_
  refine a_putfIB hX fl_X10_75 nf_9_19 (ji := 19) rfl rfl (by decide) rfl hB (by omega) dX10_readText_8 (pc' := 11) rfl (fun hB => ?_)
  refine a_aload_n hX rfl rfl dX10_readText_11 (pc' := 12) rfl ?_
  refine a_iconst hX dX10_readText_12 (pc' := 13) rfl ?_
  refine a_putfIB hX fl_X10_81 nf_9_13 (ji := 13) rfl rfl (by decide) rfl hB (by omega) dX10_readText_13 (pc' := 16) rfl (fun hB => ?_)
  refine a_aload_n hX rfl rfl dX10_readText_16 (pc' := 17) rfl ?_
  refine a_iconst hX dX10_readText_17 (pc' := 18) rfl ?_
  refine a_putfIB hX fl_X10_84 nf_9_14 (ji := 14) rfl rfl (by decide) rfl hB (by omega) dX10_readText_18 (pc' := 21) rfl (fun hB => ?_)
  refine a_aload_n hX rfl rfl dX10_readText_21 (pc' := 22) rfl ?_
  refine a_iconst hX dX10_readText_22 (pc' := 23) rfl ?_
  refine a_putfIB hX fl_X10_87 nf_9_15 (ji := 15) rfl rfl (by decide) rfl hB (by omega) dX10_readText_23 (pc' := 26) rfl (fun hB => ?_)
  change AW X G 26 _ _ (tZ0 Z) Y
  have hB : aB (tZ0 Z) := hB
  obtain ⟨z1, z2, z3, z4⟩ := tZ0_f (Z := Z)
  refine a_aload_n hX rfl rfl dX10_readText_26 (pc' := 27) rfl ?_
  refine a_getfI hX (ji := 17) rfl hB fl_X10_72 rfl (by decide) rfl dX10_readText_27 (pc' := 30) rfl (fun hb => ?_)
  rw [show tZ0 Z 62 17 = Z 62 17 from z3 17 (by decide) (by decide) (by decide)]
  refine a_if_eq hX (by omega) dX10_readText_30 (pc' := 33) rfl (tgt := 44) (by decide) (fun c30 => ?_) (fun c30 => ?_)
  · refine a_iconst hX dX10_readText_44 (pc' := 45) rfl ?_
    refine a_iret hX dX10_readText_45 (hE _ _ _ ?_)
    exact ⟨_, rfl, (tFault_0 (by omega)).symm, rdT.no (tFault_0 (by omega)) z1 (tZ0_V hV) tZ0_Fr, hB, rfl⟩
  · refine a_aload_n hX rfl rfl dX10_readText_33 (pc' := 34) rfl ?_
    refine a_getfR hX (r := 73) fl_X10_40 rfl (by decide) rfl dX10_readText_34 (pc' := 37) rfl ?_
    refine a_iconst hX dX10_readText_37 (pc' := 38) rfl ?_
    refine a_iald hX rfl (by decide) (by decide) (by omega) hB dX10_readText_38 (pc' := 39) rfl (fun hb => ?_)
    rw [show tZ0 Z 73 0 = Z 73 0 by rw [z2 73 (by decide)]]
    have ht0 := ht 0
    refine a_bipush hX rfl dX10_readText_39 (pc' := 41) rfl ?_
    refine a_icmp_eq hX (by omega) (by omega) dX10_readText_41 (pc' := 44) rfl (tgt := 46) (by decide) (fun c41 => ?_) (fun c41 => ?_)
    · have tZ1C : okCm (aU (tZ0 Z) 62 18 1) := by
        unfold okCm
        rw [aU_nj (by decide), aU_nj (by decide), aU_nj (by decide)]
        exact z1
      have tZ1V : okVr (aU (tZ0 Z) 62 18 1) := okVr_eq (aU_row (by decide)) (aU_row (by decide)) (aU_row (by decide)) (tZ0_V hV)
      have tZ1F : rdFr Z (aU (tZ0 Z) 62 18 1) := tZ0_Fr.tr ⟨fun a h _ _ _ => aU_row h, fun j _ h _ => aU_nj h⟩
      refine a_aload_n hX rfl rfl dX10_readText_46 (pc' := 47) rfl ?_
      refine a_iconst hX dX10_readText_47 (pc' := 48) rfl ?_
      refine a_putfIB hX fl_X10_78 nf_9_18 (ji := 18) rfl rfl (by decide) rfl hB (by omega) dX10_readText_48 (pc' := 51) rfl (fun hB => ?_)
      have L51 : ∀ (n : Nat) (Z3 : aZ), aB Z3 → okCm Z3 → okVr Z3 → rdFr Z Z3 → rdI Z Z3 → (0 < n ∧ (Z3 62 19 = -9 → (100 - Z3 62 18).toNat + 1 < n)) → AW X G 51 [some (.ref (G.1 62))] [] Z3 Y := by
        intro n
        induction n with
        | zero =>
          intro Z3 hB hC hV hF hI hn2
          omega
        | succ n ih =>
          intro Z3 hB hC hV hF hI hn2
          have e17 : Z3 62 17 = Z 62 17 := hF.2 17 (by decide) (by decide) (by decide)
          have e73 : Z3 73 = Z 73 := hF.1 73 (by decide) (by decide) (by decide) (by decide)
          have hi3 := hI.1
          have ht3 := ht (Z3 62 18)
          refine a_aload_n hX rfl rfl dX10_readText_51 (pc' := 52) rfl ?_
          refine a_getfI hX (ji := 19) rfl hB fl_X10_75 rfl (by decide) rfl dX10_readText_52 (pc' := 55) rfl (fun hb => ?_)
          refine a_bipush hX rfl dX10_readText_55 (pc' := 57) rfl ?_
          refine a_icmp_ne hX (by omega) (by omega) dX10_readText_57 (pc' := 60) rfl (tgt := 87) (by decide) (fun c57 => ?_) (fun c57 => ?_)
          · refine a_aload_n hX rfl rfl dX10_readText_87 (pc' := 88) rfl ?_
            refine a_getfI hX (ji := 19) rfl hB fl_X10_75 rfl (by decide) rfl dX10_readText_88 (pc' := 91) rfl (fun hb => ?_)
            refine a_iret hX dX10_readText_91 (hE _ _ _ ?_)
            have hf := hI.fin hC hV hF (by omega)
            exact ⟨_, rfl, hf.1, hf.2, hB, rfl⟩
          · refine a_aload_n hX rfl rfl dX10_readText_60 (pc' := 61) rfl ?_
            refine a_getfI hX (ji := 18) rfl hB fl_X10_78 rfl (by decide) rfl dX10_readText_61 (pc' := 64) rfl (fun hb => ?_)
            refine a_aload_n hX rfl rfl dX10_readText_64 (pc' := 65) rfl ?_
            refine a_getfI hX (ji := 17) rfl hB fl_X10_72 rfl (by decide) rfl dX10_readText_65 (pc' := 68) rfl (fun hb => ?_)
            rw [e17]
            refine a_icmp_ge hX (by omega) (by omega) dX10_readText_68 (pc' := 71) rfl (tgt := 87) (by decide) (fun c68 => ?_) (fun c68 => ?_)
            · refine a_aload_n hX rfl rfl dX10_readText_87 (pc' := 88) rfl ?_
              refine a_getfI hX (ji := 19) rfl hB fl_X10_75 rfl (by decide) rfl dX10_readText_88 (pc' := 91) rfl (fun hb => ?_)
              refine a_iret hX dX10_readText_91 (hE _ _ _ ?_)
              have hf := hI.fin hC hV hF (by omega)
              exact ⟨_, rfl, hf.1, hf.2, hB, rfl⟩
            · refine a_aload_n hX rfl rfl dX10_readText_71 (pc' := 72) rfl ?_
              refine a_aload_n hX rfl rfl dX10_readText_72 (pc' := 73) rfl ?_
              refine a_getfR hX (r := 73) fl_X10_40 rfl (by decide) rfl dX10_readText_73 (pc' := 76) rfl ?_
              refine a_aload_n hX rfl rfl dX10_readText_76 (pc' := 77) rfl ?_
              refine a_getfI hX (ji := 18) rfl hB fl_X10_78 rfl (by decide) rfl dX10_readText_77 (pc' := 80) rfl (fun hb => ?_)
              refine a_iald hX rfl (by decide) (by decide) (by omega) hB dX10_readText_80 (pc' := 81) rfl (fun hb => ?_)
              try rw [e73]
              refine a_cV1V hX cv_X10_90 (q_readPart (l := Z 73 (Z3 62 18)) ht3 (by rw [e73]) hC hV (by rw [e17]; omega) (by rw [e17]; omega) (by omega) hB) rfl (by decide) ⟨by decide, by decide⟩ (Nat.le_of_ble_eq_true rfl) dX10_readText_81 (pc' := 84) rfl (fun Z81 Y81 h81 => ?_)
              obtain ⟨hp, hB, rfl⟩ := id h81
              refine a_goto hX dX10_readText_84 (tgt := 51) (by decide) ?_
              have hs := hI.step (by omega) hF h81.1
              exact ih Z81 h81.2.1 h81.1.2.2.1 h81.1.2.2.2.1 (hF.tr h81.1.2.2.2.2.1) hs.1 (by have := hs.2; have := hs.1.1; omega)
      exact L51 102 (aU (tZ0 Z) 62 18 1) hB tZ1C tZ1V tZ1F (tZ0_I (by omega) (by omega)) (by rw [aU_eq]; omega)
    · refine a_iconst hX dX10_readText_44 (pc' := 45) rfl ?_
      refine a_iret hX dX10_readText_45 (hE _ _ _ ?_)
      exact ⟨_, rfl, (tFault_0 (by omega)).symm, rdT.no (tFault_0 (by omega)) z1 (tZ0_V hV) tZ0_Fr, hB, rfl⟩

set_option maxHeartbeats 4000000 in
set_option maxRecDepth 100000 in
theorem q_fault {G : aG} {Z : aZ} {Y : aY} (ht : ∀ j : Int, 0 ≤ Z 73 j ∧ Z 73 j ≤ 255) (hV : okVr Z) (hn : 0 ≤ Z 62 17 ∧ Z 62 17 ≤ 52) (hB : aB Z) : aSI G yX10_fault cX10_fault 1 (some .int) 4 90 [.ref (G.1 62)] Z Y (fun x Z' Y' => x = tFault (Z 73) (Z 62 17) ∧ rdT Z Z' ∧ aB Z' ∧ Y' = Y) := by
  refine aS.of (own := RX10) (by decide +kernel) rfl 0 (Nat.le_of_ble_eq_true rfl) (fun X hX hE => ?_)
  show AW X G 0 [some (.ref (G.1 62))] [] Z Y
  refine a_aload_n hX rfl rfl dX10_fault_0 (pc' := 1) rfl ?_
  refine a_cV0I hX cv_X10_98 (q_readText ht hV hn hB) rfl (by decide) ⟨by decide, by decide⟩ (Nat.le_of_ble_eq_true rfl) dX10_fault_1 (pc' := 4) rfl (fun x1 Z1 Y1 h1 => ?_)
  refine a_iret hX dX10_fault_4 (hE _ _ _ ?_)
  exact ⟨_, rfl, h1⟩

/-! the reference's reader -/
/-- a figure stands next, and lies between a and b -/
def qFg (Z : aZ) (a b : Int) : Prop := Z 62 19 = -9 ∧ Z 62 18 < Z 62 17 ∧ a ≤ Z 73 (Z 62 18) - 48 ∧ Z 73 (Z 62 18) - 48 ≤ b

set_option maxHeartbeats 4000000 in
set_option maxRecDepth 100000 in
theorem q_figureOf {G : aG} {Z : aZ} {Y : aY} {a b : Int} (ha : 0 ≤ a ∧ a ≤ 9) (hb9 : 0 ≤ b ∧ b ≤ 9) (hB : aB Z) (hL : Z 62 17 ≤ 52) (hA : 0 ≤ Z 62 18 ∧ Z 62 18 ≤ 100) : aSI G yX10_figureOf cX10_figureOf 5 (some .int) 1 25 [.ref (G.1 62), .int (aI a), .int (aI b)] Z Y (fun x Z' Y' => ((qFg Z a b ∧ x = Z 73 (Z 62 18) - 48 ∧ Z' = aU Z 62 18 (Z 62 18 + 1)) ∨ (¬ qFg Z a b ∧ x = 0 ∧ Z' = aU Z 62 19 (if Z 62 19 = -9 then Z 62 18 else Z 62 19))) ∧ aB Z' ∧ Y' = Y) := by
  refine aS.of (own := RX10) (by decide +kernel) rfl 2 (Nat.le_of_ble_eq_true rfl) (fun X hX hE => ?_)
  show AW X G 0 [some (.ref (G.1 62)), some (.int (aI a)), some (.int (aI b)), none, none] [] Z Y
  have J26 : ∀ (g : Bool), g = decide (Z 62 19 = -9 ∧ Z 62 18 < Z 62 17) → AW X G 26 [some (.ref (G.1 62)), some (.int (aI a)), some (.int (aI b)), some (.int (aI (aTr g))), none] [] Z Y := by
    intro g hg
    refine a_iload_n hX rfl rfl dX10_figureOf_26 (pc' := 27) rfl ?_
    refine a_ifb_eq hX dX10_figureOf_27 (pc' := 30) rfl (tgt := 45) (by decide) (fun c27 => ?_) (fun c27 => ?_)
    · have hgg := of_decide_eq_false (hg.symm.trans c27)
      refine a_iconst hX dX10_figureOf_45 (pc' := 46) rfl ?_
      refine a_istore4 hX (by decide) rfl dX10_figureOf_46 (pc' := 48) rfl ?_
      refine a_iload_n hX rfl rfl dX10_figureOf_48 (pc' := 49) rfl ?_
      refine a_ifb_eq hX dX10_figureOf_49 (pc' := 52) rfl (tgt := 65) (by decide) (fun c49 => ?_) (fun c49 => ?_)
      · refine a_aload_n hX rfl rfl dX10_figureOf_65 (pc' := 66) rfl ?_
        refine a_aload_n hX rfl rfl dX10_figureOf_66 (pc' := 67) rfl ?_
        refine a_getfI hX (ji := 19) rfl hB fl_X10_75 rfl (by decide) rfl dX10_figureOf_67 (pc' := 70) rfl (fun hb => ?_)
        refine a_bipush hX rfl dX10_figureOf_70 (pc' := 72) rfl ?_
        refine a_icmp_ne hX (by omega) (by omega) dX10_figureOf_72 (pc' := 75) rfl (tgt := 82) (by decide) (fun c72 => ?_) (fun c72 => ?_)
        · refine a_aload_n hX rfl rfl dX10_figureOf_82 (pc' := 83) rfl ?_
          refine a_getfI hX (ji := 19) rfl hB fl_X10_75 rfl (by decide) rfl dX10_figureOf_83 (pc' := 86) rfl (fun hb => ?_)
          refine a_putfIB hX fl_X10_75 nf_9_19 (ji := 19) rfl rfl (by decide) rfl hB (by omega) dX10_figureOf_86 (pc' := 89) rfl (fun hB => ?_)
          refine a_iconst hX dX10_figureOf_89 (pc' := 90) rfl ?_
          refine a_iret hX dX10_figureOf_90 (hE _ _ _ ?_)
          first
            | exact Bool.noConfusion (c27.symm.trans c49)
            | exact Bool.noConfusion (c49.symm.trans c27)
            | exact absurd hgg.1 c72
            | (refine ⟨_, rfl, Or.inr ⟨?_, rfl, ?_⟩, hB, rfl⟩
               · rintro ⟨q1, q2, q3, q4⟩
                 omega
               · first | rw [if_pos (by omega)] | rw [if_neg (by omega)])
        · refine a_aload_n hX rfl rfl dX10_figureOf_75 (pc' := 76) rfl ?_
          refine a_getfI hX (ji := 18) rfl hB fl_X10_78 rfl (by decide) rfl dX10_figureOf_76 (pc' := 79) rfl (fun hb => ?_)
          refine a_goto hX dX10_figureOf_79 (tgt := 86) (by decide) ?_
          refine a_putfIB hX fl_X10_75 nf_9_19 (ji := 19) rfl rfl (by decide) rfl hB (by omega) dX10_figureOf_86 (pc' := 89) rfl (fun hB => ?_)
          refine a_iconst hX dX10_figureOf_89 (pc' := 90) rfl ?_
          refine a_iret hX dX10_figureOf_90 (hE _ _ _ ?_)
          first
            | exact Bool.noConfusion (c27.symm.trans c49)
            | exact Bool.noConfusion (c49.symm.trans c27)
            | exact absurd hgg.1 c72
            | (refine ⟨_, rfl, Or.inr ⟨?_, rfl, ?_⟩, hB, rfl⟩
               · rintro ⟨q1, q2, q3, q4⟩
                 omega
               · first | rw [if_pos (by omega)] | rw [if_neg (by omega)])
      · refine a_iload hX rfl dX10_figureOf_52 (pc' := 54) rfl ?_
        refine a_i2l hX (by omega) dX10_figureOf_54 (pc' := 55) rfl ?_
        refine a_iload_n hX rfl rfl dX10_figureOf_55 (pc' := 56) rfl ?_
        refine a_i2l hX (by omega) dX10_figureOf_56 (pc' := 57) rfl ?_
        refine a_iload_n hX rfl rfl dX10_figureOf_57 (pc' := 58) rfl ?_
        refine a_i2l hX (by omega) dX10_figureOf_58 (pc' := 59) rfl ?_
        refine a_cS3i hX cs_X10_68 (q_in (by omega) (by omega) (by omega)) ⟨by decide, by decide⟩ (Nat.le_of_ble_eq_true rfl) dX10_figureOf_59 (pc' := 62) rfl ?_
        refine a_ifb_ne hX dX10_figureOf_62 (pc' := 65) rfl (tgt := 91) (by decide) (fun c62 => ?_) (fun c62 => ?_)
        · have c62 := of_decide_eq_true c62
          refine a_aload_n hX rfl rfl dX10_figureOf_91 (pc' := 92) rfl ?_
          refine a_dup hX rfl dX10_figureOf_92 (pc' := 93) rfl ?_
          refine a_getfI hX (ji := 18) rfl hB fl_X10_78 rfl (by decide) rfl dX10_figureOf_93 (pc' := 96) rfl (fun hb => ?_)
          refine a_iconst hX dX10_figureOf_96 (pc' := 97) rfl ?_
          refine a_iadd hX dX10_figureOf_97 (pc' := 98) rfl ?_
          refine a_putfIB hX fl_X10_78 nf_9_18 (ji := 18) rfl rfl (by decide) rfl hB (by omega) dX10_figureOf_98 (pc' := 101) rfl (fun hB => ?_)
          refine a_iload hX rfl dX10_figureOf_101 (pc' := 103) rfl ?_
          refine a_iret hX dX10_figureOf_103 (hE _ _ _ ?_)
          first
            | exact Bool.noConfusion (c27.symm.trans c49)
            | exact Bool.noConfusion (c49.symm.trans c27)
            | exact ⟨_, rfl, Or.inl ⟨⟨hgg.1, hgg.2, by omega, by omega⟩, rfl, rfl⟩, hB, rfl⟩
        · have c62 := of_decide_eq_false c62
          refine a_aload_n hX rfl rfl dX10_figureOf_65 (pc' := 66) rfl ?_
          refine a_aload_n hX rfl rfl dX10_figureOf_66 (pc' := 67) rfl ?_
          refine a_getfI hX (ji := 19) rfl hB fl_X10_75 rfl (by decide) rfl dX10_figureOf_67 (pc' := 70) rfl (fun hb => ?_)
          refine a_bipush hX rfl dX10_figureOf_70 (pc' := 72) rfl ?_
          refine a_icmp_ne hX (by omega) (by omega) dX10_figureOf_72 (pc' := 75) rfl (tgt := 82) (by decide) (fun c72 => ?_) (fun c72 => ?_)
          · refine a_aload_n hX rfl rfl dX10_figureOf_82 (pc' := 83) rfl ?_
            refine a_getfI hX (ji := 19) rfl hB fl_X10_75 rfl (by decide) rfl dX10_figureOf_83 (pc' := 86) rfl (fun hb => ?_)
            refine a_putfIB hX fl_X10_75 nf_9_19 (ji := 19) rfl rfl (by decide) rfl hB (by omega) dX10_figureOf_86 (pc' := 89) rfl (fun hB => ?_)
            refine a_iconst hX dX10_figureOf_89 (pc' := 90) rfl ?_
            refine a_iret hX dX10_figureOf_90 (hE _ _ _ ?_)
            first
              | exact Bool.noConfusion (c27.symm.trans c49)
              | exact Bool.noConfusion (c49.symm.trans c27)
              | exact absurd hgg.1 c72
              | (refine ⟨_, rfl, Or.inr ⟨?_, rfl, ?_⟩, hB, rfl⟩
                 · rintro ⟨q1, q2, q3, q4⟩
                   omega
                 · first | rw [if_pos (by omega)] | rw [if_neg (by omega)])
          · refine a_aload_n hX rfl rfl dX10_figureOf_75 (pc' := 76) rfl ?_
            refine a_getfI hX (ji := 18) rfl hB fl_X10_78 rfl (by decide) rfl dX10_figureOf_76 (pc' := 79) rfl (fun hb => ?_)
            refine a_goto hX dX10_figureOf_79 (tgt := 86) (by decide) ?_
            refine a_putfIB hX fl_X10_75 nf_9_19 (ji := 19) rfl rfl (by decide) rfl hB (by omega) dX10_figureOf_86 (pc' := 89) rfl (fun hB => ?_)
            refine a_iconst hX dX10_figureOf_89 (pc' := 90) rfl ?_
            refine a_iret hX dX10_figureOf_90 (hE _ _ _ ?_)
            first
              | exact Bool.noConfusion (c27.symm.trans c49)
              | exact Bool.noConfusion (c49.symm.trans c27)
              | exact absurd hgg.1 c72
              | (refine ⟨_, rfl, Or.inr ⟨?_, rfl, ?_⟩, hB, rfl⟩
                 · rintro ⟨q1, q2, q3, q4⟩
                   omega
                 · first | rw [if_pos (by omega)] | rw [if_neg (by omega)])
    · have hgg := of_decide_eq_true (hg.symm.trans c27)
      refine a_aload_n hX rfl rfl dX10_figureOf_30 (pc' := 31) rfl ?_
      refine a_getfR hX (r := 73) fl_X10_40 rfl (by decide) rfl dX10_figureOf_31 (pc' := 34) rfl ?_
      refine a_aload_n hX rfl rfl dX10_figureOf_34 (pc' := 35) rfl ?_
      refine a_getfI hX (ji := 18) rfl hB fl_X10_78 rfl (by decide) rfl dX10_figureOf_35 (pc' := 38) rfl (fun hb => ?_)
      refine a_iald hX rfl (by decide) (by decide) (by omega) hB dX10_figureOf_38 (pc' := 39) rfl (fun hb => ?_)
      refine a_bipush hX rfl dX10_figureOf_39 (pc' := 41) rfl ?_
      refine a_isub hX dX10_figureOf_41 (pc' := 42) rfl ?_
      refine a_goto hX dX10_figureOf_42 (tgt := 46) (by decide) ?_
      refine a_istore4 hX (by decide) rfl dX10_figureOf_46 (pc' := 48) rfl ?_
      refine a_iload_n hX rfl rfl dX10_figureOf_48 (pc' := 49) rfl ?_
      refine a_ifb_eq hX dX10_figureOf_49 (pc' := 52) rfl (tgt := 65) (by decide) (fun c49 => ?_) (fun c49 => ?_)
      · refine a_aload_n hX rfl rfl dX10_figureOf_65 (pc' := 66) rfl ?_
        refine a_aload_n hX rfl rfl dX10_figureOf_66 (pc' := 67) rfl ?_
        refine a_getfI hX (ji := 19) rfl hB fl_X10_75 rfl (by decide) rfl dX10_figureOf_67 (pc' := 70) rfl (fun hb => ?_)
        refine a_bipush hX rfl dX10_figureOf_70 (pc' := 72) rfl ?_
        refine a_icmp_ne hX (by omega) (by omega) dX10_figureOf_72 (pc' := 75) rfl (tgt := 82) (by decide) (fun c72 => ?_) (fun c72 => ?_)
        · refine a_aload_n hX rfl rfl dX10_figureOf_82 (pc' := 83) rfl ?_
          refine a_getfI hX (ji := 19) rfl hB fl_X10_75 rfl (by decide) rfl dX10_figureOf_83 (pc' := 86) rfl (fun hb => ?_)
          refine a_putfIB hX fl_X10_75 nf_9_19 (ji := 19) rfl rfl (by decide) rfl hB (by omega) dX10_figureOf_86 (pc' := 89) rfl (fun hB => ?_)
          refine a_iconst hX dX10_figureOf_89 (pc' := 90) rfl ?_
          refine a_iret hX dX10_figureOf_90 (hE _ _ _ ?_)
          first
            | exact Bool.noConfusion (c27.symm.trans c49)
            | exact Bool.noConfusion (c49.symm.trans c27)
            | exact absurd hgg.1 c72
            | (refine ⟨_, rfl, Or.inr ⟨?_, rfl, ?_⟩, hB, rfl⟩
               · rintro ⟨q1, q2, q3, q4⟩
                 omega
               · first | rw [if_pos (by omega)] | rw [if_neg (by omega)])
        · refine a_aload_n hX rfl rfl dX10_figureOf_75 (pc' := 76) rfl ?_
          refine a_getfI hX (ji := 18) rfl hB fl_X10_78 rfl (by decide) rfl dX10_figureOf_76 (pc' := 79) rfl (fun hb => ?_)
          refine a_goto hX dX10_figureOf_79 (tgt := 86) (by decide) ?_
          refine a_putfIB hX fl_X10_75 nf_9_19 (ji := 19) rfl rfl (by decide) rfl hB (by omega) dX10_figureOf_86 (pc' := 89) rfl (fun hB => ?_)
          refine a_iconst hX dX10_figureOf_89 (pc' := 90) rfl ?_
          refine a_iret hX dX10_figureOf_90 (hE _ _ _ ?_)
          first
            | exact Bool.noConfusion (c27.symm.trans c49)
            | exact Bool.noConfusion (c49.symm.trans c27)
            | exact absurd hgg.1 c72
            | (refine ⟨_, rfl, Or.inr ⟨?_, rfl, ?_⟩, hB, rfl⟩
               · rintro ⟨q1, q2, q3, q4⟩
                 omega
               · first | rw [if_pos (by omega)] | rw [if_neg (by omega)])
      · refine a_iload hX rfl dX10_figureOf_52 (pc' := 54) rfl ?_
        refine a_i2l hX (by omega) dX10_figureOf_54 (pc' := 55) rfl ?_
        refine a_iload_n hX rfl rfl dX10_figureOf_55 (pc' := 56) rfl ?_
        refine a_i2l hX (by omega) dX10_figureOf_56 (pc' := 57) rfl ?_
        refine a_iload_n hX rfl rfl dX10_figureOf_57 (pc' := 58) rfl ?_
        refine a_i2l hX (by omega) dX10_figureOf_58 (pc' := 59) rfl ?_
        refine a_cS3i hX cs_X10_68 (q_in (by omega) (by omega) (by omega)) ⟨by decide, by decide⟩ (Nat.le_of_ble_eq_true rfl) dX10_figureOf_59 (pc' := 62) rfl ?_
        refine a_ifb_ne hX dX10_figureOf_62 (pc' := 65) rfl (tgt := 91) (by decide) (fun c62 => ?_) (fun c62 => ?_)
        · have c62 := of_decide_eq_true c62
          refine a_aload_n hX rfl rfl dX10_figureOf_91 (pc' := 92) rfl ?_
          refine a_dup hX rfl dX10_figureOf_92 (pc' := 93) rfl ?_
          refine a_getfI hX (ji := 18) rfl hB fl_X10_78 rfl (by decide) rfl dX10_figureOf_93 (pc' := 96) rfl (fun hb => ?_)
          refine a_iconst hX dX10_figureOf_96 (pc' := 97) rfl ?_
          refine a_iadd hX dX10_figureOf_97 (pc' := 98) rfl ?_
          refine a_putfIB hX fl_X10_78 nf_9_18 (ji := 18) rfl rfl (by decide) rfl hB (by omega) dX10_figureOf_98 (pc' := 101) rfl (fun hB => ?_)
          refine a_iload hX rfl dX10_figureOf_101 (pc' := 103) rfl ?_
          refine a_iret hX dX10_figureOf_103 (hE _ _ _ ?_)
          first
            | exact Bool.noConfusion (c27.symm.trans c49)
            | exact Bool.noConfusion (c49.symm.trans c27)
            | exact ⟨_, rfl, Or.inl ⟨⟨hgg.1, hgg.2, by omega, by omega⟩, rfl, rfl⟩, hB, rfl⟩
        · have c62 := of_decide_eq_false c62
          refine a_aload_n hX rfl rfl dX10_figureOf_65 (pc' := 66) rfl ?_
          refine a_aload_n hX rfl rfl dX10_figureOf_66 (pc' := 67) rfl ?_
          refine a_getfI hX (ji := 19) rfl hB fl_X10_75 rfl (by decide) rfl dX10_figureOf_67 (pc' := 70) rfl (fun hb => ?_)
          refine a_bipush hX rfl dX10_figureOf_70 (pc' := 72) rfl ?_
          refine a_icmp_ne hX (by omega) (by omega) dX10_figureOf_72 (pc' := 75) rfl (tgt := 82) (by decide) (fun c72 => ?_) (fun c72 => ?_)
          · refine a_aload_n hX rfl rfl dX10_figureOf_82 (pc' := 83) rfl ?_
            refine a_getfI hX (ji := 19) rfl hB fl_X10_75 rfl (by decide) rfl dX10_figureOf_83 (pc' := 86) rfl (fun hb => ?_)
            refine a_putfIB hX fl_X10_75 nf_9_19 (ji := 19) rfl rfl (by decide) rfl hB (by omega) dX10_figureOf_86 (pc' := 89) rfl (fun hB => ?_)
            refine a_iconst hX dX10_figureOf_89 (pc' := 90) rfl ?_
            refine a_iret hX dX10_figureOf_90 (hE _ _ _ ?_)
            first
              | exact Bool.noConfusion (c27.symm.trans c49)
              | exact Bool.noConfusion (c49.symm.trans c27)
              | exact absurd hgg.1 c72
              | (refine ⟨_, rfl, Or.inr ⟨?_, rfl, ?_⟩, hB, rfl⟩
                 · rintro ⟨q1, q2, q3, q4⟩
                   omega
                 · first | rw [if_pos (by omega)] | rw [if_neg (by omega)])
          · refine a_aload_n hX rfl rfl dX10_figureOf_75 (pc' := 76) rfl ?_
            refine a_getfI hX (ji := 18) rfl hB fl_X10_78 rfl (by decide) rfl dX10_figureOf_76 (pc' := 79) rfl (fun hb => ?_)
            refine a_goto hX dX10_figureOf_79 (tgt := 86) (by decide) ?_
            refine a_putfIB hX fl_X10_75 nf_9_19 (ji := 19) rfl rfl (by decide) rfl hB (by omega) dX10_figureOf_86 (pc' := 89) rfl (fun hB => ?_)
            refine a_iconst hX dX10_figureOf_89 (pc' := 90) rfl ?_
            refine a_iret hX dX10_figureOf_90 (hE _ _ _ ?_)
            first
              | exact Bool.noConfusion (c27.symm.trans c49)
              | exact Bool.noConfusion (c49.symm.trans c27)
              | exact absurd hgg.1 c72
              | (refine ⟨_, rfl, Or.inr ⟨?_, rfl, ?_⟩, hB, rfl⟩
                 · rintro ⟨q1, q2, q3, q4⟩
                   omega
                 · first | rw [if_pos (by omega)] | rw [if_neg (by omega)])
  refine a_aload_n hX rfl rfl dX10_figureOf_0 (pc' := 1) rfl ?_
  refine a_getfI hX (ji := 19) rfl hB fl_X10_75 rfl (by decide) rfl dX10_figureOf_1 (pc' := 4) rfl (fun hb => ?_)
  refine a_bipush hX rfl dX10_figureOf_4 (pc' := 6) rfl ?_
  refine a_icmp_ne hX (by omega) (by omega) dX10_figureOf_6 (pc' := 9) rfl (tgt := 24) (by decide) (fun c6 => ?_) (fun c6 => ?_)
  · refine a_iconst hX dX10_figureOf_24 (pc' := 25) rfl ?_
    refine a_istore3 hX rfl (by decide) rfl dX10_figureOf_25 (pc' := 26) rfl ?_
    first
      | exact J26 true (decide_eq_true ⟨by omega, by omega⟩).symm
      | exact J26 false (decide_eq_false (by omega)).symm
  · refine a_aload_n hX rfl rfl dX10_figureOf_9 (pc' := 10) rfl ?_
    refine a_getfI hX (ji := 18) rfl hB fl_X10_78 rfl (by decide) rfl dX10_figureOf_10 (pc' := 13) rfl (fun hb => ?_)
    refine a_aload_n hX rfl rfl dX10_figureOf_13 (pc' := 14) rfl ?_
    refine a_getfI hX (ji := 17) rfl hB fl_X10_72 rfl (by decide) rfl dX10_figureOf_14 (pc' := 17) rfl (fun hb => ?_)
    refine a_icmp_ge hX (by omega) (by omega) dX10_figureOf_17 (pc' := 20) rfl (tgt := 24) (by decide) (fun c17 => ?_) (fun c17 => ?_)
    · refine a_iconst hX dX10_figureOf_24 (pc' := 25) rfl ?_
      refine a_istore3 hX rfl (by decide) rfl dX10_figureOf_25 (pc' := 26) rfl ?_
      first
        | exact J26 true (decide_eq_true ⟨by omega, by omega⟩).symm
        | exact J26 false (decide_eq_false (by omega)).symm
    · refine a_iconst hX dX10_figureOf_20 (pc' := 21) rfl ?_
      refine a_goto hX dX10_figureOf_21 (tgt := 25) (by decide) ?_
      refine a_istore3 hX rfl (by decide) rfl dX10_figureOf_25 (pc' := 26) rfl ?_
      first
        | exact J26 true (decide_eq_true ⟨by omega, by omega⟩).symm
        | exact J26 false (decide_eq_false (by omega)).symm

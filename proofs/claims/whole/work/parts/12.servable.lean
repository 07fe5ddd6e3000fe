set_option maxHeartbeats 4000000 in
set_option maxRecDepth 100000 in
theorem c_servable {G : aG} {Z : aZ} {Y : aY} {k : Nat} {c y : Int} (hc : 0 ≤ c ∧ c < Z 3 9) (hy : 0 ≤ y ∧ y ≤ 5) (hk : aSky k) (hB : aB Z) (hP : okP (vP Z)) (hS : okS (vP Z) (vS Z k)) (hd : Z k 6 ≤ 5000) : aSi G yX8_servable cX8_servable 7 (some .int) 3 65 [.ref (G.1 k), .int (aI c), .int (aI y)] Z Y (sServs (vP Z) (vS Z k) c y) := by
  refine aS.of (own := RX8) (by decide +kernel) rfl 4 (Nat.le_of_ble_eq_true rfl) (fun X hX hE => ?_)
  show AW X G 0 [some (.ref (G.1 k)), some (.int (aI c)), some (.int (aI y)), none, none, none, none] [] Z Y
  obtain ⟨hk0, hk1, hk2, hk3, hkb, hka⟩ := aSky_sh hk
  have hfP := fP hP
  have hfS := fS hS
  refine a_aload_n hX rfl rfl dX8_servable_0 (pc' := 1) rfl ?_
  refine a_getfR hX (r := 3) fl_X8_9 hk0 (by omega) rfl dX8_servable_1 (pc' := 4) rfl ?_
  refine a_iload_n hX rfl rfl dX8_servable_4 (pc' := 5) rfl ?_
  refine a_cV1i hX cv_X8_72 (c_hasCloud (by omega) hB hP) rfl (by decide) ⟨by decide, by decide⟩ (Nat.le_of_ble_eq_true rfl) dX8_servable_5 (pc' := 8) rfl ?_
  refine a_ifb_ne hX dX8_servable_8 (pc' := 11) rfl (tgt := 13) (by decide) (fun c8 => ?_) (fun c8 => ?_)
  · refine a_iconst hX dX8_servable_13 (pc' := 14) rfl ?_
    refine a_istore3 hX rfl (by decide) rfl dX8_servable_14 (pc' := 15) rfl ?_
    refine a_iload_n hX rfl rfl dX8_servable_15 (pc' := 16) rfl ?_
    refine a_istore4 hX (by decide) rfl dX8_servable_16 (pc' := 18) rfl ?_
    refine a_aload_n hX rfl rfl dX8_servable_18 (pc' := 19) rfl ?_
    refine a_getfI hX (ji := 6) rfl hB fl_X8_32 hk0 (by omega) rfl dX8_servable_19 (pc' := 22) rfl (fun hb => ?_)
    refine a_istore5 hX (by decide) rfl dX8_servable_22 (pc' := 24) rfl ?_
    have L24 : ∀ (n : Nat) (d : Int), (Z k 6 ≤ d ∧ (d ≤ 10 ∨ d = Z k 6)) → (10 - d).toNat < n → AW X G 24 [some (.ref (G.1 k)), some (.int (aI c)), some (.int (aI y)), some (.int (aI (aBits (fun p => sServN (vP Z) (vS Z k) c y p (d - Z k 6).toNat) (Z 3 10).toNat))), some (.int (aI (pCarry (vP Z) (vP Z 4 c) y (vS Z k 15) (d - Z k 6).toNat))), some (.int (aI d)), none] [] Z Y := by
      intro n
      induction n with
      | zero =>
        intro d hdd hn
        omega
      | succ n ih =>
        intro d hdd hn
        have hcr := pCarry_rng (P := vP Z) (k := vP Z 4 c) (y := y) (d := vS Z k 15) hy (d - Z k 6).toNat
        refine a_iload hX rfl dX8_servable_24 (pc' := 26) rfl ?_
        refine a_bipush hX rfl dX8_servable_26 (pc' := 28) rfl ?_
        refine a_icmp_gt hX (by omega) (by omega) dX8_servable_28 (pc' := 31) rfl (tgt := 118) (by decide) (fun c28 => ?_) (fun c28 => ?_)
        · refine a_iload_n hX rfl rfl dX8_servable_118 (pc' := 119) rfl ?_
          refine a_iret hX dX8_servable_119 (hE _ _ _ ?_)
          refine ⟨aLf ?_, rfl, rfl⟩
          unfold sServs sServ
          rw [vP_2, vS_15, show (10 - Z k 6).toNat = (d - Z k 6).toNat by omega]
        · refine a_iconst hX dX8_servable_31 (pc' := 32) rfl ?_
          refine a_istore6 hX (by decide) rfl dX8_servable_32 (pc' := 34) rfl ?_
          have L34 : ∀ (m : Nat) (i : Int), (0 ≤ i ∧ i ≤ Z 3 10) → (Z 3 10 - i).toNat < m → AW X G 34 [some (.ref (G.1 k)), some (.int (aI c)), some (.int (aI y)), some (.int (aI (aBits (fun p => if p < i then ((fun p => sServN (vP Z) (vS Z k) c y p (d - Z k 6).toNat) p || (fun p => decide (pCarry (vP Z) (vP Z 4 c) y (vS Z k 15) (d - Z k 6).toNat = vP Z 5 p ∧ sTakes (vP Z) (vS Z k) c p (vS Z k 15 + ((d - Z k 6).toNat : Int)) = true)) p) else (fun p => sServN (vP Z) (vS Z k) c y p (d - Z k 6).toNat) p) (Z 3 10).toNat))), some (.int (aI (pCarry (vP Z) (vP Z 4 c) y (vS Z k 15) (d - Z k 6).toNat))), some (.int (aI d)), some (.int (aI i))] [] Z Y := by
            intro m
            induction m with
            | zero =>
              intro i hi hm
              omega
            | succ m ih2 =>
              intro i hi hm
              have hz := aBits_rng (fun p => if p < i then ((fun p => sServN (vP Z) (vS Z k) c y p (d - Z k 6).toNat) p || (fun p => decide (pCarry (vP Z) (vP Z 4 c) y (vS Z k 15) (d - Z k 6).toNat = vP Z 5 p ∧ sTakes (vP Z) (vS Z k) c p (vS Z k 15 + ((d - Z k 6).toNat : Int)) = true)) p) else (fun p => sServN (vP Z) (vS Z k) c y p (d - Z k 6).toNat) p) (Z 3 10).toNat
              refine a_iload hX rfl dX8_servable_34 (pc' := 36) rfl ?_
              refine a_aload_n hX rfl rfl dX8_servable_36 (pc' := 37) rfl ?_
              refine a_getfR hX (r := 3) fl_X8_9 hk0 (by omega) rfl dX8_servable_37 (pc' := 40) rfl ?_
              refine a_getfI hX (ji := 10) rfl hB fl_X8_66 rfl (by decide) rfl dX8_servable_40 (pc' := 43) rfl (fun hb => ?_)
              refine a_icmp_ge hX (by omega) (by omega) dX8_servable_43 (pc' := 46) rfl (tgt := 86) (by decide) (fun c43 => ?_) (fun c43 => ?_)
              · refine a_iload hX rfl dX8_servable_86 (pc' := 88) rfl ?_
                refine a_aload_n hX rfl rfl dX8_servable_88 (pc' := 89) rfl ?_
                refine a_getfR hX (r := 3) fl_X8_9 hk0 (by omega) rfl dX8_servable_89 (pc' := 92) rfl ?_
                refine a_aload_n hX rfl rfl dX8_servable_92 (pc' := 93) rfl ?_
                refine a_getfR hX (r := 3) fl_X8_9 hk0 (by omega) rfl dX8_servable_93 (pc' := 96) rfl ?_
                refine a_getfR hX (r := 7) fl_X8_75 rfl (by decide) rfl dX8_servable_96 (pc' := 99) rfl ?_
                refine a_iload_n hX rfl rfl dX8_servable_99 (pc' := 100) rfl ?_
                refine a_iald hX rfl (by decide) (by decide) (by omega) hB dX8_servable_100 (pc' := 101) rfl (fun hb => ?_)
                have hz7 := fPk hP c
                refine a_iload hX rfl dX8_servable_101 (pc' := 103) rfl ?_
                refine a_cV2i hX cv_X8_98 (c_drift (by omega) (by omega) hB hP) rfl (by decide) ⟨by decide, by decide⟩ (Nat.le_of_ble_eq_true rfl) dX8_servable_103 (pc' := 106) rfl ?_
                have hdr := pDrift_rng (vP Z) (Z 7 c) d
                refine a_iadd hX dX8_servable_106 (pc' := 107) rfl ?_
                refine a_cS1i hX cs_X8_102 (c_ring (by omega)) ⟨by decide, by decide⟩ (Nat.le_of_ble_eq_true rfl) dX8_servable_107 (pc' := 110) rfl ?_
                refine a_istore4 hX (by decide) rfl dX8_servable_110 (pc' := 112) rfl ?_
                refine a_iinc5 hX (by decide) rfl dX8_servable_112 (pc' := 115) rfl ?_
                refine a_goto hX dX8_servable_115 (tgt := 24) (by decide) ?_
                have e6 : (pCarry (vP Z) (vP Z 4 c) y (vS Z k 15) (d - Z k 6).toNat + pDrift (vP Z) (Z 7 c) d) % 6 = pCarry (vP Z) (vP Z 4 c) y (vS Z k 15) (d + 1 - Z k 6).toNat := by
                  rw [show (d + 1 - Z k 6).toNat = (d - Z k 6).toNat + 1 by omega]
                  show _ = (_ + pDrift (vP Z) (vP Z 4 c) (vS Z k 15 + ((d - Z k 6).toNat : Int))) % 6
                  rw [vS_15, show Z k 6 + ((d - Z k 6).toNat : Int) = d by omega]
                  rfl
                rw [e6, aBits_up (by omega)]
                have L := ih (d + 1) (by omega) (by omega)
                rw [show (d + 1 - Z k 6).toNat = (d - Z k 6).toNat + 1 by omega] at L ⊢
                refine AW.le ?_ L
                exact ⟨rfl, rfl, rfl, rfl, rfl, rfl, trivial⟩
              · refine a_iload hX rfl dX8_servable_46 (pc' := 48) rfl ?_
                refine a_aload_n hX rfl rfl dX8_servable_48 (pc' := 49) rfl ?_
                refine a_getfR hX (r := 3) fl_X8_9 hk0 (by omega) rfl dX8_servable_49 (pc' := 52) rfl ?_
                refine a_getfR hX (r := 8) fl_X8_87 rfl (by decide) rfl dX8_servable_52 (pc' := 55) rfl ?_
                refine a_iload hX rfl dX8_servable_55 (pc' := 57) rfl ?_
                refine a_iald hX rfl (by decide) (by decide) (by omega) hB dX8_servable_57 (pc' := 58) rfl (fun hb => ?_)
                refine a_icmp_ne hX (by omega) (by omega) dX8_servable_58 (pc' := 61) rfl (tgt := 80) (by decide) (fun c58 => ?_) (fun c58 => ?_)
                · refine a_iinc6 hX (by decide) rfl dX8_servable_80 (pc' := 83) rfl ?_
                  refine a_goto hX dX8_servable_83 (tgt := 34) (by decide) ?_
                  have e0 := aBits_step (E := (fun p => sServN (vP Z) (vS Z k) c y p (d - Z k 6).toNat)) (D := (fun p => decide (pCarry (vP Z) (vP Z 4 c) y (vS Z k 15) (d - Z k 6).toNat = vP Z 5 p ∧ sTakes (vP Z) (vS Z k) c p (vS Z k 15 + ((d - Z k 6).toNat : Int)) = true))) (N := (Z 3 10).toNat) (i := i) (by omega)
                  first
                    | (rw [if_pos (decide_eq_true ⟨c58, by rw [vS_15, show Z k 6 + ((d - Z k 6).toNat : Int) = d by omega]; exact c70⟩)] at e0
                       rw [aTwo, ← e0])
                    | (rw [if_neg (by
                         rw [decide_eq_true_eq]
                         intro q
                         first
                           | exact absurd q.1 c58
                           | (have q2 := q.2
                              rw [vS_15, show Z k 6 + ((d - Z k 6).toNat : Int) = d by omega, c70] at q2
                              exact absurd q2 (by decide)))] at e0
                       rw [← e0])
                  exact ih2 (i + 1) (by omega) (by omega)
                · refine a_aload_n hX rfl rfl dX8_servable_61 (pc' := 62) rfl ?_
                  refine a_iload_n hX rfl rfl dX8_servable_62 (pc' := 63) rfl ?_
                  refine a_iload hX rfl dX8_servable_63 (pc' := 65) rfl ?_
                  refine a_iload hX rfl dX8_servable_65 (pc' := 67) rfl ?_
                  refine a_cV3i hX cv_X8_90 (c_takes (by omega) (by omega) (by omega) hk hB hP hS hd) hk0 (by omega) ⟨by decide, by decide⟩ (Nat.le_of_ble_eq_true rfl) dX8_servable_67 (pc' := 70) rfl ?_
                  refine a_ifb_eq hX dX8_servable_70 (pc' := 73) rfl (tgt := 80) (by decide) (fun c70 => ?_) (fun c70 => ?_)
                  · refine a_iinc6 hX (by decide) rfl dX8_servable_80 (pc' := 83) rfl ?_
                    refine a_goto hX dX8_servable_83 (tgt := 34) (by decide) ?_
                    have e0 := aBits_step (E := (fun p => sServN (vP Z) (vS Z k) c y p (d - Z k 6).toNat)) (D := (fun p => decide (pCarry (vP Z) (vP Z 4 c) y (vS Z k 15) (d - Z k 6).toNat = vP Z 5 p ∧ sTakes (vP Z) (vS Z k) c p (vS Z k 15 + ((d - Z k 6).toNat : Int)) = true))) (N := (Z 3 10).toNat) (i := i) (by omega)
                    first
                      | (rw [if_pos (decide_eq_true ⟨c58, by rw [vS_15, show Z k 6 + ((d - Z k 6).toNat : Int) = d by omega]; exact c70⟩)] at e0
                         rw [aTwo, ← e0])
                      | (rw [if_neg (by
                           rw [decide_eq_true_eq]
                           intro q
                           first
                             | exact absurd q.1 c58
                             | (have q2 := q.2
                                rw [vS_15, show Z k 6 + ((d - Z k 6).toNat : Int) = d by omega, c70] at q2
                                exact absurd q2 (by decide)))] at e0
                         rw [← e0])
                    exact ih2 (i + 1) (by omega) (by omega)
                  · refine a_iload_n hX rfl rfl dX8_servable_73 (pc' := 74) rfl ?_
                    refine a_iconst hX dX8_servable_74 (pc' := 75) rfl ?_
                    refine a_iload hX rfl dX8_servable_75 (pc' := 77) rfl ?_
                    have hw := aPow2 (p := i) (by omega)
                    refine a_ishl hX (by omega) (by omega) (by omega) dX8_servable_77 (pc' := 78) rfl ?_
                    refine a_ior hX (by omega) (by omega) dX8_servable_78 (pc' := 79) rfl ?_
                    refine a_istore3 hX rfl (by decide) rfl dX8_servable_79 (pc' := 80) rfl ?_
                    refine a_iinc6 hX (by decide) rfl dX8_servable_80 (pc' := 83) rfl ?_
                    refine a_goto hX dX8_servable_83 (tgt := 34) (by decide) ?_
                    have e0 := aBits_step (E := (fun p => sServN (vP Z) (vS Z k) c y p (d - Z k 6).toNat)) (D := (fun p => decide (pCarry (vP Z) (vP Z 4 c) y (vS Z k 15) (d - Z k 6).toNat = vP Z 5 p ∧ sTakes (vP Z) (vS Z k) c p (vS Z k 15 + ((d - Z k 6).toNat : Int)) = true))) (N := (Z 3 10).toNat) (i := i) (by omega)
                    first
                      | (rw [if_pos (decide_eq_true ⟨c58, by rw [vS_15, show Z k 6 + ((d - Z k 6).toNat : Int) = d by omega]; exact c70⟩)] at e0
                         rw [aTwo, ← e0])
                      | (rw [if_neg (by
                           rw [decide_eq_true_eq]
                           intro q
                           first
                             | exact absurd q.1 c58
                             | (have q2 := q.2
                                rw [vS_15, show Z k 6 + ((d - Z k 6).toNat : Int) = d by omega, c70] at q2
                                exact absurd q2 (by decide)))] at e0
                         rw [← e0])
                    exact ih2 (i + 1) (by omega) (by omega)
          have L34 := L34 ((Z 3 10 - 0).toNat + 1) 0 (by omega) (by omega)
          rw [aBits_lo] at L34
          exact L34
    have L24 := L24 ((10 - Z k 6).toNat + 1) (Z k 6) (by omega) (by omega)
    rw [show (Z k 6 - Z k 6).toNat = 0 by omega, show aBits (fun p => sServN (vP Z) (vS Z k) c y p 0) (Z 3 10).toNat = 0 from aBits_zero _] at L24
    refine AW.le ?_ L24
    exact ⟨rfl, rfl, rfl, rfl, rfl, rfl, trivial⟩
  · exact absurd (pHasC_of hc) (by rw [c8]; decide)

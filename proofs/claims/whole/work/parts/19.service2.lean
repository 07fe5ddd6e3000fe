theorem aNatPow (n : Nat) : ((2 ^ n : Nat) : Int) = 2 ^ n := by simp

set_option maxHeartbeats 4000000 in
set_option maxRecDepth 100000 in
theorem c_fillable {G : aG} {Z : aZ} {Y : aY} {pr : Int} (hpr : 0 ≤ pr ∧ pr < 16) (hB : aB Z) (hV : okV Z) : aSi G yX6_fillable cX6_fillable 4 (some .int) 2 48 [.ref (G.1 39), .int (aI pr)] Z Y (vFill (Z 39 4).toNat (Z 39 5).toNat (Z 40) (Z 41) (Z 42) pr) := by
  refine aS.of (own := RX6) (by decide +kernel) rfl 2 (Nat.le_of_ble_eq_true rfl) (fun X hX hE => ?_)
  show AW X G 0 [some (.ref (G.1 39)), some (.int (aI pr)), none, none] [] Z Y
  have hV1 := hV.1
  have hV2 := hV.2.1
  have hVh := hV.2.2.1
  have hVc := hV.2.2.2.1
  have hVo := hV.2.2.2.2
  have hw4 := aPow4 hV1
  have hw5 := aPow5 hV2
  refine a_aload_n hX rfl rfl dX6_fillable_0 (pc' := 1) rfl ?_
  refine a_iconst hX dX6_fillable_1 (pc' := 2) rfl ?_
  refine a_aload_n hX rfl rfl dX6_fillable_2 (pc' := 3) rfl ?_
  refine a_getfI hX (ji := 5) rfl hB fl_X6_30 rfl (by decide) rfl dX6_fillable_3 (pc' := 6) rfl (fun hb => ?_)
  refine a_ishl hX (by omega) (by omega) (by omega) dX6_fillable_6 (pc' := 7) rfl ?_
  refine a_iconst hX dX6_fillable_7 (pc' := 8) rfl ?_
  refine a_isub hX dX6_fillable_8 (pc' := 9) rfl ?_
  refine a_cV1i hX cv_X6_56 (c_vOwedBy (by omega) hB hV) rfl (by decide) ⟨by decide, by decide⟩ (Nat.le_of_ble_eq_true rfl) dX6_fillable_9 (pc' := 12) rfl ?_
  refine a_istore2 hX rfl (by decide) rfl dX6_fillable_12 (pc' := 13) rfl ?_
  refine a_iconst hX dX6_fillable_13 (pc' := 14) rfl ?_
  refine a_istore3 hX rfl (by decide) rfl dX6_fillable_14 (pc' := 15) rfl ?_
  have L15 : ∀ (n : Nat) (s : Int), (0 ≤ s ∧ s ≤ 2 ^ (Z 39 4).toNat) → (2 ^ (Z 39 4).toNat - s).toNat < n → AW X G 15 [some (.ref (G.1 39)), some (.int (aI pr)), some (.int (aI (vMin (fun s => vCut (Z 39 4).toNat (Z 39 5).toNat (Z 40) (Z 41) (Z 42) s pr) (fun s => vSub s pr) (aSum (Z 42) (Z 39 5).toNat) s.toNat))), some (.int (aI s))] [] Z Y := by
    intro n
    induction n with
    | zero =>
      intro s hs hn
      omega
    | succ n ih =>
      intro s hs hn
      have e0 := vMin_s (f := fun s => vCut (Z 39 4).toNat (Z 39 5).toNat (Z 40) (Z 41) (Z 42) s pr) (ok := fun s => vSub s pr) (i0 := aSum (Z 42) (Z 39 5).toNat) hs.1
      try dsimp only at e0
      have hr1 := vMin_rng (f := fun s => vCut (Z 39 4).toNat (Z 39 5).toNat (Z 40) (Z 41) (Z 42) s pr) (ok := fun s => vSub s pr) (i0 := aSum (Z 42) (Z 39 5).toNat) (a := 0) (b := 45) (by
        have := aSum_rng (f := Z 42) (a := 0) (b := 9) (Z 39 5).toNat (fun i hi => hVo i (by omega))
        omega) (fun s => (vCut_rng (by omega) (by omega) (fun c hc => hVh c (by omega)) (fun p hp => hVo p (by omega)) s pr).1) s.toNat
      have hr2 := vCut_rng (nc := (Z 39 4).toNat) (np := (Z 39 5).toNat) (h := Z 40) (cn := Z 41) (ow := Z 42) (by omega) (by omega) (fun c hc => hVh c (by omega)) (fun p hp => hVo p (by omega)) s pr
      refine a_iload_n hX rfl rfl dX6_fillable_15 (pc' := 16) rfl ?_
      refine a_iconst hX dX6_fillable_16 (pc' := 17) rfl ?_
      refine a_aload_n hX rfl rfl dX6_fillable_17 (pc' := 18) rfl ?_
      refine a_getfI hX (ji := 4) rfl hB fl_X6_26 rfl (by decide) rfl dX6_fillable_18 (pc' := 21) rfl (fun hb => ?_)
      refine a_ishl hX (by omega) (by omega) (by omega) dX6_fillable_21 (pc' := 22) rfl ?_
      try rw [aTwo]
      refine a_icmp_ge hX (by omega) (by omega) dX6_fillable_22 (pc' := 25) rfl (tgt := 50) (by decide) (fun c22 => ?_) (fun c22 => ?_)
      · refine a_iload_n hX rfl rfl dX6_fillable_50 (pc' := 51) rfl ?_
        refine a_iret hX dX6_fillable_51 (hE _ _ _ ?_)
        refine ⟨aLf ?_, rfl, rfl⟩
        unfold vFill
        rw [show 2 ^ (Z 39 4).toNat = s.toNat by have := aNatPow (Z 39 4).toNat; omega]
      · refine a_iload_n hX rfl rfl dX6_fillable_25 (pc' := 26) rfl ?_
        refine a_iload_n hX rfl rfl dX6_fillable_26 (pc' := 27) rfl ?_
        refine a_iconst hX dX6_fillable_27 (pc' := 28) rfl ?_
        refine a_ixor32 hX dX6_fillable_28 (pc' := 29) rfl ?_
        refine a_iand32 hX dX6_fillable_29 (pc' := 30) rfl ?_
        refine a_ifr_ne hX dX6_fillable_30 (pc' := 33) rfl (tgt := 44) (by decide) (fun c30 => ?_) (fun c30 => ?_)
        · have c30 : vSub s pr = false := by rw [Bool.eq_false_iff]; exact fun q => c30 ((vSub_ok (by omega) hpr).mpr q)
          refine a_iinc3 hX (by decide) rfl dX6_fillable_44 (pc' := 47) rfl ?_
          refine a_goto hX dX6_fillable_47 (tgt := 15) (by decide) ?_
          first | rw [if_pos c30] at e0 | rw [if_neg (by rw [c30]; decide)] at e0
          have L := ih (s + 1) (by omega) (by omega)
          rw [e0] at L
          exact L
        · have c30 := (vSub_ok (by omega) hpr).mp c30
          refine a_iload_n hX rfl rfl dX6_fillable_33 (pc' := 34) rfl ?_
          refine a_aload_n hX rfl rfl dX6_fillable_34 (pc' := 35) rfl ?_
          refine a_iload_n hX rfl rfl dX6_fillable_35 (pc' := 36) rfl ?_
          refine a_iload_n hX rfl rfl dX6_fillable_36 (pc' := 37) rfl ?_
          refine a_cV2i hX cv_X6_59 (c_cut (by omega) (by omega) hB hV) rfl (by decide) ⟨by decide, by decide⟩ (Nat.le_of_ble_eq_true rfl) dX6_fillable_37 (pc' := 40) rfl ?_
          refine a_min hX cs_X6_36 (by omega) (by omega) (by decide) (Nat.le_of_ble_eq_true rfl) dX6_fillable_40 (pc' := 43) rfl ?_
          refine a_istore2 hX rfl (by decide) rfl dX6_fillable_43 (pc' := 44) rfl ?_
          refine a_iinc3 hX (by decide) rfl dX6_fillable_44 (pc' := 47) rfl ?_
          refine a_goto hX dX6_fillable_47 (tgt := 15) (by decide) ?_
          first | rw [if_pos c30] at e0 | rw [if_neg (by rw [c30]; decide)] at e0
          have L := ih (s + 1) (by omega) (by omega)
          rw [e0] at L
          exact L
  rw [aTwo, vOB_all hV2]
  exact L15 ((2 ^ (Z 39 4).toNat - (0 : Int)).toNat + 1) 0 (by omega) (by omega)

set_option maxHeartbeats 4000000 in
set_option maxRecDepth 100000 in
theorem c_shortOf {G : aG} {Z : aZ} {Y : aY} {p : Int} (hp : 0 ≤ p ∧ p < Z 39 5) (hB : aB Z) (hV : okV Z) : aSi G yX6_shortOf cX6_shortOf 4 (some .int) 1 32 [.ref (G.1 39), .int (aI p)] Z Y (max 0 (Z 42 p - aSum (fun c => if aBit (Z 41 c) p = true then Z 40 c else 0) (Z 39 4).toNat)) := by
  refine aS.of (own := RX6) (by decide +kernel) rfl 2 (Nat.le_of_ble_eq_true rfl) (fun X hX hE => ?_)
  show AW X G 0 [some (.ref (G.1 39)), some (.int (aI p)), none, none] [] Z Y
  have hV1 := hV.1
  have hV2 := hV.2.1
  have hVh := hV.2.2.1
  have hVc := hV.2.2.2.1
  have hVo := hV.2.2.2.2
  refine a_iload_n hX rfl rfl dX6_shortOf_0 (pc' := 1) rfl ?_
  refine a_if_lt hX (by omega) dX6_shortOf_1 (pc' := 4) rfl (tgt := 12) (by decide) (fun c1 => ?_) (fun c1 => ?_)
  · omega
  · refine a_iload_n hX rfl rfl dX6_shortOf_4 (pc' := 5) rfl ?_
    refine a_aload_n hX rfl rfl dX6_shortOf_5 (pc' := 6) rfl ?_
    refine a_getfI hX (ji := 5) rfl hB fl_X6_30 rfl (by decide) rfl dX6_shortOf_6 (pc' := 9) rfl (fun hb => ?_)
    refine a_icmp_lt hX (by omega) (by omega) dX6_shortOf_9 (pc' := 12) rfl (tgt := 14) (by decide) (fun c9 => ?_) (fun c9 => ?_)
    · refine a_iconst hX dX6_shortOf_14 (pc' := 15) rfl ?_
      refine a_istore2 hX rfl (by decide) rfl dX6_shortOf_15 (pc' := 16) rfl ?_
      refine a_iconst hX dX6_shortOf_16 (pc' := 17) rfl ?_
      refine a_istore3 hX rfl (by decide) rfl dX6_shortOf_17 (pc' := 18) rfl ?_
      have L18 : ∀ (n : Nat) (i : Int), (0 ≤ i ∧ i ≤ Z 39 4) → (Z 39 4 - i).toNat < n → AW X G 18 [some (.ref (G.1 39)), some (.int (aI p)), some (.int (aI (aSum (fun c => if aBit (Z 41 c) p = true then Z 40 c else 0) i.toNat))), some (.int (aI i))] [] Z Y := by
        intro n
        induction n with
        | zero =>
          intro i hi hn
          omega
        | succ n ih =>
          intro i hi hn
          have e0 := aSum_s (f := (fun c => if aBit (Z 41 c) p = true then Z 40 c else 0)) hi.1
          try dsimp only at e0
          have hr := aSum_rng (f := (fun c => if aBit (Z 41 c) p = true then Z 40 c else 0)) (a := 0) (b := 9) i.toNat (fun j hj => by
            have := hVh j (by omega)
            try dsimp only
            split <;> omega)
          refine a_iload_n hX rfl rfl dX6_shortOf_18 (pc' := 19) rfl ?_
          refine a_aload_n hX rfl rfl dX6_shortOf_19 (pc' := 20) rfl ?_
          refine a_getfI hX (ji := 4) rfl hB fl_X6_26 rfl (by decide) rfl dX6_shortOf_20 (pc' := 23) rfl (fun hb => ?_)
          refine a_icmp_ge hX (by omega) (by omega) dX6_shortOf_23 (pc' := 26) rfl (tgt := 58) (by decide) (fun c23 => ?_) (fun c23 => ?_)
          · refine a_iconst hX dX6_shortOf_58 (pc' := 59) rfl ?_
            refine a_aload_n hX rfl rfl dX6_shortOf_59 (pc' := 60) rfl ?_
            refine a_getfR hX (r := 42) fl_X6_18 rfl (by decide) rfl dX6_shortOf_60 (pc' := 63) rfl ?_
            refine a_iload_n hX rfl rfl dX6_shortOf_63 (pc' := 64) rfl ?_
            refine a_iald hX rfl (by decide) (by decide) (by omega) hB dX6_shortOf_64 (pc' := 65) rfl (fun hb => ?_)
            refine a_iload_n hX rfl rfl dX6_shortOf_65 (pc' := 66) rfl ?_
            refine a_isub hX dX6_shortOf_66 (pc' := 67) rfl ?_
            have hzo := hVo p (by omega)
            refine a_max hX cs_X6_62 (by omega) (by omega) (by decide) (Nat.le_of_ble_eq_true rfl) dX6_shortOf_67 (pc' := 70) rfl ?_
            refine a_iret hX dX6_shortOf_70 (hE _ _ _ ?_)
            refine ⟨aLf ?_, rfl, rfl⟩
            rw [show i = Z 39 4 by omega]
          · refine a_iload_n hX rfl rfl dX6_shortOf_26 (pc' := 27) rfl ?_
            refine a_aload_n hX rfl rfl dX6_shortOf_27 (pc' := 28) rfl ?_
            refine a_getfR hX (r := 41) fl_X6_15 rfl (by decide) rfl dX6_shortOf_28 (pc' := 31) rfl ?_
            refine a_iload_n hX rfl rfl dX6_shortOf_31 (pc' := 32) rfl ?_
            refine a_iald hX rfl (by decide) (by decide) (by omega) hB dX6_shortOf_32 (pc' := 33) rfl (fun hb => ?_)
            refine a_iload_n hX rfl rfl dX6_shortOf_33 (pc' := 34) rfl ?_
            have hz := hVc i (by omega)
            refine a_ishr hX (by omega) (by omega) dX6_shortOf_34 (pc' := 35) rfl ?_
            have hq := Int.ediv_nonneg (a := Z 41 i) (b := 2 ^ p.toNat) (by omega) (Int.le_of_lt (aPow_pos _))
            refine a_iconst hX dX6_shortOf_35 (pc' := 36) rfl ?_
            refine a_iand hX (by omega) (by omega) dX6_shortOf_36 (pc' := 37) rfl ?_
            rw [aAnd_1 _ hq]
            refine a_if_eq hX (by omega) dX6_shortOf_37 (pc' := 40) rfl (tgt := 49) (by decide) (fun c37 => ?_) (fun c37 => ?_)
            · refine a_iconst hX dX6_shortOf_49 (pc' := 50) rfl ?_
              refine a_iadd hX dX6_shortOf_50 (pc' := 51) rfl ?_
              refine a_istore2 hX rfl (by decide) rfl dX6_shortOf_51 (pc' := 52) rfl ?_
              refine a_iinc3 hX (by decide) rfl dX6_shortOf_52 (pc' := 55) rfl ?_
              refine a_goto hX dX6_shortOf_55 (tgt := 18) (by decide) ?_
              first | rw [if_pos (show aBit (Z 41 i) p = true by unfold aBit; exact decide_eq_true (by omega))] at e0 | rw [if_neg (show ¬ aBit (Z 41 i) p = true by unfold aBit; rw [decide_eq_true_eq]; omega)] at e0
              have L := ih (i + 1) (by omega) (by omega)
              rw [e0] at L
              exact L
            · refine a_aload_n hX rfl rfl dX6_shortOf_40 (pc' := 41) rfl ?_
              refine a_getfR hX (r := 40) fl_X6_9 rfl (by decide) rfl dX6_shortOf_41 (pc' := 44) rfl ?_
              refine a_iload_n hX rfl rfl dX6_shortOf_44 (pc' := 45) rfl ?_
              refine a_iald hX rfl (by decide) (by decide) (by omega) hB dX6_shortOf_45 (pc' := 46) rfl (fun hb => ?_)
              refine a_goto hX dX6_shortOf_46 (tgt := 50) (by decide) ?_
              refine a_iadd hX dX6_shortOf_50 (pc' := 51) rfl ?_
              refine a_istore2 hX rfl (by decide) rfl dX6_shortOf_51 (pc' := 52) rfl ?_
              refine a_iinc3 hX (by decide) rfl dX6_shortOf_52 (pc' := 55) rfl ?_
              refine a_goto hX dX6_shortOf_55 (tgt := 18) (by decide) ?_
              first | rw [if_pos (show aBit (Z 41 i) p = true by unfold aBit; exact decide_eq_true (by omega))] at e0 | rw [if_neg (show ¬ aBit (Z 41 i) p = true by unfold aBit; rw [decide_eq_true_eq]; omega)] at e0
              have L := ih (i + 1) (by omega) (by omega)
              rw [e0] at L
              exact L
      exact L18 ((Z 39 4 - 0).toNat + 1) 0 (by omega) (by omega)
    · omega

theorem aPop_lt {n s c : Int} (hn : 0 ≤ n ∧ n ≤ 4) (hs : 0 ≤ s ∧ s < 2 ^ n.toNat) (hc : 0 ≤ c ∧ c < n) (hb : aBit s c = false) : aPop s ≤ n - 1 := by
  obtain ⟨n, rfl⟩ := Int.eq_ofNat_of_zero_le hn.1
  obtain ⟨s, rfl⟩ := Int.eq_ofNat_of_zero_le hs.1
  obtain ⟨c, rfl⟩ := Int.eq_ofNat_of_zero_le hc.1
  have : ∀ n : Nat, n < 5 → ∀ s : Nat, s < 2 ^ n → ∀ c : Nat, c < n → aBit (s : Int) (c : Int) = false → aPop (s : Int) ≤ (n : Int) - 1 := by decide +kernel
  have e := aNatPow n
  rw [Int.toNat_natCast] at hs
  exact this n (by omega) s (by omega) c (by omega) hb
theorem aOr_bit {n s c : Int} (hn : 0 ≤ n ∧ n ≤ 4) (hs : 0 ≤ s ∧ s < 2 ^ n.toNat) (hc : 0 ≤ c ∧ c < n) : 0 ≤ aOr s (2 ^ c.toNat) ∧ aOr s (2 ^ c.toNat) < 2 ^ n.toNat := by
  refine aOr_rng hs ⟨Int.le_of_lt (aPow_pos _), ?_⟩
  obtain ⟨n, rfl⟩ := Int.eq_ofNat_of_zero_le hn.1
  obtain ⟨c, rfl⟩ := Int.eq_ofNat_of_zero_le hc.1
  have : ∀ n : Nat, n < 5 → ∀ c : Nat, c < n → (2 : Int) ^ c < 2 ^ n := by decide +kernel
  exact this n (by omega) c (by omega)

set_option maxHeartbeats 4000000 in
set_option maxRecDepth 100000 in
theorem c_gain {G : aG} {Z : aZ} {Y : aY} {c : Int} (hc : 0 ≤ c ∧ c < Z 39 4) (hB : aB Z) (hV : okV Z) : aSi G yX6_gainInOrders cX6_gainInOrders 6 (some .int) 3 71 [.ref (G.1 39), .int (aI c)] Z Y (aSum (fun s => if aBit s c = true then 0 else aFac (aPop s).toNat * aFac (Z 39 4 - 1 - aPop s).toNat * (vFill (Z 39 4).toNat (Z 39 5).toNat (Z 40) (Z 41) (Z 42) (aOr s (2 ^ c.toNat)) - vFill (Z 39 4).toNat (Z 39 5).toNat (Z 40) (Z 41) (Z 42) s)) (2 ^ (Z 39 4).toNat)) := by
  refine aS.of (own := RX6) (by decide +kernel) rfl 4 (Nat.le_of_ble_eq_true rfl) (fun X hX hE => ?_)
  show AW X G 0 [some (.ref (G.1 39)), some (.int (aI c)), none, none, none, none] [] Z Y
  have hV1 := hV.1
  have hV2 := hV.2.1
  have hVh := hV.2.2.1
  have hVc := hV.2.2.2.1
  have hVo := hV.2.2.2.2
  have hw4 := aPow4 hV1
  refine a_iconst hX dX6_gainInOrders_0 (pc' := 1) rfl ?_
  refine a_istore2 hX rfl (by decide) rfl dX6_gainInOrders_1 (pc' := 2) rfl ?_
  refine a_iconst hX dX6_gainInOrders_2 (pc' := 3) rfl ?_
  refine a_istore3 hX rfl (by decide) rfl dX6_gainInOrders_3 (pc' := 4) rfl ?_
  have L4 : ∀ (n : Nat) (s : Int), (0 ≤ s ∧ s ≤ 2 ^ (Z 39 4).toNat) → (2 ^ (Z 39 4).toNat - s).toNat < n → AW X G 4 [some (.ref (G.1 39)), some (.int (aI c)), some (.int (aI (aSum (fun s => if aBit s c = true then 0 else aFac (aPop s).toNat * aFac (Z 39 4 - 1 - aPop s).toNat * (vFill (Z 39 4).toNat (Z 39 5).toNat (Z 40) (Z 41) (Z 42) (aOr s (2 ^ c.toNat)) - vFill (Z 39 4).toNat (Z 39 5).toNat (Z 40) (Z 41) (Z 42) s)) s.toNat))), some (.int (aI s)), none, none] [] Z Y := by
    intro n
    induction n with
    | zero =>
      intro s hs hn
      omega
    | succ n ih =>
      intro s hs hn
      have e0 := aSum_s (f := (fun s => if aBit s c = true then 0 else aFac (aPop s).toNat * aFac (Z 39 4 - 1 - aPop s).toNat * (vFill (Z 39 4).toNat (Z 39 5).toNat (Z 40) (Z 41) (Z 42) (aOr s (2 ^ c.toNat)) - vFill (Z 39 4).toNat (Z 39 5).toNat (Z 40) (Z 41) (Z 42) s))) hs.1
      try dsimp only at e0
      have hq := Int.ediv_nonneg (a := s) (b := 2 ^ c.toNat) (by omega) (Int.le_of_lt (aPow_pos _))
      refine a_iload_n hX rfl rfl dX6_gainInOrders_4 (pc' := 5) rfl ?_
      refine a_iconst hX dX6_gainInOrders_5 (pc' := 6) rfl ?_
      refine a_aload_n hX rfl rfl dX6_gainInOrders_6 (pc' := 7) rfl ?_
      refine a_getfI hX (ji := 4) rfl hB fl_X6_26 rfl (by decide) rfl dX6_gainInOrders_7 (pc' := 10) rfl (fun hb => ?_)
      refine a_ishl hX (by omega) (by omega) (by omega) dX6_gainInOrders_10 (pc' := 11) rfl ?_
      try rw [aTwo]
      refine a_icmp_ge hX (by omega) (by omega) dX6_gainInOrders_11 (pc' := 14) rfl (tgt := 75) (by decide) (fun c11 => ?_) (fun c11 => ?_)
      · refine a_iload_n hX rfl rfl dX6_gainInOrders_75 (pc' := 76) rfl ?_
        refine a_iret hX dX6_gainInOrders_76 (hE _ _ _ ?_)
        refine ⟨aLf ?_, rfl, rfl⟩
        rw [show 2 ^ (Z 39 4).toNat = s.toNat by have := aNatPow (Z 39 4).toNat; omega]
      · refine a_iload_n hX rfl rfl dX6_gainInOrders_14 (pc' := 15) rfl ?_
        refine a_iload_n hX rfl rfl dX6_gainInOrders_15 (pc' := 16) rfl ?_
        refine a_ishr hX (by omega) (by omega) dX6_gainInOrders_16 (pc' := 17) rfl ?_
        refine a_iconst hX dX6_gainInOrders_17 (pc' := 18) rfl ?_
        refine a_iand hX (by omega) (by omega) dX6_gainInOrders_18 (pc' := 19) rfl ?_
        rw [aAnd_1 _ hq]
        refine a_if_ne hX (by omega) dX6_gainInOrders_19 (pc' := 22) rfl (tgt := 69) (by decide) (fun c19 => ?_) (fun c19 => ?_)
        · have hbt : aBit s c = true := by unfold aBit; exact decide_eq_true (by omega)
          refine a_iinc3 hX (by decide) rfl dX6_gainInOrders_69 (pc' := 72) rfl ?_
          refine a_goto hX dX6_gainInOrders_72 (tgt := 4) (by decide) ?_
          first | rw [if_pos hbt, Int.add_zero] at e0 | rw [if_neg (show ¬ aBit s c = true by rw [hbt]; decide)] at e0
          have L := ih (s + 1) (by omega) (by omega)
          rw [e0] at L
          refine AW.le ?_ L
          exact ⟨rfl, rfl, rfl, rfl, trivial⟩
        · have hbt : aBit s c = false := by unfold aBit; exact decide_eq_false (by omega)
          have hp1 := aPop_rng (x := s) (by omega)
          have hp2 := aPop_lt hV1 (s := s) (c := c) (by omega) hc hbt
          have hor := aOr_bit hV1 (s := s) (c := c) (by omega) hc
          refine a_iload_n hX rfl rfl dX6_gainInOrders_22 (pc' := 23) rfl ?_
          refine a_cS1i hX cs_X6_81 (c_bitCount (by omega)) ⟨by decide, by decide⟩ (Nat.le_of_ble_eq_true rfl) dX6_gainInOrders_23 (pc' := 26) rfl ?_
          refine a_istore4 hX (by decide) rfl dX6_gainInOrders_26 (pc' := 28) rfl ?_
          refine a_iload hX rfl dX6_gainInOrders_28 (pc' := 30) rfl ?_
          refine a_cS1i hX cs_X6_86 (c_factorial (by omega)) ⟨by decide, by decide⟩ (Nat.le_of_ble_eq_true rfl) dX6_gainInOrders_30 (pc' := 33) rfl ?_
          refine a_aload_n hX rfl rfl dX6_gainInOrders_33 (pc' := 34) rfl ?_
          refine a_getfI hX (ji := 4) rfl hB fl_X6_26 rfl (by decide) rfl dX6_gainInOrders_34 (pc' := 37) rfl (fun hb => ?_)
          refine a_iconst hX dX6_gainInOrders_37 (pc' := 38) rfl ?_
          refine a_isub hX dX6_gainInOrders_38 (pc' := 39) rfl ?_
          refine a_iload hX rfl dX6_gainInOrders_39 (pc' := 41) rfl ?_
          refine a_isub hX dX6_gainInOrders_41 (pc' := 42) rfl ?_
          refine a_cS1i hX cs_X6_86 (c_factorial (by omega)) ⟨by decide, by decide⟩ (Nat.le_of_ble_eq_true rfl) dX6_gainInOrders_42 (pc' := 45) rfl ?_
          refine a_imul hX dX6_gainInOrders_45 (pc' := 46) rfl ?_
          refine a_istore5 hX (by decide) rfl dX6_gainInOrders_46 (pc' := 48) rfl ?_
          refine a_iload_n hX rfl rfl dX6_gainInOrders_48 (pc' := 49) rfl ?_
          refine a_iload hX rfl dX6_gainInOrders_49 (pc' := 51) rfl ?_
          refine a_aload_n hX rfl rfl dX6_gainInOrders_51 (pc' := 52) rfl ?_
          refine a_iload_n hX rfl rfl dX6_gainInOrders_52 (pc' := 53) rfl ?_
          refine a_iconst hX dX6_gainInOrders_53 (pc' := 54) rfl ?_
          refine a_iload_n hX rfl rfl dX6_gainInOrders_54 (pc' := 55) rfl ?_
          have hw := aPow2 (p := c) (by omega)
          refine a_ishl hX (by omega) (by omega) (by omega) dX6_gainInOrders_55 (pc' := 56) rfl ?_
          refine a_ior hX (by omega) (by omega) dX6_gainInOrders_56 (pc' := 57) rfl ?_
          rw [aTwo]
          refine a_cV1i hX cv_X6_73 (c_fillable (by omega) hB hV) rfl (by decide) ⟨by decide, by decide⟩ (Nat.le_of_ble_eq_true rfl) dX6_gainInOrders_57 (pc' := 60) rfl ?_
          refine a_aload_n hX rfl rfl dX6_gainInOrders_60 (pc' := 61) rfl ?_
          refine a_iload_n hX rfl rfl dX6_gainInOrders_61 (pc' := 62) rfl ?_
          refine a_cV1i hX cv_X6_73 (c_fillable (by omega) hB hV) rfl (by decide) ⟨by decide, by decide⟩ (Nat.le_of_ble_eq_true rfl) dX6_gainInOrders_62 (pc' := 65) rfl ?_
          refine a_isub hX dX6_gainInOrders_65 (pc' := 66) rfl ?_
          refine a_imul hX dX6_gainInOrders_66 (pc' := 67) rfl ?_
          refine a_iadd hX dX6_gainInOrders_67 (pc' := 68) rfl ?_
          refine a_istore2 hX rfl (by decide) rfl dX6_gainInOrders_68 (pc' := 69) rfl ?_
          refine a_iinc3 hX (by decide) rfl dX6_gainInOrders_69 (pc' := 72) rfl ?_
          refine a_goto hX dX6_gainInOrders_72 (tgt := 4) (by decide) ?_
          first | rw [if_pos hbt, Int.add_zero] at e0 | rw [if_neg (show ¬ aBit s c = true by rw [hbt]; decide)] at e0
          have L := ih (s + 1) (by omega) (by omega)
          rw [e0] at L
          refine AW.le ?_ L
          exact ⟨rfl, rfl, rfl, rfl, trivial⟩
  exact L4 ((2 ^ (Z 39 4).toNat - (0 : Int)).toNat + 1) 0 (by omega) (by omega)

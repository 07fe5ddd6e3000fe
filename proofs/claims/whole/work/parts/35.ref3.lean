theorem vQ_eq {Z Z' : aZ} (h : ∀ a : Nat, 62 ≤ a ∧ a ≤ 68 → Z' a = Z a) : vQ Z' = vQ Z := by
  funext r
  unfold vQ
  split
  · rw [h 62 (by omega)]
  · exact h 63 (by omega)
  · exact h 64 (by omega)
  · exact h 65 (by omega)
  · exact h 66 (by omega)
  · exact h 68 (by omega)
  · exact h 67 (by omega)
  · rfl
theorem vQ_eq2 {Z Z' : aZ} (h0 : Z' 62 0 = Z 62 0) (h1 : Z' 62 1 = Z 62 1) (h2 : Z' 62 2 = Z 62 2) (h : ∀ a : Nat, 63 ≤ a ∧ a ≤ 68 → Z' a = Z a) : vQ Z' = vQ Z := by
  funext r
  unfold vQ
  split
  · rw [h0, h1, h2]
  · exact h 63 (by omega)
  · exact h 64 (by omega)
  · exact h 65 (by omega)
  · exact h 66 (by omega)
  · exact h 68 (by omega)
  · exact h 67 (by omega)
  · rfl
theorem vR_eq {Z Z' : aZ} (l : Int) (h1 : Z' 62 1 = Z 62 1) (h : Z' 69 = Z 69) : vR Z' l = vR Z l := by
  unfold vR
  rw [h1, h]
def rSv (P : aP) (S : aSk) (th c : Int) : Int := if aBit th c = true then sServs P S c (S c) else 0
def rCost (P : aP) (S : aSk) (th s : Int) (n : Nat) : Int := aSum (fun c => if aBit s c = true ∧ aBit th c = true then sHas P S c else 0) n
def rReach (P : aP) (S : aSk) (th s : Int) (n : Nat) : Int := aOrs (fun c => if aBit s c = true then 0 else rSv P S th c) n
def rCut (P : aP) (S : aSk) (th s : Int) : Int := rCost P S th s (P 0 1).toNat + sOwedBy P S (rReach P S th s (P 0 1).toNat)
/-- the reference's MOST, with the clouds that are there -/
def rMost (P : aP) (S : aSk) (th : Int) : Int := vMin (rCut P S th) (fun _ => true) (sOwedAll P S) (2 ^ (P 0 1).toNat)
theorem rSv_rng {P : aP} (h : okP P) (S : aSk) (th c : Int) : 0 ≤ rSv P S th c ∧ rSv P S th c < 32 := by
  unfold rSv
  have := sServs_rng h S c (S c)
  split <;> omega
theorem rCost_rng {P : aP} {S : aSk} (hS : okS P S) (th s : Int) {n : Nat} (hn : n ≤ 4) : 0 ≤ rCost P S th s n ∧ rCost P S th s n ≤ 36 := by
  unfold rCost
  have := aSum_rng (f := fun c => if aBit s c = true ∧ aBit th c = true then sHas P S c else 0) (a := 0) (b := 9) n (fun c hc => by
    have := sHas_rng hS (c := c) (by omega)
    try dsimp only
    split <;> omega)
  omega
theorem rReach_rng {P : aP} (h : okP P) (S : aSk) (th s : Int) (n : Nat) : 0 ≤ rReach P S th s n ∧ rReach P S th s n < 32 := by
  unfold rReach
  refine aOrs_rng n (fun c _ => ?_)
  have := rSv_rng h S th c
  try dsimp only
  split <;> omega
theorem sOwedAll_rng {P : aP} {S : aSk} (hP : okP P) (hS : okS P S) : 0 ≤ sOwedAll P S ∧ sOwedAll P S ≤ 45 := by
  unfold sOwedAll
  have h2 := hP.2.2.1
  have := aSum_rng (f := sOwed P S) (a := 0) (b := 9) (P 0 2).toNat (fun p hp => sOwed_rng hP hS (p := p) (by omega))
  omega
theorem rCut_rng {P : aP} {S : aSk} (hP : okP P) (hS : okS P S) (th s : Int) : 0 ≤ rCut P S th s ∧ rCut P S th s ≤ 81 := by
  unfold rCut
  have h1 := hP.2.1
  have := rCost_rng hS th s (n := (P 0 1).toNat) (by omega)
  have := sOwedBy_rng hP hS (rReach P S th s (P 0 1).toNat)
  omega
theorem rMin_rng {P : aP} {S : aSk} (hP : okP P) (hS : okS P S) (th : Int) (n : Nat) : 0 ≤ vMin (rCut P S th) (fun _ => true) (sOwedAll P S) n ∧ vMin (rCut P S th) (fun _ => true) (sOwedAll P S) n ≤ 45 :=
  vMin_rng (sOwedAll_rng hP hS) (fun i => (rCut_rng hP hS th i).1) n

set_option maxHeartbeats 4000000 in
set_option maxRecDepth 100000 in
theorem q_serves {G : aG} {Z : aZ} {Y : aY} {l c : Int} (hc : 0 ≤ c ∧ c < Z 62 1) (hl : 0 ≤ l ∧ l ≤ 1) (hB : aB Z) (hP : okP (vQ Z)) (hS : okS (vQ Z) (vR Z l)) (hd : Z 69 (16 * l + 15) ≤ 5000) : aSi G yX10_serves cX10_serves 5 (some .int) 3 71 [.ref (G.1 62), .int (aI l), .int (aI c)] Z Y (sServs (vQ Z) (vR Z l) c (vR Z l c)) := by
  refine aS.of (own := RX10) (by decide +kernel) rfl 2 (Nat.le_of_ble_eq_true rfl) (fun X hX hE => ?_)
  show AW X G 0 [some (.ref (G.1 62)), some (.int (aI l)), some (.int (aI c)), none, none] [] Z Y
  have hfQ := fQ hP
  have hfR := fR hS
  refine a_iconst hX dX10_serves_0 (pc' := 1) rfl ?_
  refine a_istore3 hX rfl (by decide) rfl dX10_serves_1 (pc' := 2) rfl ?_
  refine a_iconst hX dX10_serves_2 (pc' := 3) rfl ?_
  refine a_istore4 hX (by decide) rfl dX10_serves_3 (pc' := 5) rfl ?_
  have L5 : ∀ (n : Nat) (i : Int), (0 ≤ i ∧ i ≤ Z 62 2) → (Z 62 2 - i).toNat < n → AW X G 5 [some (.ref (G.1 62)), some (.int (aI l)), some (.int (aI c)), some (.int (aI (aBits (sServ (vQ Z) (vR Z l) c (vR Z l c)) i.toNat))), some (.int (aI i))] [] Z Y := by
    intro n
    induction n with
    | zero =>
      intro i hi hn
      omega
    | succ n ih =>
      intro i hi hn
      have hz := aBits_rng (sServ (vQ Z) (vR Z l) c (vR Z l c)) i.toNat
      refine a_iload hX rfl dX10_serves_5 (pc' := 7) rfl ?_
      refine a_aload_n hX rfl rfl dX10_serves_7 (pc' := 8) rfl ?_
      refine a_getfI hX (ji := 2) rfl hB fl_X10_108 rfl (by decide) rfl dX10_serves_8 (pc' := 11) rfl (fun hb => ?_)
      refine a_icmp_ge hX (by omega) (by omega) dX10_serves_11 (pc' := 14) rfl (tgt := 42) (by decide) (fun c11 => ?_) (fun c11 => ?_)
      · refine a_iload_n hX rfl rfl dX10_serves_42 (pc' := 43) rfl ?_
        refine a_iret hX dX10_serves_43 (hE _ _ _ ?_)
        obtain rfl : i = Z 62 2 := by omega
        refine ⟨aLf ?_, rfl, rfl⟩
        unfold sServs
        rw [vQ_2]
      · refine a_iload_n hX rfl rfl dX10_serves_14 (pc' := 15) rfl ?_
        refine a_aload_n hX rfl rfl dX10_serves_15 (pc' := 16) rfl ?_
        refine a_iload_n hX rfl rfl dX10_serves_16 (pc' := 17) rfl ?_
        refine a_iload_n hX rfl rfl dX10_serves_17 (pc' := 18) rfl ?_
        refine a_iload hX rfl dX10_serves_18 (pc' := 20) rfl ?_
        refine a_cV3i hX cv_X10_145 (q_canServe (by omega) (by omega) hl hB hP hS hd) rfl (by decide) ⟨by decide, by decide⟩ (Nat.le_of_ble_eq_true rfl) dX10_serves_20 (pc' := 23) rfl ?_
        refine a_ifb_eq hX dX10_serves_23 (pc' := 26) rfl (tgt := 33) (by decide) (fun c23 => ?_) (fun c23 => ?_)
        · refine a_iconst hX dX10_serves_33 (pc' := 34) rfl ?_
          refine a_ior hX (by omega) (by omega) dX10_serves_34 (pc' := 35) rfl ?_
          refine a_istore3 hX rfl (by decide) rfl dX10_serves_35 (pc' := 36) rfl ?_
          refine a_iinc4 hX (by decide) rfl dX10_serves_36 (pc' := 39) rfl ?_
          refine a_goto hX dX10_serves_39 (tgt := 5) (by decide) ?_
          have e0 := aBits_s (f := (sServ (vQ Z) (vR Z l) c (vR Z l c))) hi.1
          first | rw [if_pos c23] at e0 | rw [if_neg (by rw [c23]; decide)] at e0
          have H := ih (i + 1) (by omega) (by omega)
          rw [e0] at H
          first | exact H | (rw [aTwo]; exact H) | (rw [aOr_0 hz.1]; exact H)
        · have hw := aPow2 (p := i) (by omega)
          refine a_iconst hX dX10_serves_26 (pc' := 27) rfl ?_
          refine a_iload hX rfl dX10_serves_27 (pc' := 29) rfl ?_
          refine a_ishl hX (by omega) (by omega) (by omega) dX10_serves_29 (pc' := 30) rfl ?_
          refine a_goto hX dX10_serves_30 (tgt := 34) (by decide) ?_
          refine a_ior hX (by omega) (by omega) dX10_serves_34 (pc' := 35) rfl ?_
          refine a_istore3 hX rfl (by decide) rfl dX10_serves_35 (pc' := 36) rfl ?_
          refine a_iinc4 hX (by decide) rfl dX10_serves_36 (pc' := 39) rfl ?_
          refine a_goto hX dX10_serves_39 (tgt := 5) (by decide) ?_
          have e0 := aBits_s (f := (sServ (vQ Z) (vR Z l) c (vR Z l c))) hi.1
          first | rw [if_pos c23] at e0 | rw [if_neg (by rw [c23]; decide)] at e0
          have H := ih (i + 1) (by omega) (by omega)
          rw [e0] at H
          first | exact H | (rw [aTwo]; exact H) | (rw [aOr_0 hz.1]; exact H)
  exact L5 6 0 (by omega) (by omega)

set_option maxHeartbeats 4000000 in
set_option maxRecDepth 100000 in
theorem q_fallsOn {G : aG} {Z : aZ} {Y : aY} {c : Int} (hc : 0 ≤ c ∧ c < Z 62 1) (hB : aB Z) (hP : okP (vQ Z)) (hS : okS (vQ Z) (vR Z 0)) (hd : Z 69 15 ≤ 5000) : aSi G yX10_fallsOn cX10_fallsOn 4 (some .int) 3 70 [.ref (G.1 62), .int (aI c)] Z Y (aBits (sCan (vQ Z) (vR Z 0) c) (vQ Z 0 2).toNat) := by
  refine aS.of (own := RX10) (by decide +kernel) rfl 2 (Nat.le_of_ble_eq_true rfl) (fun X hX hE => ?_)
  show AW X G 0 [some (.ref (G.1 62)), some (.int (aI c)), none, none] [] Z Y
  have hfQ := fQ hP
  have hfR := fR hS
  have hfR1 : 0 ≤ Z 69 15 := hfR.2.2
  have hfR2 : 0 ≤ Z 69 13 ∧ Z 69 13 < 32 := hfR.1
  refine a_iconst hX dX10_fallsOn_0 (pc' := 1) rfl ?_
  refine a_istore2 hX rfl (by decide) rfl dX10_fallsOn_1 (pc' := 2) rfl ?_
  refine a_iconst hX dX10_fallsOn_2 (pc' := 3) rfl ?_
  refine a_istore3 hX rfl (by decide) rfl dX10_fallsOn_3 (pc' := 4) rfl ?_
  have L4 : ∀ (n : Nat) (i : Int), (0 ≤ i ∧ i ≤ Z 62 2) → (Z 62 2 - i).toNat < n → AW X G 4 [some (.ref (G.1 62)), some (.int (aI c)), some (.int (aI (aBits (sCan (vQ Z) (vR Z 0) c) i.toNat))), some (.int (aI i))] [] Z Y := by
    intro n
    induction n with
    | zero =>
      intro i hi hn
      omega
    | succ n ih =>
      intro i hi hn
      have hz := aBits_rng (sCan (vQ Z) (vR Z 0) c) i.toNat
      refine a_iload_n hX rfl rfl dX10_fallsOn_4 (pc' := 5) rfl ?_
      refine a_aload_n hX rfl rfl dX10_fallsOn_5 (pc' := 6) rfl ?_
      refine a_getfI hX (ji := 2) rfl hB fl_X10_108 rfl (by decide) rfl dX10_fallsOn_6 (pc' := 9) rfl (fun hb => ?_)
      refine a_icmp_ge hX (by omega) (by omega) dX10_fallsOn_9 (pc' := 12) rfl (tgt := 38) (by decide) (fun c9 => ?_) (fun c9 => ?_)
      · refine a_iload_n hX rfl rfl dX10_fallsOn_38 (pc' := 39) rfl ?_
        refine a_iret hX dX10_fallsOn_39 (hE _ _ _ ?_)
        obtain rfl : i = Z 62 2 := by omega
        refine ⟨aLf ?_, rfl, rfl⟩
        rw [vQ_2]
      · refine a_iload_n hX rfl rfl dX10_fallsOn_12 (pc' := 13) rfl ?_
        refine a_aload_n hX rfl rfl dX10_fallsOn_13 (pc' := 14) rfl ?_
        refine a_iconst hX dX10_fallsOn_14 (pc' := 15) rfl ?_
        refine a_iload_n hX rfl rfl dX10_fallsOn_15 (pc' := 16) rfl ?_
        refine a_iload_n hX rfl rfl dX10_fallsOn_16 (pc' := 17) rfl ?_
        refine a_cV3i hX cv_X10_149 (q_canFall (by omega) (by omega) (by omega) hB hP hS hd) rfl (by decide) ⟨by decide, by decide⟩ (Nat.le_of_ble_eq_true rfl) dX10_fallsOn_17 (pc' := 20) rfl ?_
        rw [qHasC_of hc, qHasP_of (p := i) (by omega), Bool.true_and, Bool.true_and]
        refine a_ifb_eq hX dX10_fallsOn_20 (pc' := 23) rfl (tgt := 29) (by decide) (fun c20 => ?_) (fun c20 => ?_)
        · refine a_iconst hX dX10_fallsOn_29 (pc' := 30) rfl ?_
          refine a_ior hX (by omega) (by omega) dX10_fallsOn_30 (pc' := 31) rfl ?_
          refine a_istore2 hX rfl (by decide) rfl dX10_fallsOn_31 (pc' := 32) rfl ?_
          refine a_iinc3 hX (by decide) rfl dX10_fallsOn_32 (pc' := 35) rfl ?_
          refine a_goto hX dX10_fallsOn_35 (tgt := 4) (by decide) ?_
          have e0 := aBits_s (f := (sCan (vQ Z) (vR Z 0) c)) hi.1
          first | rw [if_pos c20] at e0 | rw [if_neg (by rw [c20]; decide)] at e0
          have H := ih (i + 1) (by omega) (by omega)
          rw [e0] at H
          first | exact H | (rw [aTwo]; exact H) | (rw [aOr_0 hz.1]; exact H)
        · have hw := aPow2 (p := i) (by omega)
          refine a_iconst hX dX10_fallsOn_23 (pc' := 24) rfl ?_
          refine a_iload_n hX rfl rfl dX10_fallsOn_24 (pc' := 25) rfl ?_
          refine a_ishl hX (by omega) (by omega) (by omega) dX10_fallsOn_25 (pc' := 26) rfl ?_
          refine a_goto hX dX10_fallsOn_26 (tgt := 30) (by decide) ?_
          refine a_ior hX (by omega) (by omega) dX10_fallsOn_30 (pc' := 31) rfl ?_
          refine a_istore2 hX rfl (by decide) rfl dX10_fallsOn_31 (pc' := 32) rfl ?_
          refine a_iinc3 hX (by decide) rfl dX10_fallsOn_32 (pc' := 35) rfl ?_
          refine a_goto hX dX10_fallsOn_35 (tgt := 4) (by decide) ?_
          have e0 := aBits_s (f := (sCan (vQ Z) (vR Z 0) c)) hi.1
          first | rw [if_pos c20] at e0 | rw [if_neg (by rw [c20]; decide)] at e0
          have H := ih (i + 1) (by omega) (by omega)
          rw [e0] at H
          first | exact H | (rw [aTwo]; exact H) | (rw [aOr_0 hz.1]; exact H)
  exact L4 6 0 (by omega) (by omega)

set_option maxHeartbeats 4000000 in
set_option maxRecDepth 100000 in
theorem q_mostOn {G : aG} {Z : aZ} {Y : aY} {l : Int} (hT : 0 ≤ Z 62 20 ∧ Z 62 20 < 16) (hl : 0 ≤ l ∧ l ≤ 1) (hB : aB Z) (hP : okP (vQ Z)) (hS : okS (vQ Z) (vR Z l)) (hd : Z 69 (16 * l + 15) ≤ 5000) : aSI G yX10_mostOn cX10_mostOn 7 (some .int) 4 95 [.ref (G.1 62), .int (aI l)] Z Y (fun x Z' Y' => x = rMost (vQ Z) (vR Z l) (Z 62 20) ∧ (∀ a : Nat, a ≠ 74 → Z' a = Z a) ∧ aB Z' ∧ Y' = Y) := by
  refine aS.of (own := RX10) (by decide +kernel) rfl 5 (Nat.le_of_ble_eq_true rfl) (fun X hX hE => ?_)
  show AW X G 0 [some (.ref (G.1 62)), some (.int (aI l)), none, none, none, none, none] [] Z Y
  have hfQ := fQ hP
  have hfR := fR hS
  refine a_iconst hX dX10_mostOn_0 (pc' := 1) rfl ?_
  refine a_istore2 hX rfl (by decide) rfl dX10_mostOn_1 (pc' := 2) rfl ?_
  have L2 : ∀ (n : Nat) (i : Int) (Z1 : aZ), (0 ≤ i ∧ i ≤ Z 62 1) → aB Z1 → (∀ c : Int, 0 ≤ c ∧ c < i → Z1 74 c = rSv (vQ Z) (vR Z l) (Z 62 20) c) → (∀ a : Nat, a ≠ 74 → Z1 a = Z a) → (Z 62 1 - i).toNat < n → AW X G 2 [some (.ref (G.1 62)), some (.int (aI l)), some (.int (aI i)), none, none, none, none] [] Z1 Y := by
    intro n
    induction n with
    | zero =>
      intro i Z1 hi hB hsv hz1 hn
      omega
    | succ n ih =>
      intro i Z1 hi hB hsv hz1 hn
      have f62 : Z1 62 = Z 62 := hz1 62 (by omega)
      have f621 : Z1 62 1 = Z 62 1 := by rw [f62]
      have eQ1 : vQ Z1 = vQ Z := vQ_eq (fun a ha => hz1 a (by omega))
      have eR1 : vR Z1 l = vR Z l := vR_eq l (by rw [f62]) (hz1 69 (by omega))
      have hP1 : okP (vQ Z1) := by rw [eQ1]; exact hP
      have hS1 : okS (vQ Z1) (vR Z1 l) := by rw [eQ1, eR1]; exact hS
      have hd1 : Z1 69 (16 * l + 15) ≤ 5000 := by rw [hz1 69 (by omega)]; exact hd
      have hnc : 0 ≤ Z1 62 1 ∧ Z1 62 1 ≤ 4 := by rw [f62]; exact hfQ.2.1
      have hT1 : 0 ≤ Z1 62 20 ∧ Z1 62 20 < 16 := by rw [f62]; exact hT
      refine a_iload_n hX rfl rfl dX10_mostOn_2 (pc' := 3) rfl ?_
      refine a_aload_n hX rfl rfl dX10_mostOn_3 (pc' := 4) rfl ?_
      refine a_getfI hX (ji := 1) rfl hB fl_X10_105 rfl (by decide) rfl dX10_mostOn_4 (pc' := 7) rfl (fun hb => ?_)
      refine a_icmp_ge hX (by omega) (by omega) dX10_mostOn_7 (pc' := 10) rfl (tgt := 43) (by decide) (fun c7 => ?_) (fun c7 => ?_)
      · have hsv2 : ∀ c : Int, 0 ≤ c ∧ c < Z1 62 1 → Z1 74 c = rSv (vQ Z) (vR Z l) (Z 62 20) c := fun c hc => hsv c (by omega)
        refine a_aload_n hX rfl rfl dX10_mostOn_43 (pc' := 44) rfl ?_
        refine a_iload_n hX rfl rfl dX10_mostOn_44 (pc' := 45) rfl ?_
        refine a_cV1i hX cv_X10_155 (q_owedInAll hl hB hP1 hS1 hd1) rfl (by decide) ⟨by decide, by decide⟩ (Nat.le_of_ble_eq_true rfl) dX10_mostOn_45 (pc' := 48) rfl ?_
        rw [eQ1, eR1]
        refine a_istore2 hX rfl (by decide) rfl dX10_mostOn_48 (pc' := 49) rfl ?_
        have htw := aTwo4 (n := (Z1 62 1).toNat) (by omega)
        have hts := aPow_pos (Z1 62 1).toNat
        refine a_iconst hX dX10_mostOn_49 (pc' := 50) rfl ?_
        refine a_istore3 hX rfl (by decide) rfl dX10_mostOn_50 (pc' := 51) rfl ?_
        have L51 : ∀ (n : Nat) (s : Int), (0 ≤ s ∧ s ≤ 2 ^ (Z1 62 1).toNat) → (2 ^ (Z1 62 1).toNat - s).toNat < n → AW X G 51 [some (.ref (G.1 62)), some (.int (aI l)), some (.int (aI (vMin (rCut (vQ Z) (vR Z l) (Z 62 20)) (fun _ => true) (sOwedAll (vQ Z) (vR Z l)) s.toNat))), some (.int (aI s)), none, none, none] [] Z1 Y := by
          intro n
          induction n with
          | zero =>
            intro s hs hn
            omega
          | succ n ih =>
            intro s hs hn
            refine a_iload_n hX rfl rfl dX10_mostOn_51 (pc' := 52) rfl ?_
            refine a_iconst hX dX10_mostOn_52 (pc' := 53) rfl ?_
            refine a_aload_n hX rfl rfl dX10_mostOn_53 (pc' := 54) rfl ?_
            refine a_getfI hX (ji := 1) rfl hB fl_X10_105 rfl (by decide) rfl dX10_mostOn_54 (pc' := 57) rfl (fun hb => ?_)
            refine a_ishl hX (by omega) (by omega) (by omega) dX10_mostOn_57 (pc' := 58) rfl ?_
            refine a_icmp_ge hX (by omega) (by omega) dX10_mostOn_58 (pc' := 61) rfl (tgt := 168) (by decide) (fun c58 => ?_) (fun c58 => ?_)
            · rw [aTwo] at c58
              refine a_iload_n hX rfl rfl dX10_mostOn_168 (pc' := 169) rfl ?_
              refine a_iret hX dX10_mostOn_169 (hE _ _ _ ?_)
              refine ⟨_, rfl, ?_, hz1, hB, rfl⟩
              unfold rMost
              rw [show s = 2 ^ (Z1 62 1).toNat by omega, vQ_1, ← f62]
              congr 1
            · rw [aTwo] at c58
              refine a_iconst hX dX10_mostOn_61 (pc' := 62) rfl ?_
              refine a_istore4 hX (by decide) rfl dX10_mostOn_62 (pc' := 64) rfl ?_
              refine a_iconst hX dX10_mostOn_64 (pc' := 65) rfl ?_
              refine a_istore5 hX (by decide) rfl dX10_mostOn_65 (pc' := 67) rfl ?_
              refine a_iconst hX dX10_mostOn_67 (pc' := 68) rfl ?_
              refine a_istore6 hX (by decide) rfl dX10_mostOn_68 (pc' := 70) rfl ?_
              have L70 : ∀ (m : Nat) (i : Int), (0 ≤ i ∧ i ≤ Z1 62 1) → (Z1 62 1 - i).toNat < m → AW X G 70 [some (.ref (G.1 62)), some (.int (aI l)), some (.int (aI (vMin (rCut (vQ Z) (vR Z l) (Z 62 20)) (fun _ => true) (sOwedAll (vQ Z) (vR Z l)) s.toNat))), some (.int (aI s)), some (.int (aI (rCost (vQ Z) (vR Z l) (Z 62 20) s i.toNat))), some (.int (aI (rReach (vQ Z) (vR Z l) (Z 62 20) s i.toNat))), some (.int (aI i))] [] Z1 Y := by
                intro m
                induction m with
                | zero =>
                  intro i hi hm
                  omega
                | succ m ih2 =>
                  intro i hi hm
                  have hrr := rReach_rng hP (vR Z l) (Z 62 20) s i.toNat
                  have hsi : 0 ≤ Z1 74 i ∨ i = Z1 62 1 := by
                    by_cases e : i = Z1 62 1
                    · exact Or.inr e
                    · refine Or.inl ?_
                      rw [hsv2 i (by omega)]
                      exact (rSv_rng hP (vR Z l) (Z 62 20) i).1
                  refine a_iload hX rfl dX10_mostOn_70 (pc' := 72) rfl ?_
                  refine a_aload_n hX rfl rfl dX10_mostOn_72 (pc' := 73) rfl ?_
                  refine a_getfI hX (ji := 1) rfl hB fl_X10_105 rfl (by decide) rfl dX10_mostOn_73 (pc' := 76) rfl (fun hb => ?_)
                  refine a_icmp_ge hX (by omega) (by omega) dX10_mostOn_76 (pc' := 79) rfl (tgt := 147) (by decide) (fun c76 => ?_) (fun c76 => ?_)
                  · refine a_iload_n hX rfl rfl dX10_mostOn_147 (pc' := 148) rfl ?_
                    refine a_iload hX rfl dX10_mostOn_148 (pc' := 150) rfl ?_
                    refine a_aload_n hX rfl rfl dX10_mostOn_150 (pc' := 151) rfl ?_
                    refine a_iload_n hX rfl rfl dX10_mostOn_151 (pc' := 152) rfl ?_
                    refine a_iload hX rfl dX10_mostOn_152 (pc' := 154) rfl ?_
                    refine a_cV2i hX cv_X10_158 (q_owedBy (by have := rReach_rng hP (vR Z l) (Z 62 20) s i.toNat; omega) hl hB hP1 hS1 hd1) rfl (by decide) ⟨by decide, by decide⟩ (Nat.le_of_ble_eq_true rfl) dX10_mostOn_154 (pc' := 157) rfl ?_
                    rw [eQ1, eR1]
                    refine a_iadd hX dX10_mostOn_157 (pc' := 158) rfl ?_
                    have hcut : rCost (vQ Z) (vR Z l) (Z 62 20) s i.toNat + sOwedBy (vQ Z) (vR Z l) (rReach (vQ Z) (vR Z l) (Z 62 20) s i.toNat) = rCut (vQ Z) (vR Z l) (Z 62 20) s := by
                      unfold rCut
                      rw [show i = Z1 62 1 by omega, f621, vQ_1]
                    rw [hcut]
                    refine a_cS2i hX cs_X10_161 (q_lesser (by have := rMin_rng hP hS (Z 62 20) s.toNat; omega) (by have := rCut_rng hP hS (Z 62 20) s; omega)) ⟨by decide, by decide⟩ (Nat.le_of_ble_eq_true rfl) dX10_mostOn_158 (pc' := 161) rfl ?_
                    refine a_istore2 hX rfl (by decide) rfl dX10_mostOn_161 (pc' := 162) rfl ?_
                    refine a_iinc3 hX (by decide) rfl dX10_mostOn_162 (pc' := 165) rfl ?_
                    refine a_goto hX dX10_mostOn_165 (tgt := 51) (by decide) ?_
                    have H := ih (s + 1) (by omega) (by omega)
                    rw [vMin_s (by omega), if_pos rfl] at H
                    refine AW.le ?_ H
                    exact ⟨rfl, rfl, rfl, rfl, trivial⟩
                  · refine a_iload hX rfl dX10_mostOn_79 (pc' := 81) rfl ?_
                    refine a_iload_n hX rfl rfl dX10_mostOn_81 (pc' := 82) rfl ?_
                    refine a_iload hX rfl dX10_mostOn_82 (pc' := 84) rfl ?_
                    refine a_cS2i hX cs_X10_114 (q_has (by omega) (by omega)) ⟨by decide, by decide⟩ (Nat.le_of_ble_eq_true rfl) dX10_mostOn_84 (pc' := 87) rfl ?_
                    refine a_ifb_eq hX dX10_mostOn_87 (pc' := 90) rfl (tgt := 112) (by decide) (fun c87 => ?_) (fun c87 => ?_)
                    · refine a_iconst hX dX10_mostOn_112 (pc' := 113) rfl ?_
                      refine a_iadd hX dX10_mostOn_113 (pc' := 114) rfl ?_
                      refine a_istore4 hX (by decide) rfl dX10_mostOn_114 (pc' := 116) rfl ?_
                      refine a_iload hX rfl dX10_mostOn_116 (pc' := 118) rfl ?_
                      refine a_iload_n hX rfl rfl dX10_mostOn_118 (pc' := 119) rfl ?_
                      refine a_iload hX rfl dX10_mostOn_119 (pc' := 121) rfl ?_
                      refine a_cS2i hX cs_X10_114 (q_has (by omega) (by omega)) ⟨by decide, by decide⟩ (Nat.le_of_ble_eq_true rfl) dX10_mostOn_121 (pc' := 124) rfl ?_
                      refine a_ifb_eq hX dX10_mostOn_124 (pc' := 127) rfl (tgt := 131) (by decide) (fun c124 => ?_) (fun c124 => ?_)
                      · refine a_aload_n hX rfl rfl dX10_mostOn_131 (pc' := 132) rfl ?_
                        refine a_getfR hX (r := 74) fl_X10_47 rfl (by decide) rfl dX10_mostOn_132 (pc' := 135) rfl ?_
                        refine a_iload hX rfl dX10_mostOn_135 (pc' := 137) rfl ?_
                        refine a_iald hX rfl (by decide) (by decide) (by omega) hB dX10_mostOn_137 (pc' := 138) rfl (fun hb => ?_)
                        refine a_ior hX (by omega) (by omega) dX10_mostOn_138 (pc' := 139) rfl ?_
                        refine a_istore5 hX (by decide) rfl dX10_mostOn_139 (pc' := 141) rfl ?_
                        refine a_iinc6 hX (by decide) rfl dX10_mostOn_141 (pc' := 144) rfl ?_
                        refine a_goto hX dX10_mostOn_144 (tgt := 70) (by decide) ?_
                        have H := ih2 (i + 1) (by omega) (by omega)
                        have e1 : rCost (vQ Z) (vR Z l) (Z 62 20) s (i + 1).toNat = rCost (vQ Z) (vR Z l) (Z 62 20) s i.toNat + (if aBit s i = true ∧ aBit (Z 62 20) i = true then sHas (vQ Z) (vR Z l) i else 0) := aSum_s hi.1
                        have e2 : rReach (vQ Z) (vR Z l) (Z 62 20) s (i + 1).toNat = aOr (rReach (vQ Z) (vR Z l) (Z 62 20) s i.toNat) (if aBit s i = true then 0 else rSv (vQ Z) (vR Z l) (Z 62 20) i) := aOrs_s hi.1
                        rw [e1, e2] at H
                        first
                          | exact Bool.noConfusion (c87.symm.trans c124)
                          | exact Bool.noConfusion (c124.symm.trans c87)
                          | (first
                               | (rw [f62] at c99; simp only [c87, c99, and_self, and_true, true_and, and_false, Bool.false_eq_true, ↓reduceIte] at H)
                               | simp only [c87, false_and, Bool.false_eq_true, ↓reduceIte] at H
                             first | exact H | (rw [← hsv2 i (by omega)] at H; exact H))
                      · refine a_iconst hX dX10_mostOn_127 (pc' := 128) rfl ?_
                        refine a_goto hX dX10_mostOn_128 (tgt := 138) (by decide) ?_
                        refine a_ior hX (by omega) (by omega) dX10_mostOn_138 (pc' := 139) rfl ?_
                        refine a_istore5 hX (by decide) rfl dX10_mostOn_139 (pc' := 141) rfl ?_
                        refine a_iinc6 hX (by decide) rfl dX10_mostOn_141 (pc' := 144) rfl ?_
                        refine a_goto hX dX10_mostOn_144 (tgt := 70) (by decide) ?_
                        have H := ih2 (i + 1) (by omega) (by omega)
                        have e1 : rCost (vQ Z) (vR Z l) (Z 62 20) s (i + 1).toNat = rCost (vQ Z) (vR Z l) (Z 62 20) s i.toNat + (if aBit s i = true ∧ aBit (Z 62 20) i = true then sHas (vQ Z) (vR Z l) i else 0) := aSum_s hi.1
                        have e2 : rReach (vQ Z) (vR Z l) (Z 62 20) s (i + 1).toNat = aOr (rReach (vQ Z) (vR Z l) (Z 62 20) s i.toNat) (if aBit s i = true then 0 else rSv (vQ Z) (vR Z l) (Z 62 20) i) := aOrs_s hi.1
                        rw [e1, e2] at H
                        first
                          | exact Bool.noConfusion (c87.symm.trans c124)
                          | exact Bool.noConfusion (c124.symm.trans c87)
                          | (first
                               | (rw [f62] at c99; simp only [c87, c99, and_self, and_true, true_and, and_false, Bool.false_eq_true, ↓reduceIte] at H)
                               | simp only [c87, false_and, Bool.false_eq_true, ↓reduceIte] at H
                             first | exact H | (rw [← hsv2 i (by omega)] at H; exact H))
                    · refine a_aload_n hX rfl rfl dX10_mostOn_90 (pc' := 91) rfl ?_
                      refine a_getfI hX (ji := 20) rfl hB fl_X10_43 rfl (by decide) rfl dX10_mostOn_91 (pc' := 94) rfl (fun hb => ?_)
                      refine a_iload hX rfl dX10_mostOn_94 (pc' := 96) rfl ?_
                      refine a_cS2i hX cs_X10_114 (q_has (by omega) (by omega)) ⟨by decide, by decide⟩ (Nat.le_of_ble_eq_true rfl) dX10_mostOn_96 (pc' := 99) rfl ?_
                      refine a_ifb_eq hX dX10_mostOn_99 (pc' := 102) rfl (tgt := 112) (by decide) (fun c99 => ?_) (fun c99 => ?_)
                      · refine a_iconst hX dX10_mostOn_112 (pc' := 113) rfl ?_
                        refine a_iadd hX dX10_mostOn_113 (pc' := 114) rfl ?_
                        refine a_istore4 hX (by decide) rfl dX10_mostOn_114 (pc' := 116) rfl ?_
                        refine a_iload hX rfl dX10_mostOn_116 (pc' := 118) rfl ?_
                        refine a_iload_n hX rfl rfl dX10_mostOn_118 (pc' := 119) rfl ?_
                        refine a_iload hX rfl dX10_mostOn_119 (pc' := 121) rfl ?_
                        refine a_cS2i hX cs_X10_114 (q_has (by omega) (by omega)) ⟨by decide, by decide⟩ (Nat.le_of_ble_eq_true rfl) dX10_mostOn_121 (pc' := 124) rfl ?_
                        refine a_ifb_eq hX dX10_mostOn_124 (pc' := 127) rfl (tgt := 131) (by decide) (fun c124 => ?_) (fun c124 => ?_)
                        · refine a_aload_n hX rfl rfl dX10_mostOn_131 (pc' := 132) rfl ?_
                          refine a_getfR hX (r := 74) fl_X10_47 rfl (by decide) rfl dX10_mostOn_132 (pc' := 135) rfl ?_
                          refine a_iload hX rfl dX10_mostOn_135 (pc' := 137) rfl ?_
                          refine a_iald hX rfl (by decide) (by decide) (by omega) hB dX10_mostOn_137 (pc' := 138) rfl (fun hb => ?_)
                          refine a_ior hX (by omega) (by omega) dX10_mostOn_138 (pc' := 139) rfl ?_
                          refine a_istore5 hX (by decide) rfl dX10_mostOn_139 (pc' := 141) rfl ?_
                          refine a_iinc6 hX (by decide) rfl dX10_mostOn_141 (pc' := 144) rfl ?_
                          refine a_goto hX dX10_mostOn_144 (tgt := 70) (by decide) ?_
                          have H := ih2 (i + 1) (by omega) (by omega)
                          have e1 : rCost (vQ Z) (vR Z l) (Z 62 20) s (i + 1).toNat = rCost (vQ Z) (vR Z l) (Z 62 20) s i.toNat + (if aBit s i = true ∧ aBit (Z 62 20) i = true then sHas (vQ Z) (vR Z l) i else 0) := aSum_s hi.1
                          have e2 : rReach (vQ Z) (vR Z l) (Z 62 20) s (i + 1).toNat = aOr (rReach (vQ Z) (vR Z l) (Z 62 20) s i.toNat) (if aBit s i = true then 0 else rSv (vQ Z) (vR Z l) (Z 62 20) i) := aOrs_s hi.1
                          rw [e1, e2] at H
                          first
                            | exact Bool.noConfusion (c87.symm.trans c124)
                            | exact Bool.noConfusion (c124.symm.trans c87)
                            | (first
                                 | (rw [f62] at c99; simp only [c87, c99, and_self, and_true, true_and, and_false, Bool.false_eq_true, ↓reduceIte] at H)
                                 | simp only [c87, false_and, Bool.false_eq_true, ↓reduceIte] at H
                               first | exact H | (rw [← hsv2 i (by omega)] at H; exact H))
                        · refine a_iconst hX dX10_mostOn_127 (pc' := 128) rfl ?_
                          refine a_goto hX dX10_mostOn_128 (tgt := 138) (by decide) ?_
                          refine a_ior hX (by omega) (by omega) dX10_mostOn_138 (pc' := 139) rfl ?_
                          refine a_istore5 hX (by decide) rfl dX10_mostOn_139 (pc' := 141) rfl ?_
                          refine a_iinc6 hX (by decide) rfl dX10_mostOn_141 (pc' := 144) rfl ?_
                          refine a_goto hX dX10_mostOn_144 (tgt := 70) (by decide) ?_
                          have H := ih2 (i + 1) (by omega) (by omega)
                          have e1 : rCost (vQ Z) (vR Z l) (Z 62 20) s (i + 1).toNat = rCost (vQ Z) (vR Z l) (Z 62 20) s i.toNat + (if aBit s i = true ∧ aBit (Z 62 20) i = true then sHas (vQ Z) (vR Z l) i else 0) := aSum_s hi.1
                          have e2 : rReach (vQ Z) (vR Z l) (Z 62 20) s (i + 1).toNat = aOr (rReach (vQ Z) (vR Z l) (Z 62 20) s i.toNat) (if aBit s i = true then 0 else rSv (vQ Z) (vR Z l) (Z 62 20) i) := aOrs_s hi.1
                          rw [e1, e2] at H
                          first
                            | exact Bool.noConfusion (c87.symm.trans c124)
                            | exact Bool.noConfusion (c124.symm.trans c87)
                            | (first
                                 | (rw [f62] at c99; simp only [c87, c99, and_self, and_true, true_and, and_false, Bool.false_eq_true, ↓reduceIte] at H)
                                 | simp only [c87, false_and, Bool.false_eq_true, ↓reduceIte] at H
                               first | exact H | (rw [← hsv2 i (by omega)] at H; exact H))
                      · refine a_aload_n hX rfl rfl dX10_mostOn_102 (pc' := 103) rfl ?_
                        refine a_iload_n hX rfl rfl dX10_mostOn_103 (pc' := 104) rfl ?_
                        refine a_iload hX rfl dX10_mostOn_104 (pc' := 106) rfl ?_
                        refine a_cV2i hX cv_X10_128 (q_holds (by omega) hl hB hP1 hS1 hd1) rfl (by decide) ⟨by decide, by decide⟩ (Nat.le_of_ble_eq_true rfl) dX10_mostOn_106 (pc' := 109) rfl ?_
                        rw [eQ1, eR1]
                        refine a_goto hX dX10_mostOn_109 (tgt := 113) (by decide) ?_
                        refine a_iadd hX dX10_mostOn_113 (pc' := 114) rfl ?_
                        refine a_istore4 hX (by decide) rfl dX10_mostOn_114 (pc' := 116) rfl ?_
                        refine a_iload hX rfl dX10_mostOn_116 (pc' := 118) rfl ?_
                        refine a_iload_n hX rfl rfl dX10_mostOn_118 (pc' := 119) rfl ?_
                        refine a_iload hX rfl dX10_mostOn_119 (pc' := 121) rfl ?_
                        refine a_cS2i hX cs_X10_114 (q_has (by omega) (by omega)) ⟨by decide, by decide⟩ (Nat.le_of_ble_eq_true rfl) dX10_mostOn_121 (pc' := 124) rfl ?_
                        refine a_ifb_eq hX dX10_mostOn_124 (pc' := 127) rfl (tgt := 131) (by decide) (fun c124 => ?_) (fun c124 => ?_)
                        · refine a_aload_n hX rfl rfl dX10_mostOn_131 (pc' := 132) rfl ?_
                          refine a_getfR hX (r := 74) fl_X10_47 rfl (by decide) rfl dX10_mostOn_132 (pc' := 135) rfl ?_
                          refine a_iload hX rfl dX10_mostOn_135 (pc' := 137) rfl ?_
                          refine a_iald hX rfl (by decide) (by decide) (by omega) hB dX10_mostOn_137 (pc' := 138) rfl (fun hb => ?_)
                          refine a_ior hX (by omega) (by omega) dX10_mostOn_138 (pc' := 139) rfl ?_
                          refine a_istore5 hX (by decide) rfl dX10_mostOn_139 (pc' := 141) rfl ?_
                          refine a_iinc6 hX (by decide) rfl dX10_mostOn_141 (pc' := 144) rfl ?_
                          refine a_goto hX dX10_mostOn_144 (tgt := 70) (by decide) ?_
                          have H := ih2 (i + 1) (by omega) (by omega)
                          have e1 : rCost (vQ Z) (vR Z l) (Z 62 20) s (i + 1).toNat = rCost (vQ Z) (vR Z l) (Z 62 20) s i.toNat + (if aBit s i = true ∧ aBit (Z 62 20) i = true then sHas (vQ Z) (vR Z l) i else 0) := aSum_s hi.1
                          have e2 : rReach (vQ Z) (vR Z l) (Z 62 20) s (i + 1).toNat = aOr (rReach (vQ Z) (vR Z l) (Z 62 20) s i.toNat) (if aBit s i = true then 0 else rSv (vQ Z) (vR Z l) (Z 62 20) i) := aOrs_s hi.1
                          rw [e1, e2] at H
                          first
                            | exact Bool.noConfusion (c87.symm.trans c124)
                            | exact Bool.noConfusion (c124.symm.trans c87)
                            | (first
                                 | (rw [f62] at c99; simp only [c87, c99, and_self, and_true, true_and, and_false, Bool.false_eq_true, ↓reduceIte] at H)
                                 | simp only [c87, false_and, Bool.false_eq_true, ↓reduceIte] at H
                               first | exact H | (rw [← hsv2 i (by omega)] at H; exact H))
                        · refine a_iconst hX dX10_mostOn_127 (pc' := 128) rfl ?_
                          refine a_goto hX dX10_mostOn_128 (tgt := 138) (by decide) ?_
                          refine a_ior hX (by omega) (by omega) dX10_mostOn_138 (pc' := 139) rfl ?_
                          refine a_istore5 hX (by decide) rfl dX10_mostOn_139 (pc' := 141) rfl ?_
                          refine a_iinc6 hX (by decide) rfl dX10_mostOn_141 (pc' := 144) rfl ?_
                          refine a_goto hX dX10_mostOn_144 (tgt := 70) (by decide) ?_
                          have H := ih2 (i + 1) (by omega) (by omega)
                          have e1 : rCost (vQ Z) (vR Z l) (Z 62 20) s (i + 1).toNat = rCost (vQ Z) (vR Z l) (Z 62 20) s i.toNat + (if aBit s i = true ∧ aBit (Z 62 20) i = true then sHas (vQ Z) (vR Z l) i else 0) := aSum_s hi.1
                          have e2 : rReach (vQ Z) (vR Z l) (Z 62 20) s (i + 1).toNat = aOr (rReach (vQ Z) (vR Z l) (Z 62 20) s i.toNat) (if aBit s i = true then 0 else rSv (vQ Z) (vR Z l) (Z 62 20) i) := aOrs_s hi.1
                          rw [e1, e2] at H
                          first
                            | exact Bool.noConfusion (c87.symm.trans c124)
                            | exact Bool.noConfusion (c124.symm.trans c87)
                            | (first
                                 | (rw [f62] at c99; simp only [c87, c99, and_self, and_true, true_and, and_false, Bool.false_eq_true, ↓reduceIte] at H)
                                 | simp only [c87, false_and, Bool.false_eq_true, ↓reduceIte] at H
                               first | exact H | (rw [← hsv2 i (by omega)] at H; exact H))
              exact L70 5 0 (by omega) (by omega)
        exact L51 17 0 (by omega) (by omega)
      · refine a_aload_n hX rfl rfl dX10_mostOn_10 (pc' := 11) rfl ?_
        refine a_getfR hX (r := 74) fl_X10_47 rfl (by decide) rfl dX10_mostOn_11 (pc' := 14) rfl ?_
        refine a_iload_n hX rfl rfl dX10_mostOn_14 (pc' := 15) rfl ?_
        refine a_aload_n hX rfl rfl dX10_mostOn_15 (pc' := 16) rfl ?_
        refine a_getfI hX (ji := 20) rfl hB fl_X10_43 rfl (by decide) rfl dX10_mostOn_16 (pc' := 19) rfl (fun hb => ?_)
        refine a_iload_n hX rfl rfl dX10_mostOn_19 (pc' := 20) rfl ?_
        refine a_cS2i hX cs_X10_114 (q_has (by omega) (by omega)) ⟨by decide, by decide⟩ (Nat.le_of_ble_eq_true rfl) dX10_mostOn_20 (pc' := 23) rfl ?_
        refine a_ifb_eq hX dX10_mostOn_23 (pc' := 26) rfl (tgt := 35) (by decide) (fun c23 => ?_) (fun c23 => ?_)
        · refine a_iconst hX dX10_mostOn_35 (pc' := 36) rfl ?_
          refine a_iastB hX rfl (by decide) (by decide) (by omega) hB (by omega) dX10_mostOn_36 (pc' := 37) rfl (fun hB => ?_)
          refine a_iinc2 hX (by decide) rfl dX10_mostOn_37 (pc' := 40) rfl ?_
          refine a_goto hX dX10_mostOn_40 (tgt := 2) (by decide) ?_
          refine ih (i + 1) _ (by omega) hB (fun c hc => ?_) (fun a ha => by rw [aU_row ha]; exact hz1 a ha) (by omega)
          rw [aU_at]
          by_cases e : c = i
          · rw [if_pos e, e]
            unfold rSv
            rw [f62] at c23
            first | rw [if_pos c23] | rw [if_neg (by rw [c23]; decide)]
          · rw [if_neg e]; exact hsv c (by omega)
        · refine a_aload_n hX rfl rfl dX10_mostOn_26 (pc' := 27) rfl ?_
          refine a_iload_n hX rfl rfl dX10_mostOn_27 (pc' := 28) rfl ?_
          refine a_iload_n hX rfl rfl dX10_mostOn_28 (pc' := 29) rfl ?_
          refine a_cV2i hX cv_X10_152 (q_serves (by rw [f62]; omega) hl hB hP1 hS1 hd1) rfl (by decide) ⟨by decide, by decide⟩ (Nat.le_of_ble_eq_true rfl) dX10_mostOn_29 (pc' := 32) rfl ?_
          rw [eQ1, eR1]
          have hsr := sServs_rng hP (vR Z l) i (vR Z l i)
          refine a_goto hX dX10_mostOn_32 (tgt := 36) (by decide) ?_
          refine a_iastB hX rfl (by decide) (by decide) (by omega) hB (by omega) dX10_mostOn_36 (pc' := 37) rfl (fun hB => ?_)
          refine a_iinc2 hX (by decide) rfl dX10_mostOn_37 (pc' := 40) rfl ?_
          refine a_goto hX dX10_mostOn_40 (tgt := 2) (by decide) ?_
          refine ih (i + 1) _ (by omega) hB (fun c hc => ?_) (fun a ha => by rw [aU_row ha]; exact hz1 a ha) (by omega)
          rw [aU_at]
          by_cases e : c = i
          · rw [if_pos e, e]
            unfold rSv
            rw [f62] at c23
            first | rw [if_pos c23] | rw [if_neg (by rw [c23]; decide)]
          · rw [if_neg e]; exact hsv c (by omega)
  exact L2 5 0 Z (by omega) hB (fun c hc => by omega) (fun _ _ => rfl) (by omega)

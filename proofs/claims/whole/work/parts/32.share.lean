/-- what a cloud adds, over all orders -/
def vGain (nc np : Nat) (h cn ow : Int → Int) (c : Int) : Int := aSum (fun s => if aBit s c = true then 0 else aFac (aPop s).toNat * aFac ((nc : Int) - 1 - aPop s).toNat * (vFill nc np h cn ow (aOr s (2 ^ c.toNat)) - vFill nc np h cn ow s)) (2 ^ nc)
def sGain (P : aP) (S : aSk) (c : Int) : Int := vGain (P 0 1).toNat (P 0 2).toNat (sHas P S) (fun c => sServs P S c (S c)) (sOwed P S) c
theorem aFac_rng {n : Int} (h : n ≤ 4) : 1 ≤ aFac n.toNat ∧ aFac n.toNat ≤ 24 := by
  have : ∀ n : Nat, n ≤ 4 → 1 ≤ aFac n ∧ aFac n ≤ 24 := by decide
  exact this _ (by omega)
theorem vGain_rng {nc np : Nat} {h cn ow : Int → Int} (h1 : nc ≤ 4) (h2 : np ≤ 5) (hh : ∀ c : Int, 0 ≤ c ∧ c < nc → 0 ≤ h c ∧ h c ≤ 9) (hc : ∀ c : Int, 0 ≤ c ∧ c < nc → 0 ≤ cn c) (ho : ∀ p : Int, 0 ≤ p ∧ p < np → 0 ≤ ow p ∧ ow p ≤ 9) (c : Int) : 0 ≤ vGain nc np h cn ow c ∧ vGain nc np h cn ow c ≤ 1000000 := by
  unfold vGain
  have h16 : (2 : Nat) ^ nc ≤ 16 := by
    have : ∀ n : Nat, n ≤ 4 → (2 : Nat) ^ n ≤ 16 := by decide
    exact this nc h1
  have := aSum_rng (f := fun s => if aBit s c = true then 0 else aFac (aPop s).toNat * aFac ((nc : Int) - 1 - aPop s).toNat * (vFill nc np h cn ow (aOr s (2 ^ c.toNat)) - vFill nc np h cn ow s)) (a := 0) (b := 25920) (2 ^ nc) (fun s hs => by
    have hs16 : 0 ≤ s ∧ s < 16 := by omega
    have hp := aPop_rng hs16
    have f1 := aFac_rng (n := aPop s) hp.2
    have f2 := aFac_rng (n := (nc : Int) - 1 - aPop s) (by omega)
    have g1 := vFill_rng (cn := cn) h1 h2 hh ho s
    have g2 := vFill_rng (cn := cn) h1 h2 hh ho (aOr s (2 ^ c.toNat))
    have g3 := vFill_mono (fun c hcc => (hh c hcc).1) hc (fun p hp => (ho p hp).1) (pr := s) (pr' := aOr s (2 ^ c.toNat)) hs.1 (by unfold aOr; omega) (fun k hk hb => by
      rw [aBit_or k hs.1 (Int.le_of_lt (aPow_pos _)), hb, Bool.true_or])
    try dsimp only
    split
    · omega
    · have a1 : 0 ≤ aFac (aPop s).toNat * aFac ((nc : Int) - 1 - aPop s).toNat := Int.mul_nonneg (by omega) (by omega)
      have a2 : aFac (aPop s).toNat * aFac ((nc : Int) - 1 - aPop s).toNat ≤ 24 * 24 := Int.mul_le_mul f1.2 f2.2 (by omega) (by omega)
      refine ⟨Int.mul_nonneg a1 (by omega), ?_⟩
      exact Int.le_trans (Int.mul_le_mul a2 (show _ ≤ (45 : Int) by omega) (by omega) (by omega)) (by decide))
  omega
theorem vGain_congr {nc np : Nat} {h h' cn cn' ow ow' : Int → Int} (h1 : ∀ c : Int, 0 ≤ c ∧ c < nc → h c = h' c ∧ cn c = cn' c) (h2 : ∀ p : Int, 0 ≤ p ∧ p < np → ow p = ow' p) (c : Int) : vGain nc np h cn ow c = vGain nc np h' cn' ow' c :=
  aSum_congr _ (fun s _ => by rw [vFill_congr h1 h2, vFill_congr h1 h2])

set_option maxHeartbeats 4000000 in
set_option maxRecDepth 100000 in
theorem x_share {G : aG} {Z : aZ} {Y : aY} {c : Int} {u : Bool} (hc : -2147483648 ≤ c ∧ c < 2147483648) (hB : aB Z) (hP : okP (vP Z)) (hS : okS (vP Z) (vS Z 12)) (hd : Z 12 6 ≤ 5000) : aSI G yX9_share cX9_share 3 (some .int) 5 114 [.ref (G.1 0), .int (aI c), .int (aI (aTr u))] Z Y (fun x Z' Y' => x = (if pHasC (vP Z) c = true then sFrac (sGain (vP Z) (vS Z 12) c) (aFac (vP Z 0 1).toNat) u else -1) ∧ (∀ a : Nat, ¬ (39 ≤ a ∧ a ≤ 42) → Z' a = Z a) ∧ aB Z' ∧ Y' = Y) := by
  refine aS.of (own := RX9) (by decide +kernel) rfl 0 (Nat.le_of_ble_eq_true rfl) (fun X hX hE => ?_)
  show AW X G 0 [some (.ref (G.1 0)), some (.int (aI c)), some (.int (aI (aTr u)))] [] Z Y
  have hfP := fP hP
  have hfS := fS hS
  refine a_aload_n hX rfl rfl dX9_share_0 (pc' := 1) rfl ?_
  refine a_getfR hX (r := 3) fl_X9_19 rfl (by decide) rfl dX9_share_1 (pc' := 4) rfl ?_
  refine a_iload_n hX rfl rfl dX9_share_4 (pc' := 5) rfl ?_
  refine a_cV1i hX cv_X9_121 (c_hasCloud (by omega) hB hP) rfl (by decide) ⟨by decide, by decide⟩ (Nat.le_of_ble_eq_true rfl) dX9_share_5 (pc' := 8) rfl ?_
  refine a_ifb_ne hX dX9_share_8 (pc' := 11) rfl (tgt := 13) (by decide) (fun c8 => ?_) (fun c8 => ?_)
  · have hc1 := pHasC_no c8
    refine a_aload_n hX rfl rfl dX9_share_13 (pc' := 14) rfl ?_
    refine a_getfR hX (r := 39) fl_X9_52 rfl (by decide) rfl dX9_share_14 (pc' := 17) rfl ?_
    refine a_aload_n hX rfl rfl dX9_share_17 (pc' := 18) rfl ?_
    refine a_getfR hX (r := 12) fl_X9_28 rfl (by decide) rfl dX9_share_18 (pc' := 21) rfl ?_
    refine a_aload_n hX rfl rfl dX9_share_21 (pc' := 22) rfl ?_
    refine a_getfR hX (r := 3) fl_X9_19 rfl (by decide) rfl dX9_share_22 (pc' := 25) rfl ?_
    refine a_cV2V hX cv_X9_205 (c_look hB hP hS hd) rfl (by decide) ⟨by decide, by decide⟩ (Nat.le_of_ble_eq_true rfl) dX9_share_25 (pc' := 28) rfl (fun Z25 Y25 h25 => ?_)
    obtain ⟨v1, v2, v3, v4, hV, hz, hB, rfl⟩ := h25
    have two1 : (2 : Int) ^ (Z 3 9).toNat ≤ 16 := aTwo4 (by omega)
    have two0 := aPow_pos (Z 3 9).toNat
    have hGe : (vGain (Z25 39 4).toNat (Z25 39 5).toNat (Z25 40) (Z25 41) (Z25 42) c) = sGain (vP Z) (vS Z 12) c := by
      unfold sGain
      rw [v1, v2, vP_1, vP_2]
      refine vGain_congr (fun c hc => v3 c (by omega)) (fun p hp => v4 p (by omega)) _
    have hGr : 0 ≤ (vGain (Z25 39 4).toNat (Z25 39 5).toNat (Z25 40) (Z25 41) (Z25 42) c) ∧ (vGain (Z25 39 4).toNat (Z25 39 5).toNat (Z25 40) (Z25 41) (Z25 42) c) ≤ 1000000 := vGain_rng (by rw [v1]; omega) (by rw [v2]; omega) (fun c hc => hV.2.2.1 c (by omega)) (fun c hc => (hV.2.2.2.1 c (by omega)).1) (fun p hp => hV.2.2.2.2 p (by omega)) c
    have hFr : 0 < aFac (Z25 3 9).toNat ∧ aFac (Z25 3 9).toNat ≤ 1000000 := by
      have := aFac_rng (n := Z25 3 9) (by rw [hz 3 (by omega)]; omega)
      omega
    refine a_aload_n hX rfl rfl dX9_share_28 (pc' := 29) rfl ?_
    refine a_getfR hX (r := 39) fl_X9_52 rfl (by decide) rfl dX9_share_29 (pc' := 32) rfl ?_
    refine a_iload_n hX rfl rfl dX9_share_32 (pc' := 33) rfl ?_
    refine a_cV1i hX cv_X9_241 (c_gain (by rw [v1]; exact hc1) hB hV) rfl (by decide) ⟨by decide, by decide⟩ (Nat.le_of_ble_eq_true rfl) dX9_share_33 (pc' := 36) rfl ?_
    have eG : aSum (fun s => if aBit s c = true then 0 else aFac (aPop s).toNat * aFac (Z25 39 4 - 1 - aPop s).toNat * (vFill (Z25 39 4).toNat (Z25 39 5).toNat (Z25 40) (Z25 41) (Z25 42) (aOr s (2 ^ c.toNat)) - vFill (Z25 39 4).toNat (Z25 39 5).toNat (Z25 40) (Z25 41) (Z25 42) s)) (2 ^ (Z25 39 4).toNat) = (vGain (Z25 39 4).toNat (Z25 39 5).toNat (Z25 40) (Z25 41) (Z25 42) c) := by
      unfold vGain
      rw [show (((Z25 39 4).toNat : Nat) : Int) = Z25 39 4 from Int.toNat_of_nonneg hV.1.1]
    rw [eG]
    refine a_aload_n hX rfl rfl dX9_share_36 (pc' := 37) rfl ?_
    refine a_getfR hX (r := 3) fl_X9_19 rfl (by decide) rfl dX9_share_37 (pc' := 40) rfl ?_
    refine a_getfI hX (ji := 9) rfl hB fl_X9_115 rfl (by decide) rfl dX9_share_40 (pc' := 43) rfl (fun hb => ?_)
    refine a_cS1i hX cs_X9_244 (c_factorial (by rw [hz 3 (by omega)]; omega)) ⟨by decide, by decide⟩ (Nat.le_of_ble_eq_true rfl) dX9_share_43 (pc' := 46) rfl ?_
    refine a_iload_n hX rfl rfl dX9_share_46 (pc' := 47) rfl ?_
    refine a_cS3i hX cs_X9_249 (c_fraction (a := (vGain (Z25 39 4).toNat (Z25 39 5).toNat (Z25 40) (Z25 41) (Z25 42) c)) hGr hFr) ⟨by decide, by decide⟩ (Nat.le_of_ble_eq_true rfl) dX9_share_47 (pc' := 50) rfl ?_
    refine a_iret hX dX9_share_50 (hE _ _ _ ?_)
    refine ⟨_, rfl, ?_, hz, hB, rfl⟩
    show sFrac (vGain (Z25 39 4).toNat (Z25 39 5).toNat (Z25 40) (Z25 41) (Z25 42) c) (aFac (Z25 3 9).toNat) u = _
    rw [c8, if_pos rfl, hGe, hz 3 (by omega), vP_1]
  · refine a_iconst hX dX9_share_11 (pc' := 12) rfl ?_
    refine a_iret hX dX9_share_12 (hE _ _ _ ?_)
    exact ⟨_, rfl, by rw [c8]; rfl, fun _ _ => rfl, hB, rfl⟩

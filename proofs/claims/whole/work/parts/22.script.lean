/-- THE TEXT: letters, how many -/
def okT (Z : aZ) : Prop := (0 ≤ Z 1 1 ∧ Z 1 1 ≤ 52) ∧ ∀ j, 0 ≤ Z 2 j ∧ Z 2 j ≤ 255
def tL (t : Int → Int) (n i : Int) : Int := if 0 ≤ i ∧ i < n then t i else 0
theorem tL_rng {t : Int → Int} (h : ∀ j, 0 ≤ t j ∧ t j ≤ 255) (n i : Int) : 0 ≤ tL t n i ∧ tL t n i ≤ 255 := by
  have := h i
  unfold tL
  split <;> omega
def kLow (h : Int) : Nat := if h = 87 then 0 else if h = 67 then 1 else if h = 83 then 2 else 3
def kHigh (h : Int) : Nat := if h = 87 then 4 else if h = 67 then 5 else if h = 83 then 6 else 3
theorem kLow_lt (h : Int) : kLow h < 7 := by unfold kLow; (repeat' split) <;> omega
theorem kHigh_lt (h : Int) : kHigh h < 7 := by unfold kHigh; (repeat' split) <;> omega
def kLen (h : Int) : Int := if h = 87 then 1 else if h = 67 then 3 else if h = 83 then 4 else 0
theorem kLow_len (h : Int) : ((aSl.getD (kLow h) 0 : Nat) : Int) = kLen h := by unfold kLow kLen; (repeat' split) <;> rfl
theorem kHigh_len (h : Int) : ((aSl.getD (kHigh h) 0 : Nat) : Int) = kLen h := by unfold kHigh kLen; (repeat' split) <;> rfl
theorem kLen_rng (h : Int) : 0 ≤ kLen h ∧ kLen h ≤ 4 := by unfold kLen; (repeat' split) <;> omega
def kFit (h a l : Int) : Bool := decide (0 ≤ a ∧ a < kLen h ∧ aSc (kLow h) a ≤ l ∧ l ≤ aSc (kHigh h) a)
/-- the automaton of the parts: at place i, in a part that began with h (0: in none), a letters behind it; parts of each kind so far -/
def kF (t : Int → Int) (n : Int) : Nat → Int → Int → Int → Int → Int → Int → Int
  | 0, _, h, _, _, _, _ => if h = 0 then -9 else n
  | f + 1, i, h, a, w, c, s =>
    if h ≠ 0 then (if kFit h a (t i) = true then kF t n f (i + 1) (if a + 1 < kLen h then h else 0) (a + 1) w c s else i)
    else if kLen (t i) = 0 ∨ 4 < w + (if t i = 87 then 1 else 0) ∨ 4 < c + (if t i = 67 then 1 else 0) ∨ 5 < s + (if t i = 83 then 1 else 0) then i
    else kF t n f (i + 1) (t i) 0 (w + (if t i = 87 then 1 else 0)) (c + (if t i = 67 then 1 else 0)) (s + (if t i = 83 then 1 else 0))
theorem kF_s {t : Int → Int} {n i h a w c s : Int} (hi : i < n) : kF t n (n - i).toNat i h a w c s =
    if h ≠ 0 then (if kFit h a (t i) = true then kF t n (n - (i + 1)).toNat (i + 1) (if a + 1 < kLen h then h else 0) (a + 1) w c s else i)
    else if kLen (t i) = 0 ∨ 4 < w + (if t i = 87 then 1 else 0) ∨ 4 < c + (if t i = 67 then 1 else 0) ∨ 5 < s + (if t i = 83 then 1 else 0) then i
    else kF t n (n - (i + 1)).toNat (i + 1) (t i) 0 (w + (if t i = 87 then 1 else 0)) (c + (if t i = 67 then 1 else 0)) (s + (if t i = 83 then 1 else 0)) := by
  rw [show (n - i).toNat = (n - (i + 1)).toNat + 1 by omega]
  rfl
theorem kF_e {t : Int → Int} {n i h a w c s : Int} (hi : n ≤ i) : kF t n (n - i).toNat i h a w c s = if h = 0 then -9 else n := by
  rw [show (n - i).toNat = 0 by omega]
  rfl
def tFault (t : Int → Int) (n : Int) : Int := if tL t n 0 = 80 then kF t n (n - 1).toNat 1 0 0 0 0 0 else 0

set_option maxHeartbeats 4000000 in
set_option maxRecDepth 100000 in
theorem c_append {G : aG} {Z : aZ} {Y : aY} {l : Int} (hl : 0 ≤ l ∧ l ≤ 255) (hB : aB Z) (hT : okT Z) : aSI G yX5_append cX5_append 2 (some .boolean) 0 0 [.ref (G.1 1), .int (aI l)] Z Y (fun x Z' Y' => x = aTr (decide (Z 1 1 < 52)) ∧ Z' = (if Z 1 1 < 52 then aU (aU Z 2 (Z 1 1) l) 1 1 (Z 1 1 + 1) else Z) ∧ aB Z' ∧ Y' = Y) := by
  refine aS.of (own := RX5) (by decide +kernel) rfl 0 (Nat.le_of_ble_eq_true rfl) (fun X hX hE => ?_)
  show AW X G 0 [some (.ref (G.1 1)), some (.int (aI l))] [] Z Y
  obtain ⟨hT1, hT2⟩ := id hT
  refine a_aload_n hX rfl rfl dX5_append_0 (pc' := 1) rfl ?_
  refine a_getfI hX (ji := 1) rfl hB fl_X5_15 rfl (by decide) rfl dX5_append_1 (pc' := 4) rfl (fun hb => ?_)
  refine a_if_lt hX (by omega) dX5_append_4 (pc' := 7) rfl (tgt := 19) (by decide) (fun c4 => ?_) (fun c4 => ?_)
  · omega
  · refine a_aload_n hX rfl rfl dX5_append_7 (pc' := 8) rfl ?_
    refine a_getfI hX (ji := 1) rfl hB fl_X5_15 rfl (by decide) rfl dX5_append_8 (pc' := 11) rfl (fun hb => ?_)
    refine a_aload_n hX rfl rfl dX5_append_11 (pc' := 12) rfl ?_
    refine a_getfR hX (r := 2) fl_X5_9 rfl (by decide) rfl dX5_append_12 (pc' := 15) rfl ?_
    refine a_alen hX (v := 52) rfl (by decide) rfl dX5_append_15 (pc' := 16) rfl ?_
    refine a_icmp_lt hX (by omega) (by omega) dX5_append_16 (pc' := 19) rfl (tgt := 21) (by decide) (fun c16 => ?_) (fun c16 => ?_)
    · refine a_aload_n hX rfl rfl dX5_append_21 (pc' := 22) rfl ?_
      refine a_getfR hX (r := 2) fl_X5_9 rfl (by decide) rfl dX5_append_22 (pc' := 25) rfl ?_
      refine a_aload_n hX rfl rfl dX5_append_25 (pc' := 26) rfl ?_
      refine a_getfI hX (ji := 1) rfl hB fl_X5_15 rfl (by decide) rfl dX5_append_26 (pc' := 29) rfl (fun hb => ?_)
      refine a_iload_n hX rfl rfl dX5_append_29 (pc' := 30) rfl ?_
      refine a_iastB hX rfl (by decide) (by decide) (by omega) hB (by omega) dX5_append_30 (pc' := 31) rfl (fun hB => ?_)
      refine a_aload_n hX rfl rfl dX5_append_31 (pc' := 32) rfl ?_
      refine a_dup hX rfl dX5_append_32 (pc' := 33) rfl ?_
      refine a_getfI hX (ji := 1) rfl hB fl_X5_15 rfl (by decide) rfl dX5_append_33 (pc' := 36) rfl (fun hb => ?_)
      rw [aU_ne (show 1 ≠ 2 by decide)]
      refine a_iconst hX dX5_append_36 (pc' := 37) rfl ?_
      refine a_iadd hX dX5_append_37 (pc' := 38) rfl ?_
      refine a_putfIB hX fl_X5_15 nf_4_1 (ji := 1) rfl rfl (by decide) rfl hB (by omega) dX5_append_38 (pc' := 41) rfl (fun hB => ?_)
      refine a_iconst hX dX5_append_41 (pc' := 42) rfl ?_
      refine a_zret hX (by omega) dX5_append_42 (hE _ _ _ ?_)
      exact ⟨_, rfl, (aTr_pos (by omega)).symm, (if_pos (by omega)).symm, hB, rfl⟩
    · refine a_iconst hX dX5_append_19 (pc' := 20) rfl ?_
      refine a_zret hX (by omega) dX5_append_20 (hE _ _ _ ?_)
      exact ⟨_, rfl, (aTr_neg (by omega)).symm, (if_neg (by omega)).symm, hB, rfl⟩

set_option maxHeartbeats 4000000 in
set_option maxRecDepth 100000 in
theorem c_letterAt {G : aG} {Z : aZ} {Y : aY} {i : Int} (hi : -2147483648 ≤ i ∧ i < 2147483648) (hB : aB Z) (hT : okT Z) : aSi G yX5_letterAt cX5_letterAt 2 (some .int) 0 0 [.ref (G.1 1), .int (aI i)] Z Y (tL (Z 2) (Z 1 1) i) := by
  refine aS.of (own := RX5) (by decide +kernel) rfl 0 (Nat.le_of_ble_eq_true rfl) (fun X hX hE => ?_)
  show AW X G 0 [some (.ref (G.1 1)), some (.int (aI i))] [] Z Y
  obtain ⟨hT1, hT2⟩ := id hT
  refine a_iload_n hX rfl rfl dX5_letterAt_0 (pc' := 1) rfl ?_
  refine a_if_lt hX (by omega) dX5_letterAt_1 (pc' := 4) rfl (tgt := 30) (by decide) (fun c1 => ?_) (fun c1 => ?_)
  · refine a_iconst hX dX5_letterAt_30 (pc' := 31) rfl ?_
    refine a_iret hX dX5_letterAt_31 (hE _ _ _ ?_)
    refine ⟨aLf ?_, rfl, rfl⟩
    unfold tL
    first | rw [if_pos (by omega)] | rw [if_neg (by omega)]
  · refine a_iload_n hX rfl rfl dX5_letterAt_4 (pc' := 5) rfl ?_
    refine a_aload_n hX rfl rfl dX5_letterAt_5 (pc' := 6) rfl ?_
    refine a_getfI hX (ji := 1) rfl hB fl_X5_15 rfl (by decide) rfl dX5_letterAt_6 (pc' := 9) rfl (fun hb => ?_)
    refine a_icmp_ge hX (by omega) (by omega) dX5_letterAt_9 (pc' := 12) rfl (tgt := 30) (by decide) (fun c9 => ?_) (fun c9 => ?_)
    · refine a_iconst hX dX5_letterAt_30 (pc' := 31) rfl ?_
      refine a_iret hX dX5_letterAt_31 (hE _ _ _ ?_)
      refine ⟨aLf ?_, rfl, rfl⟩
      unfold tL
      first | rw [if_pos (by omega)] | rw [if_neg (by omega)]
    · refine a_iload_n hX rfl rfl dX5_letterAt_12 (pc' := 13) rfl ?_
      refine a_aload_n hX rfl rfl dX5_letterAt_13 (pc' := 14) rfl ?_
      refine a_getfR hX (r := 2) fl_X5_9 rfl (by decide) rfl dX5_letterAt_14 (pc' := 17) rfl ?_
      refine a_alen hX (v := 52) rfl (by decide) rfl dX5_letterAt_17 (pc' := 18) rfl ?_
      refine a_icmp_ge hX (by omega) (by omega) dX5_letterAt_18 (pc' := 21) rfl (tgt := 30) (by decide) (fun c18 => ?_) (fun c18 => ?_)
      · omega
      · refine a_aload_n hX rfl rfl dX5_letterAt_21 (pc' := 22) rfl ?_
        refine a_getfR hX (r := 2) fl_X5_9 rfl (by decide) rfl dX5_letterAt_22 (pc' := 25) rfl ?_
        refine a_iload_n hX rfl rfl dX5_letterAt_25 (pc' := 26) rfl ?_
        refine a_iald hX rfl (by decide) (by decide) (by omega) hB dX5_letterAt_26 (pc' := 27) rfl (fun hb => ?_)
        refine a_goto hX dX5_letterAt_27 (tgt := 31) (by decide) ?_
        refine a_iret hX dX5_letterAt_31 (hE _ _ _ ?_)
        refine ⟨aLf ?_, rfl, rfl⟩
        unfold tL
        first | rw [if_pos (by omega)] | rw [if_neg (by omega)]

set_option maxHeartbeats 4000000 in
set_option maxRecDepth 100000 in
theorem c_figureAt {G : aG} {Z : aZ} {Y : aY} {i : Int} (hi : -2147483648 ≤ i ∧ i < 2147483648) (hB : aB Z) (hT : okT Z) : aSi G yX5_figureAt cX5_figureAt 2 (some .int) 1 21 [.ref (G.1 1), .int (aI i)] Z Y (tL (Z 2) (Z 1 1) i - 48) := by
  refine aS.of (own := RX5) (by decide +kernel) rfl 0 (Nat.le_of_ble_eq_true rfl) (fun X hX hE => ?_)
  show AW X G 0 [some (.ref (G.1 1)), some (.int (aI i))] [] Z Y
  refine a_aload_n hX rfl rfl dX5_figureAt_0 (pc' := 1) rfl ?_
  refine a_iload_n hX rfl rfl dX5_figureAt_1 (pc' := 2) rfl ?_
  refine a_cV1i hX cv_X5_19 (c_letterAt (by omega) hB hT) rfl (by decide) ⟨by decide, by decide⟩ (Nat.le_of_ble_eq_true rfl) dX5_figureAt_2 (pc' := 5) rfl ?_
  refine a_bipush hX rfl dX5_figureAt_5 (pc' := 7) rfl ?_
  refine a_isub hX dX5_figureAt_7 (pc' := 8) rfl ?_
  refine a_iret hX dX5_figureAt_8 (hE _ _ _ ?_)
  exact ⟨rfl, rfl, rfl⟩

set_option maxHeartbeats 4000000 in
set_option maxRecDepth 100000 in
theorem c_lowest {G : aG} {Z : aZ} {Y : aY} {h : Int} (hh : 0 ≤ h ∧ h ≤ 255) : aSs G yX5_lowest cX5_lowest 1 (some (.object "java/lang/String")) 0 0 [.int (aI h)] Z Y (kLow h) := by
  refine aS.of (own := RX5) (by decide +kernel) rfl 0 (Nat.le_of_ble_eq_true rfl) (fun X hX hE => ?_)
  show AW X G 0 [some (.int (aI h))] [] Z Y
  refine a_iload_n hX rfl rfl dX5_lowest_0 (pc' := 1) rfl ?_
  have hsw : h = 67 ∨ h = 83 ∨ h = 87 ∨ (h ≠ 67 ∧ h ≠ 83 ∧ h ≠ 87) := by omega
  rcases hsw with e1 | e1 | e1 | e1
  · refine a_ls hX dX5_lowest_1 (by omega) (by decide) (off := 38) (by rw [e1]; rfl) (tgt := 39) (by decide) ?_
    refine a_ldcS hX (i := 1) (by decide) rfl rfl dX5_lowest_39 (pc' := 41) rfl ?_
    refine a_aret hX dX5_lowest_41 (hE _ _ _ ?_)
    exact ⟨by rw [show kLow h = 1 by unfold kLow; rw [if_neg (by omega), if_pos (by omega)]], rfl, rfl⟩
  · refine a_ls hX dX5_lowest_1 (by omega) (by decide) (off := 41) (by rw [e1]; rfl) (tgt := 42) (by decide) ?_
    refine a_ldcS hX (i := 2) (by decide) rfl rfl dX5_lowest_42 (pc' := 44) rfl ?_
    refine a_aret hX dX5_lowest_44 (hE _ _ _ ?_)
    exact ⟨by rw [show kLow h = 2 by unfold kLow; rw [if_neg (by omega), if_neg (by omega), if_pos (by omega)]], rfl, rfl⟩
  · refine a_ls hX dX5_lowest_1 (by omega) (by decide) (off := 35) (by rw [e1]; rfl) (tgt := 36) (by decide) ?_
    refine a_ldcS hX (i := 0) (by decide) rfl rfl dX5_lowest_36 (pc' := 38) rfl ?_
    refine a_aret hX dX5_lowest_38 (hE _ _ _ ?_)
    exact ⟨by rw [show kLow h = 0 by unfold kLow; rw [if_pos (by omega)]], rfl, rfl⟩
  · refine a_ls hX dX5_lowest_1 (by omega) (by decide) (off := 44) (by simp [Op.lookupswitch.offset, e1, Ne.symm]) (tgt := 45) (by decide) ?_
    refine a_ldcS hX (i := 3) (by decide) rfl rfl dX5_lowest_45 (pc' := 47) rfl ?_
    refine a_aret hX dX5_lowest_47 (hE _ _ _ ?_)
    exact ⟨by rw [show kLow h = 3 by unfold kLow; rw [if_neg (by omega), if_neg (by omega), if_neg (by omega)]], rfl, rfl⟩

set_option maxHeartbeats 4000000 in
set_option maxRecDepth 100000 in
theorem c_highest {G : aG} {Z : aZ} {Y : aY} {h : Int} (hh : 0 ≤ h ∧ h ≤ 255) : aSs G yX5_highest cX5_highest 1 (some (.object "java/lang/String")) 0 0 [.int (aI h)] Z Y (kHigh h) := by
  refine aS.of (own := RX5) (by decide +kernel) rfl 0 (Nat.le_of_ble_eq_true rfl) (fun X hX hE => ?_)
  show AW X G 0 [some (.int (aI h))] [] Z Y
  refine a_iload_n hX rfl rfl dX5_highest_0 (pc' := 1) rfl ?_
  have hsw : h = 67 ∨ h = 83 ∨ h = 87 ∨ (h ≠ 67 ∧ h ≠ 83 ∧ h ≠ 87) := by omega
  rcases hsw with e1 | e1 | e1 | e1
  · refine a_ls hX dX5_highest_1 (by omega) (by decide) (off := 38) (by rw [e1]; rfl) (tgt := 39) (by decide) ?_
    refine a_ldcS hX (i := 5) (by decide) rfl rfl dX5_highest_39 (pc' := 41) rfl ?_
    refine a_aret hX dX5_highest_41 (hE _ _ _ ?_)
    exact ⟨by rw [show kHigh h = 5 by unfold kHigh; rw [if_neg (by omega), if_pos (by omega)]], rfl, rfl⟩
  · refine a_ls hX dX5_highest_1 (by omega) (by decide) (off := 41) (by rw [e1]; rfl) (tgt := 42) (by decide) ?_
    refine a_ldcS hX (i := 6) (by decide) rfl rfl dX5_highest_42 (pc' := 44) rfl ?_
    refine a_aret hX dX5_highest_44 (hE _ _ _ ?_)
    exact ⟨by rw [show kHigh h = 6 by unfold kHigh; rw [if_neg (by omega), if_neg (by omega), if_pos (by omega)]], rfl, rfl⟩
  · refine a_ls hX dX5_highest_1 (by omega) (by decide) (off := 35) (by rw [e1]; rfl) (tgt := 36) (by decide) ?_
    refine a_ldcS hX (i := 4) (by decide) rfl rfl dX5_highest_36 (pc' := 38) rfl ?_
    refine a_aret hX dX5_highest_38 (hE _ _ _ ?_)
    exact ⟨by rw [show kHigh h = 4 by unfold kHigh; rw [if_pos (by omega)]], rfl, rfl⟩
  · refine a_ls hX dX5_highest_1 (by omega) (by decide) (off := 44) (by simp [Op.lookupswitch.offset, e1, Ne.symm]) (tgt := 45) (by decide) ?_
    refine a_ldcS hX (i := 3) (by decide) rfl rfl dX5_highest_45 (pc' := 47) rfl ?_
    refine a_aret hX dX5_highest_47 (hE _ _ _ ?_)
    exact ⟨by rw [show kHigh h = 3 by unfold kHigh; rw [if_neg (by omega), if_neg (by omega), if_neg (by omega)]], rfl, rfl⟩

set_option maxHeartbeats 4000000 in
set_option maxRecDepth 100000 in
theorem c_fits {G : aG} {Z : aZ} {Y : aY} {h a l : Int} (hh : 0 ≤ h ∧ h ≤ 255) (ha : -1000 ≤ a ∧ a ≤ 1000) (hl : 0 ≤ l ∧ l ≤ 255) : aSi G yX5_fits cX5_fits 5 (some .boolean) 4 85 [.int (aI h), .int (aI a), .int (aI l)] Z Y (aTr (kFit h a l)) := by
  refine aS.of (own := RX5) (by decide +kernel) rfl 2 (Nat.le_of_ble_eq_true rfl) (fun X hX hE => ?_)
  show AW X G 0 [some (.int (aI h)), some (.int (aI a)), some (.int (aI l)), none, none] [] Z Y
  refine a_iload_n hX rfl rfl dX5_fits_0 (pc' := 1) rfl ?_
  refine a_cS1s hX cs_X5_27 (c_lowest (by omega)) ⟨by decide, by decide⟩ (Nat.le_of_ble_eq_true rfl) dX5_fits_1 (pc' := 4) rfl ?_
  refine a_astore3 hX rfl (by decide) rfl dX5_fits_4 (pc' := 5) rfl ?_
  refine a_iload_n hX rfl rfl dX5_fits_5 (pc' := 6) rfl ?_
  refine a_cS1s hX cs_X5_40 (c_highest (by omega)) ⟨by decide, by decide⟩ (Nat.le_of_ble_eq_true rfl) dX5_fits_6 (pc' := 9) rfl ?_
  refine a_astore4 hX (by decide) rfl dX5_fits_9 (pc' := 11) rfl ?_
  refine a_iload_n hX rfl rfl dX5_fits_11 (pc' := 12) rfl ?_
  refine a_if_lt hX (by omega) dX5_fits_12 (pc' := 15) rfl (tgt := 32) (by decide) (fun c12 => ?_) (fun c12 => ?_)
  · refine a_iconst hX dX5_fits_32 (pc' := 33) rfl ?_
    refine a_zret hX (by omega) dX5_fits_33 (hE _ _ _ ?_)
    refine ⟨aLf ?_, rfl, rfl⟩
    unfold kFit
    have hkl := kLen_rng h
    exact (aTr_neg (by omega)).symm
  · refine a_iload_n hX rfl rfl dX5_fits_15 (pc' := 16) rfl ?_
    refine a_aload_n hX rfl rfl dX5_fits_16 (pc' := 17) rfl ?_
    refine a_cStr0 hX cvs_X5_31 (j_length (kLow_lt _)) (kLow_lt _) ⟨by decide, by decide⟩ (Nat.le_of_ble_eq_true rfl) dX5_fits_17 (pc' := 20) rfl ?_
    rw [kLow_len]
    have hkl := kLen_rng h
    refine a_icmp_ge hX (by omega) (by omega) dX5_fits_20 (pc' := 23) rfl (tgt := 32) (by decide) (fun c20 => ?_) (fun c20 => ?_)
    · refine a_iconst hX dX5_fits_32 (pc' := 33) rfl ?_
      refine a_zret hX (by omega) dX5_fits_33 (hE _ _ _ ?_)
      refine ⟨aLf ?_, rfl, rfl⟩
      unfold kFit
      have hkl := kLen_rng h
      exact (aTr_neg (by omega)).symm
    · refine a_iload_n hX rfl rfl dX5_fits_23 (pc' := 24) rfl ?_
      refine a_aload hX rfl dX5_fits_24 (pc' := 26) rfl ?_
      refine a_cStr0 hX cvs_X5_31 (j_length (kHigh_lt _)) (kHigh_lt _) ⟨by decide, by decide⟩ (Nat.le_of_ble_eq_true rfl) dX5_fits_26 (pc' := 29) rfl ?_
      rw [kHigh_len]
      refine a_icmp_lt hX (by omega) (by omega) dX5_fits_29 (pc' := 32) rfl (tgt := 34) (by decide) (fun c29 => ?_) (fun c29 => ?_)
      · refine a_iload_n hX rfl rfl dX5_fits_34 (pc' := 35) rfl ?_
        refine a_aload_n hX rfl rfl dX5_fits_35 (pc' := 36) rfl ?_
        refine a_iload_n hX rfl rfl dX5_fits_36 (pc' := 37) rfl ?_
        refine a_cStr1 hX cvs_X5_43 (j_charAt (kLow_lt _) ⟨by omega, by rw [kLow_len]; omega⟩) (kLow_lt _) ⟨by decide, by decide⟩ (Nat.le_of_ble_eq_true rfl) dX5_fits_37 (pc' := 40) rfl ?_
        refine a_icmp_lt hX (by omega) (by have := aSc_rng a (kLow_lt h); omega) dX5_fits_40 (pc' := 43) rfl (tgt := 57) (by decide) (fun c40 => ?_) (fun c40 => ?_)
        · refine a_iconst hX dX5_fits_57 (pc' := 58) rfl ?_
          refine a_zret hX (by omega) dX5_fits_58 (hE _ _ _ ?_)
          refine ⟨aLf ?_, rfl, rfl⟩
          unfold kFit
          first | exact (aTr_pos (by omega)).symm | exact (aTr_neg (by omega)).symm
        · refine a_iload_n hX rfl rfl dX5_fits_43 (pc' := 44) rfl ?_
          refine a_aload hX rfl dX5_fits_44 (pc' := 46) rfl ?_
          refine a_iload_n hX rfl rfl dX5_fits_46 (pc' := 47) rfl ?_
          refine a_cStr1 hX cvs_X5_43 (j_charAt (kHigh_lt _) ⟨by omega, by rw [kHigh_len]; omega⟩) (kHigh_lt _) ⟨by decide, by decide⟩ (Nat.le_of_ble_eq_true rfl) dX5_fits_47 (pc' := 50) rfl ?_
          refine a_icmp_gt hX (by omega) (by have := aSc_rng a (kHigh_lt h); omega) dX5_fits_50 (pc' := 53) rfl (tgt := 57) (by decide) (fun c50 => ?_) (fun c50 => ?_)
          · refine a_iconst hX dX5_fits_57 (pc' := 58) rfl ?_
            refine a_zret hX (by omega) dX5_fits_58 (hE _ _ _ ?_)
            refine ⟨aLf ?_, rfl, rfl⟩
            unfold kFit
            first | exact (aTr_pos (by omega)).symm | exact (aTr_neg (by omega)).symm
          · refine a_iconst hX dX5_fits_53 (pc' := 54) rfl ?_
            refine a_goto hX dX5_fits_54 (tgt := 58) (by decide) ?_
            refine a_zret hX (by omega) dX5_fits_58 (hE _ _ _ ?_)
            refine ⟨aLf ?_, rfl, rfl⟩
            unfold kFit
            first | exact (aTr_pos (by omega)).symm | exact (aTr_neg (by omega)).symm
      · refine a_iconst hX dX5_fits_32 (pc' := 33) rfl ?_
        refine a_zret hX (by omega) dX5_fits_33 (hE _ _ _ ?_)
        refine ⟨aLf ?_, rfl, rfl⟩
        unfold kFit
        have hkl := kLen_rng h
        exact (aTr_neg (by omega)).symm

set_option maxHeartbeats 4000000 in
set_option maxRecDepth 100000 in
theorem c_firstFault {G : aG} {Z : aZ} {Y : aY} (hB : aB Z) (hT : okT Z) : aSi G yX5_firstFault cX5_firstFault 8 (some .int) 5 109 [.ref (G.1 1)] Z Y (tFault (Z 2) (Z 1 1)) := by
  refine aS.of (own := RX5) (by decide +kernel) rfl 7 (Nat.le_of_ble_eq_true rfl) (fun X hX hE => ?_)
  show AW X G 0 [some (.ref (G.1 1)), none, none, none, none, none, none, none] [] Z Y
  obtain ⟨hT1, hT2⟩ := id hT
  refine a_aload_n hX rfl rfl dX5_firstFault_0 (pc' := 1) rfl ?_
  refine a_iconst hX dX5_firstFault_1 (pc' := 2) rfl ?_
  refine a_cV1i hX cv_X5_19 (c_letterAt (by omega) hB hT) rfl (by decide) ⟨by decide, by decide⟩ (Nat.le_of_ble_eq_true rfl) dX5_firstFault_2 (pc' := 5) rfl ?_
  refine a_bipush hX rfl dX5_firstFault_5 (pc' := 7) rfl ?_
  have hz0 := tL_rng hT2 (Z 1 1) 0
  refine a_icmp_eq hX (by omega) (by omega) dX5_firstFault_7 (pc' := 10) rfl (tgt := 12) (by decide) (fun c7 => ?_) (fun c7 => ?_)
  · refine a_iconst hX dX5_firstFault_12 (pc' := 13) rfl ?_
    refine a_istore1 hX rfl (by decide) rfl dX5_firstFault_13 (pc' := 14) rfl ?_
    refine a_iconst hX dX5_firstFault_14 (pc' := 15) rfl ?_
    refine a_istore2 hX rfl (by decide) rfl dX5_firstFault_15 (pc' := 16) rfl ?_
    refine a_iconst hX dX5_firstFault_16 (pc' := 17) rfl ?_
    refine a_istore3 hX rfl (by decide) rfl dX5_firstFault_17 (pc' := 18) rfl ?_
    refine a_iconst hX dX5_firstFault_18 (pc' := 19) rfl ?_
    refine a_istore4 hX (by decide) rfl dX5_firstFault_19 (pc' := 21) rfl ?_
    refine a_iconst hX dX5_firstFault_21 (pc' := 22) rfl ?_
    refine a_istore5 hX (by decide) rfl dX5_firstFault_22 (pc' := 24) rfl ?_
    refine a_iconst hX dX5_firstFault_24 (pc' := 25) rfl ?_
    refine a_istore6 hX (by decide) rfl dX5_firstFault_25 (pc' := 27) rfl ?_
    have L27 : ∀ (m : Nat) (i h a w c s : Int), (1 ≤ i ∧ i ≤ 53) → (0 ≤ h ∧ h ≤ 255) → (0 ≤ a ∧ a ≤ i) → (0 ≤ w ∧ w ≤ i) → (0 ≤ c ∧ c ≤ i) → (0 ≤ s ∧ s ≤ i) → kF (Z 2) (Z 1 1) (Z 1 1 - i).toNat i h a w c s = tFault (Z 2) (Z 1 1) → (53 - i).toNat < m → AW X G 27 [some (.ref (G.1 1)), some (.int (aI h)), some (.int (aI a)), some (.int (aI w)), some (.int (aI c)), some (.int (aI s)), some (.int (aI i)), none] [] Z Y := by
      intro m
      induction m with
      | zero =>
        intro i h a w c s hi hh ha hw hc hs hk hm
        omega
      | succ m ih =>
        intro i h a w c s hi hh ha hw hc hs hk hm
        refine a_iload hX rfl dX5_firstFault_27 (pc' := 29) rfl ?_
        refine a_aload_n hX rfl rfl dX5_firstFault_29 (pc' := 30) rfl ?_
        refine a_getfI hX (ji := 1) rfl hB fl_X5_15 rfl (by decide) rfl dX5_firstFault_30 (pc' := 33) rfl (fun hb => ?_)
        refine a_icmp_ge hX (by omega) (by omega) dX5_firstFault_33 (pc' := 36) rfl (tgt := 175) (by decide) (fun c33 => ?_) (fun c33 => ?_)
        · refine a_iload_n hX rfl rfl dX5_firstFault_175 (pc' := 176) rfl ?_
          refine a_if_ne hX (by omega) dX5_firstFault_176 (pc' := 179) rfl (tgt := 184) (by decide) (fun c176 => ?_) (fun c176 => ?_)
          · refine a_aload_n hX rfl rfl dX5_firstFault_184 (pc' := 185) rfl ?_
            refine a_getfI hX (ji := 1) rfl hB fl_X5_15 rfl (by decide) rfl dX5_firstFault_185 (pc' := 188) rfl (fun hb => ?_)
            refine a_iret hX dX5_firstFault_188 (hE _ _ _ ?_)
            refine ⟨aLf ?_, rfl, rfl⟩
            rw [kF_e (by omega)] at hk
            rw [← hk]
            first | rw [if_pos (by omega)] | rw [if_neg (by omega)]
          · refine a_bipush hX rfl dX5_firstFault_179 (pc' := 181) rfl ?_
            refine a_goto hX dX5_firstFault_181 (tgt := 188) (by decide) ?_
            refine a_iret hX dX5_firstFault_188 (hE _ _ _ ?_)
            refine ⟨aLf ?_, rfl, rfl⟩
            rw [kF_e (by omega)] at hk
            rw [← hk]
            first | rw [if_pos (by omega)] | rw [if_neg (by omega)]
        · refine a_aload_n hX rfl rfl dX5_firstFault_36 (pc' := 37) rfl ?_
          refine a_iload hX rfl dX5_firstFault_37 (pc' := 39) rfl ?_
          refine a_cV1i hX cv_X5_19 (c_letterAt (by omega) hB hT) rfl (by decide) ⟨by decide, by decide⟩ (Nat.le_of_ble_eq_true rfl) dX5_firstFault_39 (pc' := 42) rfl ?_
          have htl : tL (Z 2) (Z 1 1) i = Z 2 i := by unfold tL; rw [if_pos (by omega)]
          rw [htl]
          have hz2 := hT2 i
          rw [kF_s (by omega)] at hk
          refine a_istore7 hX (by decide) rfl dX5_firstFault_42 (pc' := 44) rfl ?_
          refine a_iload_n hX rfl rfl dX5_firstFault_44 (pc' := 45) rfl ?_
          refine a_if_eq hX (by omega) dX5_firstFault_45 (pc' := 48) rfl (tgt := 84) (by decide) (fun c45 => ?_) (fun c45 => ?_)
          · refine a_iload_n hX rfl rfl dX5_firstFault_84 (pc' := 85) rfl ?_
            refine a_iload hX rfl dX5_firstFault_85 (pc' := 87) rfl ?_
            refine a_bipush hX rfl dX5_firstFault_87 (pc' := 89) rfl ?_
            have J97 : ∀ (q : Int), q = (if Z 2 i = 87 then 1 else 0) → AW X G 97 [some (.ref (G.1 1)), some (.int (aI h)), some (.int (aI a)), some (.int (aI w)), some (.int (aI c)), some (.int (aI s)), some (.int (aI i)), some (.int (aI (Z 2 i)))] [.int (aI q), .int (aI w)] Z Y := by
              intro q1 hq1
              have hq1b : 0 ≤ q1 ∧ q1 ≤ 1 := by rw [hq1]; split <;> omega
              refine a_iadd hX dX5_firstFault_97 (pc' := 98) rfl ?_
              refine a_istore3 hX rfl (by decide) rfl dX5_firstFault_98 (pc' := 99) rfl ?_
              refine a_iload hX rfl dX5_firstFault_99 (pc' := 101) rfl ?_
              refine a_iload hX rfl dX5_firstFault_101 (pc' := 103) rfl ?_
              refine a_bipush hX rfl dX5_firstFault_103 (pc' := 105) rfl ?_
              have J113 : ∀ (q : Int), q = (if Z 2 i = 67 then 1 else 0) → AW X G 113 [some (.ref (G.1 1)), some (.int (aI h)), some (.int (aI a)), some (.int (aI (w + q1))), some (.int (aI c)), some (.int (aI s)), some (.int (aI i)), some (.int (aI (Z 2 i)))] [.int (aI q), .int (aI c)] Z Y := by
                intro q2 hq2
                have hq2b : 0 ≤ q2 ∧ q2 ≤ 1 := by rw [hq2]; split <;> omega
                refine a_iadd hX dX5_firstFault_113 (pc' := 114) rfl ?_
                refine a_istore4 hX (by decide) rfl dX5_firstFault_114 (pc' := 116) rfl ?_
                refine a_iload hX rfl dX5_firstFault_116 (pc' := 118) rfl ?_
                refine a_iload hX rfl dX5_firstFault_118 (pc' := 120) rfl ?_
                refine a_bipush hX rfl dX5_firstFault_120 (pc' := 122) rfl ?_
                have J130 : ∀ (q : Int), q = (if Z 2 i = 83 then 1 else 0) → AW X G 130 [some (.ref (G.1 1)), some (.int (aI h)), some (.int (aI a)), some (.int (aI (w + q1))), some (.int (aI (c + q2))), some (.int (aI s)), some (.int (aI i)), some (.int (aI (Z 2 i)))] [.int (aI q), .int (aI s)] Z Y := by
                  intro q3 hq3
                  have hq3b : 0 ≤ q3 ∧ q3 ≤ 1 := by rw [hq3]; split <;> omega
                  rw [if_neg (show ¬ h ≠ 0 by omega), ← hq1, ← hq2, ← hq3] at hk
                  refine a_iadd hX dX5_firstFault_130 (pc' := 131) rfl ?_
                  refine a_istore5 hX (by decide) rfl dX5_firstFault_131 (pc' := 133) rfl ?_
                  refine a_iload hX rfl dX5_firstFault_133 (pc' := 135) rfl ?_
                  refine a_cS1s hX cs_X5_27 (c_lowest (by omega)) ⟨by decide, by decide⟩ (Nat.le_of_ble_eq_true rfl) dX5_firstFault_135 (pc' := 138) rfl ?_
                  refine a_cStr0 hX cvs_X5_36 (j_isEmpty (kLow_lt _)) (kLow_lt _) ⟨by decide, by decide⟩ (Nat.le_of_ble_eq_true rfl) dX5_firstFault_138 (pc' := 141) rfl ?_
                  have hle : decide (aSl.getD (kLow (Z 2 i)) 0 = 0) = decide (kLen (Z 2 i) = 0) := by have := kLow_len (Z 2 i); congr 1; apply propext; omega
                  rw [hle]
                  refine a_ifb_ne hX dX5_firstFault_141 (pc' := 144) rfl (tgt := 161) (by decide) (fun c141 => ?_) (fun c141 => ?_)
                  · refine a_iload hX rfl dX5_firstFault_161 (pc' := 163) rfl ?_
                    refine a_iret hX dX5_firstFault_163 (hE _ _ _ ?_)
                    refine ⟨aLf ?_, rfl, rfl⟩
                    rw [if_pos (by first | exact Or.inl (of_decide_eq_true c141) | omega)] at hk
                    exact hk
                  · refine a_iload_n hX rfl rfl dX5_firstFault_144 (pc' := 145) rfl ?_
                    refine a_iconst hX dX5_firstFault_145 (pc' := 146) rfl ?_
                    refine a_icmp_gt hX (by omega) (by omega) dX5_firstFault_146 (pc' := 149) rfl (tgt := 161) (by decide) (fun c146 => ?_) (fun c146 => ?_)
                    · refine a_iload hX rfl dX5_firstFault_161 (pc' := 163) rfl ?_
                      refine a_iret hX dX5_firstFault_163 (hE _ _ _ ?_)
                      refine ⟨aLf ?_, rfl, rfl⟩
                      rw [if_pos (by first | exact Or.inl (of_decide_eq_true c141) | omega)] at hk
                      exact hk
                    · refine a_iload hX rfl dX5_firstFault_149 (pc' := 151) rfl ?_
                      refine a_iconst hX dX5_firstFault_151 (pc' := 152) rfl ?_
                      refine a_icmp_gt hX (by omega) (by omega) dX5_firstFault_152 (pc' := 155) rfl (tgt := 161) (by decide) (fun c152 => ?_) (fun c152 => ?_)
                      · refine a_iload hX rfl dX5_firstFault_161 (pc' := 163) rfl ?_
                        refine a_iret hX dX5_firstFault_163 (hE _ _ _ ?_)
                        refine ⟨aLf ?_, rfl, rfl⟩
                        rw [if_pos (by first | exact Or.inl (of_decide_eq_true c141) | omega)] at hk
                        exact hk
                      · refine a_iload hX rfl dX5_firstFault_155 (pc' := 157) rfl ?_
                        refine a_iconst hX dX5_firstFault_157 (pc' := 158) rfl ?_
                        refine a_icmp_le hX (by omega) (by omega) dX5_firstFault_158 (pc' := 161) rfl (tgt := 164) (by decide) (fun c158 => ?_) (fun c158 => ?_)
                        · rw [if_neg (by rw [decide_eq_false_iff_not] at c141; omega)] at hk
                          refine a_iload hX rfl dX5_firstFault_164 (pc' := 166) rfl ?_
                          refine a_istore1 hX rfl (by decide) rfl dX5_firstFault_166 (pc' := 167) rfl ?_
                          refine a_iconst hX dX5_firstFault_167 (pc' := 168) rfl ?_
                          refine a_istore2 hX rfl (by decide) rfl dX5_firstFault_168 (pc' := 169) rfl ?_
                          refine a_iinc6 hX (by decide) rfl dX5_firstFault_169 (pc' := 172) rfl ?_
                          refine a_goto hX dX5_firstFault_172 (tgt := 27) (by decide) ?_
                          refine AW.le ?_ (ih (i + 1) _ _ _ _ _ (by omega) ?_ ?_ ?_ ?_ ?_ hk (by omega))
                          · first
                              | exact ⟨rfl, rfl, rfl, rfl, rfl, rfl, rfl, trivial⟩
                              | (rw [if_pos (by omega)]; exact ⟨rfl, rfl, rfl, rfl, rfl, rfl, rfl, trivial⟩)
                              | (rw [if_neg (by omega)]; exact ⟨rfl, rfl, rfl, rfl, rfl, rfl, rfl, trivial⟩)
                          all_goals first | omega | (split <;> omega)
                        · refine a_iload hX rfl dX5_firstFault_161 (pc' := 163) rfl ?_
                          refine a_iret hX dX5_firstFault_163 (hE _ _ _ ?_)
                          refine ⟨aLf ?_, rfl, rfl⟩
                          rw [if_pos (by first | exact Or.inl (of_decide_eq_true c141) | omega)] at hk
                          exact hk
                refine a_icmp_ne hX (by omega) (by omega) dX5_firstFault_122 (pc' := 125) rfl (tgt := 129) (by decide) (fun c122 => ?_) (fun c122 => ?_)
                · refine a_iconst hX dX5_firstFault_129 (pc' := 130) rfl ?_
                  exact J130 _ (by first | exact (if_pos (by omega)).symm | exact (if_neg (by omega)).symm)
                · refine a_iconst hX dX5_firstFault_125 (pc' := 126) rfl ?_
                  refine a_goto hX dX5_firstFault_126 (tgt := 130) (by decide) ?_
                  exact J130 _ (by first | exact (if_pos (by omega)).symm | exact (if_neg (by omega)).symm)
              refine a_icmp_ne hX (by omega) (by omega) dX5_firstFault_105 (pc' := 108) rfl (tgt := 112) (by decide) (fun c105 => ?_) (fun c105 => ?_)
              · refine a_iconst hX dX5_firstFault_112 (pc' := 113) rfl ?_
                exact J113 _ (by first | exact (if_pos (by omega)).symm | exact (if_neg (by omega)).symm)
              · refine a_iconst hX dX5_firstFault_108 (pc' := 109) rfl ?_
                refine a_goto hX dX5_firstFault_109 (tgt := 113) (by decide) ?_
                exact J113 _ (by first | exact (if_pos (by omega)).symm | exact (if_neg (by omega)).symm)
            refine a_icmp_ne hX (by omega) (by omega) dX5_firstFault_89 (pc' := 92) rfl (tgt := 96) (by decide) (fun c89 => ?_) (fun c89 => ?_)
            · refine a_iconst hX dX5_firstFault_96 (pc' := 97) rfl ?_
              exact J97 _ (by first | exact (if_pos (by omega)).symm | exact (if_neg (by omega)).symm)
            · refine a_iconst hX dX5_firstFault_92 (pc' := 93) rfl ?_
              refine a_goto hX dX5_firstFault_93 (tgt := 97) (by decide) ?_
              exact J97 _ (by first | exact (if_pos (by omega)).symm | exact (if_neg (by omega)).symm)
          · refine a_iload_n hX rfl rfl dX5_firstFault_48 (pc' := 49) rfl ?_
            refine a_iload_n hX rfl rfl dX5_firstFault_49 (pc' := 50) rfl ?_
            refine a_iload hX rfl dX5_firstFault_50 (pc' := 52) rfl ?_
            refine a_cS3i hX cs_X5_23 (c_fits (by omega) (by omega) (by omega)) ⟨by decide, by decide⟩ (Nat.le_of_ble_eq_true rfl) dX5_firstFault_52 (pc' := 55) rfl ?_
            refine a_ifb_ne hX dX5_firstFault_55 (pc' := 58) rfl (tgt := 61) (by decide) (fun c55 => ?_) (fun c55 => ?_)
            · refine a_iinc2 hX (by decide) rfl dX5_firstFault_61 (pc' := 64) rfl ?_
              refine a_iload_n hX rfl rfl dX5_firstFault_64 (pc' := 65) rfl ?_
              refine a_iload_n hX rfl rfl dX5_firstFault_65 (pc' := 66) rfl ?_
              refine a_cS1s hX cs_X5_27 (c_lowest (by omega)) ⟨by decide, by decide⟩ (Nat.le_of_ble_eq_true rfl) dX5_firstFault_66 (pc' := 69) rfl ?_
              refine a_cStr0 hX cvs_X5_31 (j_length (kLow_lt _)) (kLow_lt _) ⟨by decide, by decide⟩ (Nat.le_of_ble_eq_true rfl) dX5_firstFault_69 (pc' := 72) rfl ?_
              rw [kLow_len]
              have hkl := kLen_rng h
              refine a_icmp_ge hX (by omega) (by omega) dX5_firstFault_72 (pc' := 75) rfl (tgt := 79) (by decide) (fun c72 => ?_) (fun c72 => ?_)
              · refine a_iconst hX dX5_firstFault_79 (pc' := 80) rfl ?_
                refine a_istore1 hX rfl (by decide) rfl dX5_firstFault_80 (pc' := 81) rfl ?_
                rw [if_pos (show h ≠ 0 from c45), if_pos c55] at hk
                refine a_goto hX dX5_firstFault_81 (tgt := 169) (by decide) ?_
                refine a_iinc6 hX (by decide) rfl dX5_firstFault_169 (pc' := 172) rfl ?_
                refine a_goto hX dX5_firstFault_172 (tgt := 27) (by decide) ?_
                refine AW.le ?_ (ih (i + 1) _ _ _ _ _ (by omega) ?_ ?_ ?_ ?_ ?_ hk (by omega))
                · first
                    | exact ⟨rfl, rfl, rfl, rfl, rfl, rfl, rfl, trivial⟩
                    | (rw [if_pos (by omega)]; exact ⟨rfl, rfl, rfl, rfl, rfl, rfl, rfl, trivial⟩)
                    | (rw [if_neg (by omega)]; exact ⟨rfl, rfl, rfl, rfl, rfl, rfl, rfl, trivial⟩)
                all_goals first | omega | (split <;> omega)
              · refine a_iload_n hX rfl rfl dX5_firstFault_75 (pc' := 76) rfl ?_
                refine a_goto hX dX5_firstFault_76 (tgt := 80) (by decide) ?_
                refine a_istore1 hX rfl (by decide) rfl dX5_firstFault_80 (pc' := 81) rfl ?_
                rw [if_pos (show h ≠ 0 from c45), if_pos c55] at hk
                refine a_goto hX dX5_firstFault_81 (tgt := 169) (by decide) ?_
                refine a_iinc6 hX (by decide) rfl dX5_firstFault_169 (pc' := 172) rfl ?_
                refine a_goto hX dX5_firstFault_172 (tgt := 27) (by decide) ?_
                refine AW.le ?_ (ih (i + 1) _ _ _ _ _ (by omega) ?_ ?_ ?_ ?_ ?_ hk (by omega))
                · first
                    | exact ⟨rfl, rfl, rfl, rfl, rfl, rfl, rfl, trivial⟩
                    | (rw [if_pos (by omega)]; exact ⟨rfl, rfl, rfl, rfl, rfl, rfl, rfl, trivial⟩)
                    | (rw [if_neg (by omega)]; exact ⟨rfl, rfl, rfl, rfl, rfl, rfl, rfl, trivial⟩)
                all_goals first | omega | (split <;> omega)
            · refine a_iload hX rfl dX5_firstFault_58 (pc' := 60) rfl ?_
              refine a_iret hX dX5_firstFault_60 (hE _ _ _ ?_)
              refine ⟨aLf ?_, rfl, rfl⟩
              rw [if_pos (show h ≠ 0 from c45), if_neg (by rw [c55]; decide)] at hk
              exact hk
    refine AW.le ?_ (L27 54 1 0 0 0 0 0 (by omega) (by omega) (by omega) (by omega) (by omega) (by omega) (by unfold tFault; rw [if_pos c7]) (by omega))
    exact ⟨rfl, rfl, rfl, rfl, rfl, rfl, rfl, trivial⟩
  · refine a_iconst hX dX5_firstFault_10 (pc' := 11) rfl ?_
    refine a_iret hX dX5_firstFault_11 (hE _ _ _ ?_)
    refine ⟨aLf ?_, rfl, rfl⟩
    unfold tFault
    rw [if_neg c7]

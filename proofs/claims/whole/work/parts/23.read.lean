theorem aI_tdiv {x y : Int} (hx : -2147483648 < x ∧ x < 2147483648) (hy : 0 < y ∧ y < 2147483648) : aI x / aI y = aI (x.tdiv y) := by
  apply Int32.toInt_inj.mp
  rw [Int32.toInt_div_of_ne_right _ _ (by
    intro h
    have h2 : aI y = aI (-1) := h
    rw [aI_inj (by omega) (by omega)] at h2
    omega), aI_toInt (by omega), aI_toInt (by omega)]
  have hb1 : (x.tdiv y).natAbs ≤ x.natAbs := by
    rw [Int.natAbs_tdiv]
    exact Nat.div_le_self _ _
  rw [aI_toInt (by omega)]
theorem a_idivT {X : aX} {G : aG} {own : String} {cc : ByteArray} {nL : Nat} {ret : Option FieldType} {fr lo : Nat} (hX : aOK X G own cc nL ret fr lo) {pc pc' : Nat} {lv : List (Option Value)} {st : List Value} {Z : aZ} {Y : aY} {x y : Int} (h1 : -2147483648 < x ∧ x < 2147483648) (h2 : 0 < y ∧ y < 2147483648) (hdg : decode cc pc = .ok (.idiv, 1)) (hp : pc + 1 = pc') (k : AW X G pc' lv (.int (aI (x.tdiv y)) :: st) Z Y) : AW X G pc lv (.int (aI y) :: .int (aI x) :: st) Z Y := by
  obtain ⟨p, l, e, R, s, m, args, below, meth, c, A, cs, sl, Q⟩ := X
  obtain ⟨hx, hb, hml, hown, hts, hK, hA, hlk, hr, hR, hSt⟩ := hX
  subst hp
  intro H locs ls hL hP hD hS
  refine lv_idiv hx hb hdg (aI_ne0 (by omega)) ?_
  rw [aI_tdiv h1 h2]
  exact k H locs ls hL hP hD hS

/-- THE PASS as it is read: all rows -/
def vF (Z : aZ) : aP
  | 0 => fun j => if j = 0 then Z 3 8 else if j = 1 then Z 3 9 else if j = 2 then Z 3 10 else 0
  | 1 => Z 4
  | 2 => Z 5
  | 3 => Z 6
  | 4 => Z 7
  | 5 => Z 8
  | 6 => Z 9
  | 7 => Z 10
  | 8 => Z 11
  | _ => fun _ => 0
theorem vF_c {Z : aZ} {i v : Int} (hi : i = 0 ∨ i = 1 ∨ i = 2) : vF (aU Z 3 (8 + i) v) = aU (vF Z) 0 i v := by
  funext r b
  match r with
  | 0 =>
    show (if b = 0 then aU Z 3 (8 + i) v 3 8 else if b = 1 then aU Z 3 (8 + i) v 3 9 else if b = 2 then aU Z 3 (8 + i) v 3 10 else 0) = aU (vF Z) 0 i v 0 b
    rw [aU_at, aU_at, aU_at, aU_at]
    show _ = if b = i then v else (if b = 0 then Z 3 8 else if b = 1 then Z 3 9 else if b = 2 then Z 3 10 else 0)
    rcases hi with rfl | rfl | rfl
    all_goals ((repeat' split) <;> first | rfl | (exfalso; omega))
  | 1 => rfl
  | 2 => rfl
  | 3 => rfl
  | 4 => rfl
  | 5 => rfl
  | 6 => rfl
  | 7 => rfl
  | 8 => rfl
  | n + 9 => rfl
theorem vF_c0 {Z : aZ} {v : Int} : vF (aU Z 3 8 v) = aU (vF Z) 0 0 v := vF_c (i := 0) (Or.inl rfl)
theorem vF_c1 {Z : aZ} {v : Int} : vF (aU Z 3 9 v) = aU (vF Z) 0 1 v := vF_c (i := 1) (Or.inr (Or.inl rfl))
theorem vF_c2 {Z : aZ} {v : Int} : vF (aU Z 3 10 v) = aU (vF Z) 0 2 v := vF_c (i := 2) (Or.inr (Or.inr rfl))

theorem vF_1 {Z : aZ} {j v : Int} : vF (aU Z 4 j v) = aU (vF Z) 1 j v := by
  funext r b
  match r with
  | 0 => rfl
  | 1 => rfl
  | 2 => rfl
  | 3 => rfl
  | 4 => rfl
  | 5 => rfl
  | 6 => rfl
  | 7 => rfl
  | 8 => rfl
  | n + 9 => rfl

theorem vF_2 {Z : aZ} {j v : Int} : vF (aU Z 5 j v) = aU (vF Z) 2 j v := by
  funext r b
  match r with
  | 0 => rfl
  | 1 => rfl
  | 2 => rfl
  | 3 => rfl
  | 4 => rfl
  | 5 => rfl
  | 6 => rfl
  | 7 => rfl
  | 8 => rfl
  | n + 9 => rfl

theorem vF_3 {Z : aZ} {j v : Int} : vF (aU Z 6 j v) = aU (vF Z) 3 j v := by
  funext r b
  match r with
  | 0 => rfl
  | 1 => rfl
  | 2 => rfl
  | 3 => rfl
  | 4 => rfl
  | 5 => rfl
  | 6 => rfl
  | 7 => rfl
  | 8 => rfl
  | n + 9 => rfl

theorem vF_4 {Z : aZ} {j v : Int} : vF (aU Z 7 j v) = aU (vF Z) 4 j v := by
  funext r b
  match r with
  | 0 => rfl
  | 1 => rfl
  | 2 => rfl
  | 3 => rfl
  | 4 => rfl
  | 5 => rfl
  | 6 => rfl
  | 7 => rfl
  | 8 => rfl
  | n + 9 => rfl

theorem vF_5 {Z : aZ} {j v : Int} : vF (aU Z 8 j v) = aU (vF Z) 5 j v := by
  funext r b
  match r with
  | 0 => rfl
  | 1 => rfl
  | 2 => rfl
  | 3 => rfl
  | 4 => rfl
  | 5 => rfl
  | 6 => rfl
  | 7 => rfl
  | 8 => rfl
  | n + 9 => rfl

theorem vF_6 {Z : aZ} {j v : Int} : vF (aU Z 9 j v) = aU (vF Z) 6 j v := by
  funext r b
  match r with
  | 0 => rfl
  | 1 => rfl
  | 2 => rfl
  | 3 => rfl
  | 4 => rfl
  | 5 => rfl
  | 6 => rfl
  | 7 => rfl
  | 8 => rfl
  | n + 9 => rfl

theorem vF_7 {Z : aZ} {j v : Int} : vF (aU Z 10 j v) = aU (vF Z) 7 j v := by
  funext r b
  match r with
  | 0 => rfl
  | 1 => rfl
  | 2 => rfl
  | 3 => rfl
  | 4 => rfl
  | 5 => rfl
  | 6 => rfl
  | 7 => rfl
  | 8 => rfl
  | n + 9 => rfl

theorem vF_8 {Z : aZ} {j v : Int} : vF (aU Z 11 j v) = aU (vF Z) 8 j v := by
  funext r b
  match r with
  | 0 => rfl
  | 1 => rfl
  | 2 => rfl
  | 3 => rfl
  | 4 => rfl
  | 5 => rfl
  | 6 => rfl
  | 7 => rfl
  | 8 => rfl
  | n + 9 => rfl

theorem vF_w {Z : aZ} : vF Z 0 0 = Z 3 8 := rfl
theorem vF_k {Z : aZ} : vF Z 0 1 = Z 3 9 := rfl
theorem vF_s {Z : aZ} : vF Z 0 2 = Z 3 10 := rfl
def tFg (t : Int → Int) (n i : Int) : Int := tL t n i - 48
def qW (t : Int → Int) (n i : Int) (Q : aP) : aP := if Q 0 0 < 4 then aU (aU Q 1 (Q 0 0) (tFg t n (i + 1))) 0 0 (Q 0 0 + 1) else Q
def qC (t : Int → Int) (n i : Int) (Q : aP) : aP := if Q 0 1 < 4 then aU (aU (aU (aU Q 2 (Q 0 1) (tFg t n (i + 1))) 3 (Q 0 1) (tFg t n (i + 2))) 4 (Q 0 1) (tFg t n (i + 3))) 0 1 (Q 0 1 + 1) else Q
def qPr (k f : Int) : Int := if k = 3 then max 1 (f.tdiv 2) else f
def qS (t : Int → Int) (n i : Int) (Q : aP) : aP := if Q 0 2 < 5 then aU (aU (aU (aU (aU Q 5 (Q 0 2) (tFg t n (i + 1))) 6 (Q 0 2) (tFg t n (i + 2))) 7 (Q 0 2) (tFg t n (i + 4))) 8 (Q 0 2) (qPr (tFg t n (i + 4)) (tFg t n (i + 3)))) 0 2 (Q 0 2 + 1) else Q
def qStep (t : Int → Int) (n i : Int) (Q : aP) : aP := if t i = 87 then qW t n i Q else if t i = 67 then qC t n i Q else if t i = 83 then qS t n i Q else Q
/-- places 1 to k read -/
def qRun (t : Int → Int) (n : Int) (Q : aP) : Nat → aP
  | 0 => Q
  | k + 1 => qStep t n (k + 1) (qRun t n Q k)
theorem qRun_s {t : Int → Int} {n i : Int} {Q : aP} (hi : 1 ≤ i) : qRun t n Q i.toNat = qStep t n i (qRun t n Q (i - 1).toNat) := by
  rw [show i.toNat = (i - 1).toNat + 1 by omega]
  show qStep t n (((i - 1).toNat : Int) + 1) _ = _
  rw [show (((i - 1).toNat : Int) + 1) = i by omega]
def okCn (Z : aZ) : Prop := (0 ≤ Z 3 8 ∧ Z 3 8 ≤ 4) ∧ (0 ≤ Z 3 9 ∧ Z 3 9 ≤ 4) ∧ (0 ≤ Z 3 10 ∧ Z 3 10 ≤ 5)
def aPo (Z Z' : aZ) : Prop := ∀ a : Nat, ¬ (3 ≤ a ∧ a ≤ 11) → Z' a = Z a

set_option maxHeartbeats 4000000 in
set_option maxRecDepth 100000 in
theorem c_addWind {G : aG} {Z : aZ} {Y : aY} {i : Int} (hB : aB Z) (hT : okT Z) (hQ : okCn Z) (hi : 1 ≤ i ∧ i ≤ 52) : aSV G yX3_addWind cX3_addWind 3 none 2 42 [.ref (G.1 3), .ref (G.1 1), .int (aI i)] Z Y (fun Z' Y' => vF Z' = qW (Z 2) (Z 1 1) i (vF Z) ∧ okCn Z' ∧ aPo Z Z' ∧ aB Z' ∧ Y' = Y) := by
  refine aS.of (own := RX3) (by decide +kernel) rfl 0 (Nat.le_of_ble_eq_true rfl) (fun X hX hE => ?_)
  show AW X G 0 [some (.ref (G.1 3)), some (.ref (G.1 1)), some (.int (aI i))] [] Z Y
  obtain ⟨hQ1, hQ2, hQ3⟩ := id hQ
  obtain ⟨hT1, hT2⟩ := id hT
  have hf1 := tL_rng hT2 (Z 1 1) (i + 1)
  have hf2 := tL_rng hT2 (Z 1 1) (i + 2)
  have hf3 := tL_rng hT2 (Z 1 1) (i + 3)
  have hf4 := tL_rng hT2 (Z 1 1) (i + 4)
  refine a_aload_n hX rfl rfl dX3_addWind_0 (pc' := 1) rfl ?_
  refine a_getfI hX (ji := 8) rfl hB fl_X3_36 rfl (by decide) rfl dX3_addWind_1 (pc' := 4) rfl (fun hb => ?_)
  refine a_iconst hX dX3_addWind_4 (pc' := 5) rfl ?_
  refine a_icmp_lt hX (by omega) (by omega) dX3_addWind_5 (pc' := 8) rfl (tgt := 9) (by decide) (fun c5 => ?_) (fun c5 => ?_)
  · refine a_aload_n hX rfl rfl dX3_addWind_9 (pc' := 10) rfl ?_
    refine a_getfR hX (r := 4) fl_X3_9 rfl (by decide) rfl dX3_addWind_10 (pc' := 13) rfl ?_
    refine a_aload_n hX rfl rfl dX3_addWind_13 (pc' := 14) rfl ?_
    refine a_getfI hX (ji := 8) rfl hB fl_X3_36 rfl (by decide) rfl dX3_addWind_14 (pc' := 17) rfl (fun hb => ?_)
    refine a_aload_n hX rfl rfl dX3_addWind_17 (pc' := 18) rfl ?_
    refine a_iload_n hX rfl rfl dX3_addWind_18 (pc' := 19) rfl ?_
    refine a_iconst hX dX3_addWind_19 (pc' := 20) rfl ?_
    refine a_iadd hX dX3_addWind_20 (pc' := 21) rfl ?_
    refine a_cV1i hX cv_X3_65 (c_figureAt (by omega) hB hT) rfl (by decide) ⟨by decide, by decide⟩ (Nat.le_of_ble_eq_true rfl) dX3_addWind_21 (pc' := 24) rfl ?_
    refine a_iastB hX rfl (by decide) (by decide) (by omega) hB (by omega) dX3_addWind_24 (pc' := 25) rfl (fun hB => ?_)
    refine a_aload_n hX rfl rfl dX3_addWind_25 (pc' := 26) rfl ?_
    refine a_dup hX rfl dX3_addWind_26 (pc' := 27) rfl ?_
    
    refine a_getfI hX (ji := 8) rfl hB fl_X3_36 rfl (by decide) rfl dX3_addWind_27 (pc' := 30) rfl (fun hb => ?_)
    refine a_iconst hX dX3_addWind_30 (pc' := 31) rfl ?_
    rw [aU_ne (show 3 ≠ 4 by decide)]
    refine a_iadd hX dX3_addWind_31 (pc' := 32) rfl ?_
    refine a_putfIB hX fl_X3_36 nf_2_8 (ji := 8) rfl rfl (by decide) rfl hB (by omega) dX3_addWind_32 (pc' := 35) rfl (fun hB => ?_)
    refine a_vret hX dX3_addWind_35 (hE _ _ _ ?_)
    have ho : aPo Z (aU (aU Z 4 (Z 3 8) (tL (Z 2) (Z 1 1) (i + 1) - 48)) 3 8 (Z 3 8 + 1)) := fun a ha => by rw [aU_row (by omega), aU_row (by omega)]
    refine ⟨rfl, ?_, ?_, ho, hB, rfl⟩
    · unfold qW
      rw [vF_w, if_pos (by omega), vF_c0, vF_1]
      rfl
    · refine ⟨?_, ?_, ?_⟩
      · rw [aU_eq]; omega
      · rw [aU_nj (by decide), aU_ne (by decide)]; exact hQ2
      · rw [aU_nj (by decide), aU_ne (by decide)]; exact hQ3
  · refine a_vret hX dX3_addWind_8 (hE _ _ _ ?_)
    refine ⟨rfl, ?_, hQ, fun _ _ => rfl, hB, rfl⟩
    unfold qW
    rw [vF_w, if_neg (by omega)]

set_option maxHeartbeats 4000000 in
set_option maxRecDepth 100000 in
theorem c_addCloud {G : aG} {Z : aZ} {Y : aY} {i : Int} (hB : aB Z) (hT : okT Z) (hQ : okCn Z) (hi : 1 ≤ i ∧ i ≤ 52) : aSV G yX3_addCloud cX3_addCloud 3 none 2 42 [.ref (G.1 3), .ref (G.1 1), .int (aI i)] Z Y (fun Z' Y' => vF Z' = qC (Z 2) (Z 1 1) i (vF Z) ∧ okCn Z' ∧ aPo Z Z' ∧ aB Z' ∧ Y' = Y) := by
  refine aS.of (own := RX3) (by decide +kernel) rfl 0 (Nat.le_of_ble_eq_true rfl) (fun X hX hE => ?_)
  show AW X G 0 [some (.ref (G.1 3)), some (.ref (G.1 1)), some (.int (aI i))] [] Z Y
  obtain ⟨hQ1, hQ2, hQ3⟩ := id hQ
  obtain ⟨hT1, hT2⟩ := id hT
  have hf1 := tL_rng hT2 (Z 1 1) (i + 1)
  have hf2 := tL_rng hT2 (Z 1 1) (i + 2)
  have hf3 := tL_rng hT2 (Z 1 1) (i + 3)
  have hf4 := tL_rng hT2 (Z 1 1) (i + 4)
  refine a_aload_n hX rfl rfl dX3_addCloud_0 (pc' := 1) rfl ?_
  refine a_getfI hX (ji := 9) rfl hB fl_X3_40 rfl (by decide) rfl dX3_addCloud_1 (pc' := 4) rfl (fun hb => ?_)
  refine a_iconst hX dX3_addCloud_4 (pc' := 5) rfl ?_
  refine a_icmp_lt hX (by omega) (by omega) dX3_addCloud_5 (pc' := 8) rfl (tgt := 9) (by decide) (fun c5 => ?_) (fun c5 => ?_)
  · refine a_aload_n hX rfl rfl dX3_addCloud_9 (pc' := 10) rfl ?_
    refine a_getfR hX (r := 5) fl_X3_15 rfl (by decide) rfl dX3_addCloud_10 (pc' := 13) rfl ?_
    refine a_aload_n hX rfl rfl dX3_addCloud_13 (pc' := 14) rfl ?_
    refine a_getfI hX (ji := 9) rfl hB fl_X3_40 rfl (by decide) rfl dX3_addCloud_14 (pc' := 17) rfl (fun hb => ?_)
    refine a_aload_n hX rfl rfl dX3_addCloud_17 (pc' := 18) rfl ?_
    refine a_iload_n hX rfl rfl dX3_addCloud_18 (pc' := 19) rfl ?_
    refine a_iconst hX dX3_addCloud_19 (pc' := 20) rfl ?_
    refine a_iadd hX dX3_addCloud_20 (pc' := 21) rfl ?_
    refine a_cV1i hX cv_X3_65 (c_figureAt (by omega) hB hT) rfl (by decide) ⟨by decide, by decide⟩ (Nat.le_of_ble_eq_true rfl) dX3_addCloud_21 (pc' := 24) rfl ?_
    refine a_iastB hX rfl (by decide) (by decide) (by omega) hB (by omega) dX3_addCloud_24 (pc' := 25) rfl (fun hB => ?_)
    refine a_aload_n hX rfl rfl dX3_addCloud_25 (pc' := 26) rfl ?_
    refine a_getfR hX (r := 6) fl_X3_18 rfl (by decide) rfl dX3_addCloud_26 (pc' := 29) rfl ?_
    refine a_aload_n hX rfl rfl dX3_addCloud_29 (pc' := 30) rfl ?_
    refine a_getfI hX (ji := 9) rfl hB fl_X3_40 rfl (by decide) rfl dX3_addCloud_30 (pc' := 33) rfl (fun hb => ?_)
    simp only [aU_ne (show 3 ≠ 5 by decide), aU_ne (show 3 ≠ 6 by decide), aU_ne (show 3 ≠ 7 by decide), aU_ne (show 1 ≠ 5 by decide), aU_ne (show 1 ≠ 6 by decide), aU_row (show 2 ≠ 5 by decide), aU_row (show 2 ≠ 6 by decide)]
    have hT2b : okT (aU Z 5 (Z 3 9) (tL (Z 2) (Z 1 1) (i + 1) - 48)) := by
      refine ⟨?_, ?_⟩
      · simp only [aU_ne (show 1 ≠ 5 by decide), aU_ne (show 1 ≠ 6 by decide), aU_ne (show 1 ≠ 8 by decide), aU_ne (show 1 ≠ 9 by decide)]
        exact hT1
      · simp only [aU_ne (show 2 ≠ 5 by decide), aU_ne (show 2 ≠ 6 by decide), aU_ne (show 2 ≠ 8 by decide), aU_ne (show 2 ≠ 9 by decide)]
        exact hT2
    refine a_aload_n hX rfl rfl dX3_addCloud_33 (pc' := 34) rfl ?_
    refine a_iload_n hX rfl rfl dX3_addCloud_34 (pc' := 35) rfl ?_
    refine a_iconst hX dX3_addCloud_35 (pc' := 36) rfl ?_
    refine a_iadd hX dX3_addCloud_36 (pc' := 37) rfl ?_
    refine a_cV1i hX cv_X3_65 (c_figureAt (by omega) hB hT2b) rfl (by decide) ⟨by decide, by decide⟩ (Nat.le_of_ble_eq_true rfl) dX3_addCloud_37 (pc' := 40) rfl ?_
    simp only [aU_ne (show 3 ≠ 5 by decide), aU_ne (show 3 ≠ 6 by decide), aU_ne (show 3 ≠ 7 by decide), aU_ne (show 1 ≠ 5 by decide), aU_ne (show 1 ≠ 6 by decide), aU_row (show 2 ≠ 5 by decide), aU_row (show 2 ≠ 6 by decide)]
    refine a_iastB hX rfl (by decide) (by decide) (by omega) hB (by omega) dX3_addCloud_40 (pc' := 41) rfl (fun hB => ?_)
    refine a_aload_n hX rfl rfl dX3_addCloud_41 (pc' := 42) rfl ?_
    refine a_getfR hX (r := 7) fl_X3_21 rfl (by decide) rfl dX3_addCloud_42 (pc' := 45) rfl ?_
    refine a_aload_n hX rfl rfl dX3_addCloud_45 (pc' := 46) rfl ?_
    refine a_getfI hX (ji := 9) rfl hB fl_X3_40 rfl (by decide) rfl dX3_addCloud_46 (pc' := 49) rfl (fun hb => ?_)
    simp only [aU_ne (show 3 ≠ 5 by decide), aU_ne (show 3 ≠ 6 by decide), aU_ne (show 3 ≠ 7 by decide), aU_ne (show 1 ≠ 5 by decide), aU_ne (show 1 ≠ 6 by decide), aU_row (show 2 ≠ 5 by decide), aU_row (show 2 ≠ 6 by decide)]
    have hT3 : okT (aU (aU Z 5 (Z 3 9) (tL (Z 2) (Z 1 1) (i + 1) - 48)) 6 (Z 3 9) (tL (Z 2) (Z 1 1) (i + 2) - 48)) := by
      refine ⟨?_, ?_⟩
      · simp only [aU_ne (show 1 ≠ 5 by decide), aU_ne (show 1 ≠ 6 by decide), aU_ne (show 1 ≠ 8 by decide), aU_ne (show 1 ≠ 9 by decide)]
        exact hT1
      · simp only [aU_ne (show 2 ≠ 5 by decide), aU_ne (show 2 ≠ 6 by decide), aU_ne (show 2 ≠ 8 by decide), aU_ne (show 2 ≠ 9 by decide)]
        exact hT2
    refine a_aload_n hX rfl rfl dX3_addCloud_49 (pc' := 50) rfl ?_
    refine a_iload_n hX rfl rfl dX3_addCloud_50 (pc' := 51) rfl ?_
    refine a_iconst hX dX3_addCloud_51 (pc' := 52) rfl ?_
    refine a_iadd hX dX3_addCloud_52 (pc' := 53) rfl ?_
    refine a_cV1i hX cv_X3_65 (c_figureAt (by omega) hB hT3) rfl (by decide) ⟨by decide, by decide⟩ (Nat.le_of_ble_eq_true rfl) dX3_addCloud_53 (pc' := 56) rfl ?_
    simp only [aU_ne (show 3 ≠ 5 by decide), aU_ne (show 3 ≠ 6 by decide), aU_ne (show 3 ≠ 7 by decide), aU_ne (show 1 ≠ 5 by decide), aU_ne (show 1 ≠ 6 by decide), aU_row (show 2 ≠ 5 by decide), aU_row (show 2 ≠ 6 by decide)]
    refine a_iastB hX rfl (by decide) (by decide) (by omega) hB (by omega) dX3_addCloud_56 (pc' := 57) rfl (fun hB => ?_)
    refine a_aload_n hX rfl rfl dX3_addCloud_57 (pc' := 58) rfl ?_
    refine a_dup hX rfl dX3_addCloud_58 (pc' := 59) rfl ?_
    refine a_getfI hX (ji := 9) rfl hB fl_X3_40 rfl (by decide) rfl dX3_addCloud_59 (pc' := 62) rfl (fun hb => ?_)
    refine a_iconst hX dX3_addCloud_62 (pc' := 63) rfl ?_
    simp only [aU_ne (show 3 ≠ 5 by decide), aU_ne (show 3 ≠ 6 by decide), aU_ne (show 3 ≠ 7 by decide), aU_ne (show 1 ≠ 5 by decide), aU_ne (show 1 ≠ 6 by decide), aU_row (show 2 ≠ 5 by decide), aU_row (show 2 ≠ 6 by decide)]
    refine a_iadd hX dX3_addCloud_63 (pc' := 64) rfl ?_
    refine a_putfIB hX fl_X3_40 nf_2_9 (ji := 9) rfl rfl (by decide) rfl hB (by omega) dX3_addCloud_64 (pc' := 67) rfl (fun hB => ?_)
    refine a_vret hX dX3_addCloud_67 (hE _ _ _ ?_)
    have ho : aPo Z (aU (aU (aU (aU Z 5 (Z 3 9) (tL (Z 2) (Z 1 1) (i + 1) - 48)) 6 (Z 3 9) (tL (Z 2) (Z 1 1) (i + 2) - 48)) 7 (Z 3 9) (tL (Z 2) (Z 1 1) (i + 3) - 48)) 3 9 (Z 3 9 + 1)) := fun a ha => by rw [aU_row (by omega), aU_row (by omega), aU_row (by omega), aU_row (by omega)]
    refine ⟨rfl, ?_, ?_, ho, hB, rfl⟩
    · unfold qC
      rw [vF_k, if_pos (by omega), vF_c1, vF_4, vF_3, vF_2]
      rfl
    · refine ⟨?_, ?_, ?_⟩
      · rw [aU_nj (by decide), aU_ne (by decide), aU_ne (by decide), aU_ne (by decide)]; exact hQ1
      · rw [aU_eq]; omega
      · rw [aU_nj (by decide), aU_ne (by decide), aU_ne (by decide), aU_ne (by decide)]; exact hQ3
  · refine a_vret hX dX3_addCloud_8 (hE _ _ _ ?_)
    refine ⟨rfl, ?_, hQ, fun _ _ => rfl, hB, rfl⟩
    unfold qC
    rw [vF_k, if_neg (by omega)]

theorem aTd2 (x : Int) : (0 ≤ x → x.tdiv 2 = x / 2) ∧ (x < 0 → x ≤ x.tdiv 2 ∧ x.tdiv 2 ≤ 0) := by
  refine ⟨fun h => Int.tdiv_eq_ediv_of_nonneg h, fun h => ?_⟩
  have e : x.tdiv 2 = -((-x) / 2) := by
    have := Int.neg_tdiv (a := -x) (b := 2)
    rw [Int.neg_neg] at this
    rw [this, Int.tdiv_eq_ediv_of_nonneg (by omega)]
  omega
theorem qPr3 {k f : Int} (h : k = 3) : max 1 (f.tdiv 2) = qPr k f := by unfold qPr; rw [if_pos h]
theorem qPrN {k f : Int} (h : k ≠ 3) : f = qPr k f := by unfold qPr; rw [if_neg h]
theorem qPr_rng (k f : Int) : (f < qPr k f + 1 ∨ qPr k f ≤ f ∨ qPr k f = 1) ∧ (-1000 ≤ f ∧ f ≤ 1000 → -1000 ≤ qPr k f ∧ qPr k f ≤ 1000) := by
  have := aTd2 f
  unfold qPr
  split <;> omega

set_option maxHeartbeats 4000000 in
set_option maxRecDepth 100000 in
theorem c_addPaper {G : aG} {Z : aZ} {Y : aY} {i : Int} (hB : aB Z) (hT : okT Z) (hQ : okCn Z) (hi : 1 ≤ i ∧ i ≤ 52) : aSV G yX3_addPaper cX3_addPaper 5 none 2 42 [.ref (G.1 3), .ref (G.1 1), .int (aI i)] Z Y (fun Z' Y' => vF Z' = qS (Z 2) (Z 1 1) i (vF Z) ∧ okCn Z' ∧ aPo Z Z' ∧ aB Z' ∧ Y' = Y) := by
  refine aS.of (own := RX3) (by decide +kernel) rfl 2 (Nat.le_of_ble_eq_true rfl) (fun X hX hE => ?_)
  show AW X G 0 [some (.ref (G.1 3)), some (.ref (G.1 1)), some (.int (aI i)), none, none] [] Z Y
  obtain ⟨hQ1, hQ2, hQ3⟩ := id hQ
  obtain ⟨hT1, hT2⟩ := id hT
  have hf1 := tL_rng hT2 (Z 1 1) (i + 1)
  have hf2 := tL_rng hT2 (Z 1 1) (i + 2)
  have hf3 := tL_rng hT2 (Z 1 1) (i + 3)
  have hf4 := tL_rng hT2 (Z 1 1) (i + 4)
  refine a_aload_n hX rfl rfl dX3_addPaper_0 (pc' := 1) rfl ?_
  refine a_getfI hX (ji := 10) rfl hB fl_X3_43 rfl (by decide) rfl dX3_addPaper_1 (pc' := 4) rfl (fun hb => ?_)
  refine a_iconst hX dX3_addPaper_4 (pc' := 5) rfl ?_
  refine a_icmp_lt hX (by omega) (by omega) dX3_addPaper_5 (pc' := 8) rfl (tgt := 9) (by decide) (fun c5 => ?_) (fun c5 => ?_)
  · refine a_aload_n hX rfl rfl dX3_addPaper_9 (pc' := 10) rfl ?_
    refine a_getfR hX (r := 8) fl_X3_24 rfl (by decide) rfl dX3_addPaper_10 (pc' := 13) rfl ?_
    refine a_aload_n hX rfl rfl dX3_addPaper_13 (pc' := 14) rfl ?_
    refine a_getfI hX (ji := 10) rfl hB fl_X3_43 rfl (by decide) rfl dX3_addPaper_14 (pc' := 17) rfl (fun hb => ?_)
    refine a_aload_n hX rfl rfl dX3_addPaper_17 (pc' := 18) rfl ?_
    refine a_iload_n hX rfl rfl dX3_addPaper_18 (pc' := 19) rfl ?_
    refine a_iconst hX dX3_addPaper_19 (pc' := 20) rfl ?_
    refine a_iadd hX dX3_addPaper_20 (pc' := 21) rfl ?_
    refine a_cV1i hX cv_X3_65 (c_figureAt (by omega) hB hT) rfl (by decide) ⟨by decide, by decide⟩ (Nat.le_of_ble_eq_true rfl) dX3_addPaper_21 (pc' := 24) rfl ?_
    refine a_iastB hX rfl (by decide) (by decide) (by omega) hB (by omega) dX3_addPaper_24 (pc' := 25) rfl (fun hB => ?_)
    refine a_aload_n hX rfl rfl dX3_addPaper_25 (pc' := 26) rfl ?_
    refine a_getfR hX (r := 9) fl_X3_27 rfl (by decide) rfl dX3_addPaper_26 (pc' := 29) rfl ?_
    refine a_aload_n hX rfl rfl dX3_addPaper_29 (pc' := 30) rfl ?_
    refine a_getfI hX (ji := 10) rfl hB fl_X3_43 rfl (by decide) rfl dX3_addPaper_30 (pc' := 33) rfl (fun hb => ?_)
    simp only [aU_ne (show 3 ≠ 8 by decide), aU_ne (show 3 ≠ 9 by decide), aU_ne (show 3 ≠ 10 by decide), aU_ne (show 3 ≠ 11 by decide), aU_ne (show 1 ≠ 8 by decide), aU_ne (show 1 ≠ 9 by decide), aU_row (show 2 ≠ 8 by decide), aU_row (show 2 ≠ 9 by decide)]
    have hT2b : okT (aU Z 8 (Z 3 10) (tL (Z 2) (Z 1 1) (i + 1) - 48)) := by
      refine ⟨?_, ?_⟩
      · simp only [aU_ne (show 1 ≠ 5 by decide), aU_ne (show 1 ≠ 6 by decide), aU_ne (show 1 ≠ 8 by decide), aU_ne (show 1 ≠ 9 by decide)]
        exact hT1
      · simp only [aU_ne (show 2 ≠ 5 by decide), aU_ne (show 2 ≠ 6 by decide), aU_ne (show 2 ≠ 8 by decide), aU_ne (show 2 ≠ 9 by decide)]
        exact hT2
    refine a_aload_n hX rfl rfl dX3_addPaper_33 (pc' := 34) rfl ?_
    refine a_iload_n hX rfl rfl dX3_addPaper_34 (pc' := 35) rfl ?_
    refine a_iconst hX dX3_addPaper_35 (pc' := 36) rfl ?_
    refine a_iadd hX dX3_addPaper_36 (pc' := 37) rfl ?_
    refine a_cV1i hX cv_X3_65 (c_figureAt (by omega) hB hT2b) rfl (by decide) ⟨by decide, by decide⟩ (Nat.le_of_ble_eq_true rfl) dX3_addPaper_37 (pc' := 40) rfl ?_
    simp only [aU_ne (show 3 ≠ 8 by decide), aU_ne (show 3 ≠ 9 by decide), aU_ne (show 3 ≠ 10 by decide), aU_ne (show 3 ≠ 11 by decide), aU_ne (show 1 ≠ 8 by decide), aU_ne (show 1 ≠ 9 by decide), aU_row (show 2 ≠ 8 by decide), aU_row (show 2 ≠ 9 by decide)]
    refine a_iastB hX rfl (by decide) (by decide) (by omega) hB (by omega) dX3_addPaper_40 (pc' := 41) rfl (fun hB => ?_)
    have hT3 : okT (aU (aU Z 8 (Z 3 10) (tL (Z 2) (Z 1 1) (i + 1) - 48)) 9 (Z 3 10) (tL (Z 2) (Z 1 1) (i + 2) - 48)) := by
      refine ⟨?_, ?_⟩
      · simp only [aU_ne (show 1 ≠ 5 by decide), aU_ne (show 1 ≠ 6 by decide), aU_ne (show 1 ≠ 8 by decide), aU_ne (show 1 ≠ 9 by decide)]
        exact hT1
      · simp only [aU_ne (show 2 ≠ 5 by decide), aU_ne (show 2 ≠ 6 by decide), aU_ne (show 2 ≠ 8 by decide), aU_ne (show 2 ≠ 9 by decide)]
        exact hT2
    refine a_aload_n hX rfl rfl dX3_addPaper_41 (pc' := 42) rfl ?_
    refine a_iload_n hX rfl rfl dX3_addPaper_42 (pc' := 43) rfl ?_
    refine a_iconst hX dX3_addPaper_43 (pc' := 44) rfl ?_
    refine a_iadd hX dX3_addPaper_44 (pc' := 45) rfl ?_
    refine a_cV1i hX cv_X3_65 (c_figureAt (by omega) hB hT3) rfl (by decide) ⟨by decide, by decide⟩ (Nat.le_of_ble_eq_true rfl) dX3_addPaper_45 (pc' := 48) rfl ?_
    simp only [aU_ne (show 3 ≠ 8 by decide), aU_ne (show 3 ≠ 9 by decide), aU_ne (show 3 ≠ 10 by decide), aU_ne (show 3 ≠ 11 by decide), aU_ne (show 1 ≠ 8 by decide), aU_ne (show 1 ≠ 9 by decide), aU_row (show 2 ≠ 8 by decide), aU_row (show 2 ≠ 9 by decide)]
    refine a_istore3 hX rfl (by decide) rfl dX3_addPaper_48 (pc' := 49) rfl ?_
    refine a_aload_n hX rfl rfl dX3_addPaper_49 (pc' := 50) rfl ?_
    refine a_iload_n hX rfl rfl dX3_addPaper_50 (pc' := 51) rfl ?_
    refine a_iconst hX dX3_addPaper_51 (pc' := 52) rfl ?_
    refine a_iadd hX dX3_addPaper_52 (pc' := 53) rfl ?_
    refine a_cV1i hX cv_X3_65 (c_figureAt (by omega) hB hT3) rfl (by decide) ⟨by decide, by decide⟩ (Nat.le_of_ble_eq_true rfl) dX3_addPaper_53 (pc' := 56) rfl ?_
    simp only [aU_ne (show 3 ≠ 8 by decide), aU_ne (show 3 ≠ 9 by decide), aU_ne (show 3 ≠ 10 by decide), aU_ne (show 3 ≠ 11 by decide), aU_ne (show 1 ≠ 8 by decide), aU_ne (show 1 ≠ 9 by decide), aU_row (show 2 ≠ 8 by decide), aU_row (show 2 ≠ 9 by decide)]
    refine a_istore4 hX (by decide) rfl dX3_addPaper_56 (pc' := 58) rfl ?_
    refine a_aload_n hX rfl rfl dX3_addPaper_58 (pc' := 59) rfl ?_
    refine a_getfR hX (r := 10) fl_X3_30 rfl (by decide) rfl dX3_addPaper_59 (pc' := 62) rfl ?_
    refine a_aload_n hX rfl rfl dX3_addPaper_62 (pc' := 63) rfl ?_
    refine a_getfI hX (ji := 10) rfl hB fl_X3_43 rfl (by decide) rfl dX3_addPaper_63 (pc' := 66) rfl (fun hb => ?_)
    simp only [aU_ne (show 3 ≠ 8 by decide), aU_ne (show 3 ≠ 9 by decide), aU_ne (show 3 ≠ 10 by decide), aU_ne (show 3 ≠ 11 by decide), aU_ne (show 1 ≠ 8 by decide), aU_ne (show 1 ≠ 9 by decide), aU_row (show 2 ≠ 8 by decide), aU_row (show 2 ≠ 9 by decide)]
    refine a_iload hX rfl dX3_addPaper_66 (pc' := 68) rfl ?_
    refine a_iastB hX rfl (by decide) (by decide) (by omega) hB (by omega) dX3_addPaper_68 (pc' := 69) rfl (fun hB => ?_)
    refine a_aload_n hX rfl rfl dX3_addPaper_69 (pc' := 70) rfl ?_
    refine a_getfR hX (r := 11) fl_X3_33 rfl (by decide) rfl dX3_addPaper_70 (pc' := 73) rfl ?_
    refine a_aload_n hX rfl rfl dX3_addPaper_73 (pc' := 74) rfl ?_
    refine a_getfI hX (ji := 10) rfl hB fl_X3_43 rfl (by decide) rfl dX3_addPaper_74 (pc' := 77) rfl (fun hb => ?_)
    simp only [aU_ne (show 3 ≠ 8 by decide), aU_ne (show 3 ≠ 9 by decide), aU_ne (show 3 ≠ 10 by decide), aU_ne (show 3 ≠ 11 by decide), aU_ne (show 1 ≠ 8 by decide), aU_ne (show 1 ≠ 9 by decide), aU_row (show 2 ≠ 8 by decide), aU_row (show 2 ≠ 9 by decide)]
    refine a_iload hX rfl dX3_addPaper_77 (pc' := 79) rfl ?_
    refine a_iconst hX dX3_addPaper_79 (pc' := 80) rfl ?_
    refine a_icmp_ne hX (by omega) (by omega) dX3_addPaper_80 (pc' := 83) rfl (tgt := 93) (by decide) (fun c80 => ?_) (fun c80 => ?_)
    · refine a_iload_n hX rfl rfl dX3_addPaper_93 (pc' := 94) rfl ?_
      first | rw [qPr3 (k := (tL (Z 2) (Z 1 1) (i + 4) - 48)) (f := (tL (Z 2) (Z 1 1) (i + 3) - 48)) c80] | rw [qPrN (k := (tL (Z 2) (Z 1 1) (i + 4) - 48)) (f := (tL (Z 2) (Z 1 1) (i + 3) - 48)) c80]
      have hpr := qPr_rng (tL (Z 2) (Z 1 1) (i + 4) - 48) (tL (Z 2) (Z 1 1) (i + 3) - 48)
      refine a_iastB hX rfl (by decide) (by decide) (by omega) hB (by omega) dX3_addPaper_94 (pc' := 95) rfl (fun hB => ?_)
      refine a_aload_n hX rfl rfl dX3_addPaper_95 (pc' := 96) rfl ?_
      refine a_dup hX rfl dX3_addPaper_96 (pc' := 97) rfl ?_
      refine a_getfI hX (ji := 10) rfl hB fl_X3_43 rfl (by decide) rfl dX3_addPaper_97 (pc' := 100) rfl (fun hb => ?_)
      simp only [aU_ne (show 3 ≠ 8 by decide), aU_ne (show 3 ≠ 9 by decide), aU_ne (show 3 ≠ 10 by decide), aU_ne (show 3 ≠ 11 by decide), aU_ne (show 1 ≠ 8 by decide), aU_ne (show 1 ≠ 9 by decide), aU_row (show 2 ≠ 8 by decide), aU_row (show 2 ≠ 9 by decide)]
      refine a_iconst hX dX3_addPaper_100 (pc' := 101) rfl ?_
      refine a_iadd hX dX3_addPaper_101 (pc' := 102) rfl ?_
      refine a_putfIB hX fl_X3_43 nf_2_10 (ji := 10) rfl rfl (by decide) rfl hB (by omega) dX3_addPaper_102 (pc' := 105) rfl (fun hB => ?_)
      refine a_vret hX dX3_addPaper_105 (hE _ _ _ ?_)
      have ho : aPo Z (aU (aU (aU (aU (aU Z 8 (Z 3 10) (tL (Z 2) (Z 1 1) (i + 1) - 48)) 9 (Z 3 10) (tL (Z 2) (Z 1 1) (i + 2) - 48)) 10 (Z 3 10) (tL (Z 2) (Z 1 1) (i + 4) - 48)) 11 (Z 3 10) (qPr (tL (Z 2) (Z 1 1) (i + 4) - 48) (tL (Z 2) (Z 1 1) (i + 3) - 48))) 3 10 (Z 3 10 + 1)) := fun a ha => by rw [aU_row (by omega), aU_row (by omega), aU_row (by omega), aU_row (by omega), aU_row (by omega)]
      refine ⟨rfl, ?_, ?_, ho, hB, rfl⟩
      · unfold qS
        rw [vF_s, if_pos (by omega), vF_c2, vF_8, vF_7, vF_6, vF_5]
        rfl
      · refine ⟨?_, ?_, ?_⟩
        · rw [aU_nj (by decide), aU_ne (by decide), aU_ne (by decide), aU_ne (by decide), aU_ne (by decide)]; exact hQ1
        · rw [aU_nj (by decide), aU_ne (by decide), aU_ne (by decide), aU_ne (by decide), aU_ne (by decide)]; exact hQ2
        · rw [aU_eq]; omega
    · refine a_iconst hX dX3_addPaper_83 (pc' := 84) rfl ?_
      refine a_iload_n hX rfl rfl dX3_addPaper_84 (pc' := 85) rfl ?_
      refine a_iconst hX dX3_addPaper_85 (pc' := 86) rfl ?_
      refine a_idivT hX (by omega) (by omega) dX3_addPaper_86 (pc' := 87) rfl ?_
      have hdv := aTd2 (tL (Z 2) (Z 1 1) (i + 3) - 48)
      refine a_max hX cs_X3_68 (by omega) (by omega) (by decide) (Nat.le_of_ble_eq_true rfl) dX3_addPaper_87 (pc' := 90) rfl ?_
      refine a_goto hX dX3_addPaper_90 (tgt := 94) (by decide) ?_
      first | rw [qPr3 (k := (tL (Z 2) (Z 1 1) (i + 4) - 48)) (f := (tL (Z 2) (Z 1 1) (i + 3) - 48)) c80] | rw [qPrN (k := (tL (Z 2) (Z 1 1) (i + 4) - 48)) (f := (tL (Z 2) (Z 1 1) (i + 3) - 48)) c80]
      have hpr := qPr_rng (tL (Z 2) (Z 1 1) (i + 4) - 48) (tL (Z 2) (Z 1 1) (i + 3) - 48)
      refine a_iastB hX rfl (by decide) (by decide) (by omega) hB (by omega) dX3_addPaper_94 (pc' := 95) rfl (fun hB => ?_)
      refine a_aload_n hX rfl rfl dX3_addPaper_95 (pc' := 96) rfl ?_
      refine a_dup hX rfl dX3_addPaper_96 (pc' := 97) rfl ?_
      refine a_getfI hX (ji := 10) rfl hB fl_X3_43 rfl (by decide) rfl dX3_addPaper_97 (pc' := 100) rfl (fun hb => ?_)
      simp only [aU_ne (show 3 ≠ 8 by decide), aU_ne (show 3 ≠ 9 by decide), aU_ne (show 3 ≠ 10 by decide), aU_ne (show 3 ≠ 11 by decide), aU_ne (show 1 ≠ 8 by decide), aU_ne (show 1 ≠ 9 by decide), aU_row (show 2 ≠ 8 by decide), aU_row (show 2 ≠ 9 by decide)]
      refine a_iconst hX dX3_addPaper_100 (pc' := 101) rfl ?_
      refine a_iadd hX dX3_addPaper_101 (pc' := 102) rfl ?_
      refine a_putfIB hX fl_X3_43 nf_2_10 (ji := 10) rfl rfl (by decide) rfl hB (by omega) dX3_addPaper_102 (pc' := 105) rfl (fun hB => ?_)
      refine a_vret hX dX3_addPaper_105 (hE _ _ _ ?_)
      have ho : aPo Z (aU (aU (aU (aU (aU Z 8 (Z 3 10) (tL (Z 2) (Z 1 1) (i + 1) - 48)) 9 (Z 3 10) (tL (Z 2) (Z 1 1) (i + 2) - 48)) 10 (Z 3 10) (tL (Z 2) (Z 1 1) (i + 4) - 48)) 11 (Z 3 10) (qPr (tL (Z 2) (Z 1 1) (i + 4) - 48) (tL (Z 2) (Z 1 1) (i + 3) - 48))) 3 10 (Z 3 10 + 1)) := fun a ha => by rw [aU_row (by omega), aU_row (by omega), aU_row (by omega), aU_row (by omega), aU_row (by omega)]
      refine ⟨rfl, ?_, ?_, ho, hB, rfl⟩
      · unfold qS
        rw [vF_s, if_pos (by omega), vF_c2, vF_8, vF_7, vF_6, vF_5]
        rfl
      · refine ⟨?_, ?_, ?_⟩
        · rw [aU_nj (by decide), aU_ne (by decide), aU_ne (by decide), aU_ne (by decide), aU_ne (by decide)]; exact hQ1
        · rw [aU_nj (by decide), aU_ne (by decide), aU_ne (by decide), aU_ne (by decide), aU_ne (by decide)]; exact hQ2
        · rw [aU_eq]; omega
  · refine a_vret hX dX3_addPaper_8 (hE _ _ _ ?_)
    refine ⟨rfl, ?_, hQ, fun _ _ => rfl, hB, rfl⟩
    unfold qS
    rw [vF_s, if_neg (by omega)]

set_option maxHeartbeats 4000000 in
set_option maxRecDepth 100000 in
theorem c_read {G : aG} {Z : aZ} {Y : aY} (hB : aB Z) (hT : okT Z) : aSV G yX3_read cX3_read 4 none 3 66 [.ref (G.1 3), .ref (G.1 1)] Z Y (fun Z' Y' => vF Z' = qRun (Z 2) (Z 1 1) (aU (aU (aU (vF Z) 0 0 0) 0 1 0) 0 2 0) (Z 1 1 - 1).toNat ∧ okCn Z' ∧ aPo Z Z' ∧ aB Z' ∧ Y' = Y) := by
  refine aS.of (own := RX3) (by decide +kernel) rfl 2 (Nat.le_of_ble_eq_true rfl) (fun X hX hE => ?_)
  show AW X G 0 [some (.ref (G.1 3)), some (.ref (G.1 1)), none, none] [] Z Y
  obtain ⟨hT1, hT2⟩ := id hT
  refine a_aload_n hX rfl rfl dX3_read_0 (pc' := 1) rfl ?_
  refine a_iconst hX dX3_read_1 (pc' := 2) rfl ?_
  refine a_putfIB hX fl_X3_36 nf_2_8 (ji := 8) rfl rfl (by decide) rfl hB (by omega) dX3_read_2 (pc' := 5) rfl (fun hB => ?_)
  refine a_aload_n hX rfl rfl dX3_read_5 (pc' := 6) rfl ?_
  refine a_iconst hX dX3_read_6 (pc' := 7) rfl ?_
  refine a_putfIB hX fl_X3_40 nf_2_9 (ji := 9) rfl rfl (by decide) rfl hB (by omega) dX3_read_7 (pc' := 10) rfl (fun hB => ?_)
  refine a_aload_n hX rfl rfl dX3_read_10 (pc' := 11) rfl ?_
  refine a_iconst hX dX3_read_11 (pc' := 12) rfl ?_
  refine a_putfIB hX fl_X3_43 nf_2_10 (ji := 10) rfl rfl (by decide) rfl hB (by omega) dX3_read_12 (pc' := 15) rfl (fun hB => ?_)
  refine a_iconst hX dX3_read_15 (pc' := 16) rfl ?_
  refine a_istore2 hX rfl (by decide) rfl dX3_read_16 (pc' := 17) rfl ?_
  have L17 : ∀ (n : Nat) (i : Int) (Z1 : aZ), (1 ≤ i ∧ (i ≤ Z 1 1 ∨ i = 1)) → aB Z1 → okCn Z1 → aPo Z Z1 → vF Z1 = qRun (Z 2) (Z 1 1) (aU (aU (aU (vF Z) 0 0 0) 0 1 0) 0 2 0) (i - 1).toNat → (53 - i).toNat < n → AW X G 17 [some (.ref (G.1 3)), some (.ref (G.1 1)), some (.int (aI i)), none] [] Z1 Y := by
    intro n
    induction n with
    | zero =>
      intro i Z1 hi hB hQ ho hv hn
      omega
    | succ n ih =>
      intro i Z1 hi hB hQ ho hv hn
      have e11 : Z1 1 1 = Z 1 1 := by rw [ho 1 (by decide)]
      have e2 : Z1 2 = Z 2 := ho 2 (by decide)
      have hTa : okT Z1 := ⟨by rw [e11]; exact hT1, by rw [e2]; exact hT2⟩
      refine a_iload_n hX rfl rfl dX3_read_17 (pc' := 18) rfl ?_
      refine a_aload_n hX rfl rfl dX3_read_18 (pc' := 19) rfl ?_
      refine a_getfI hX (ji := 1) rfl hB fl_X3_46 rfl (by decide) rfl dX3_read_19 (pc' := 22) rfl (fun hb => ?_)
      refine a_icmp_ge hX (by omega) (by omega) dX3_read_22 (pc' := 25) rfl (tgt := 79) (by decide) (fun c22 => ?_) (fun c22 => ?_)
      · refine a_vret hX dX3_read_79 (hE _ _ _ ?_)
        refine ⟨rfl, ?_, hQ, ho, hB, rfl⟩
        rw [hv]
        congr 1
        omega
      · refine a_aload_n hX rfl rfl dX3_read_25 (pc' := 26) rfl ?_
        refine a_iload_n hX rfl rfl dX3_read_26 (pc' := 27) rfl ?_
        refine a_cV1i hX cv_X3_51 (c_letterAt (by omega) hB hTa) rfl (by decide) ⟨by decide, by decide⟩ (Nat.le_of_ble_eq_true rfl) dX3_read_27 (pc' := 30) rfl ?_
        have htl : tL (Z1 2) (Z1 1 1) i = Z 2 i := by unfold tL; rw [if_pos (by omega), e2]
        rw [htl]
        have hz2 := hT2 i
        refine a_istore3 hX rfl (by decide) rfl dX3_read_30 (pc' := 31) rfl ?_
        refine a_iload_n hX rfl rfl dX3_read_31 (pc' := 32) rfl ?_
        refine a_bipush hX rfl dX3_read_32 (pc' := 34) rfl ?_
        refine a_icmp_ne hX (by omega) (by omega) dX3_read_34 (pc' := 37) rfl (tgt := 46) (by decide) (fun c34 => ?_) (fun c34 => ?_)
        · refine a_iload_n hX rfl rfl dX3_read_46 (pc' := 47) rfl ?_
          refine a_bipush hX rfl dX3_read_47 (pc' := 49) rfl ?_
          refine a_icmp_ne hX (by omega) (by omega) dX3_read_49 (pc' := 52) rfl (tgt := 61) (by decide) (fun c49 => ?_) (fun c49 => ?_)
          · refine a_iload_n hX rfl rfl dX3_read_61 (pc' := 62) rfl ?_
            refine a_bipush hX rfl dX3_read_62 (pc' := 64) rfl ?_
            refine a_icmp_ne hX (by omega) (by omega) dX3_read_64 (pc' := 67) rfl (tgt := 73) (by decide) (fun c64 => ?_) (fun c64 => ?_)
            · refine a_iinc2 hX (by decide) rfl dX3_read_73 (pc' := 76) rfl ?_
              refine a_goto hX dX3_read_76 (tgt := 17) (by decide) ?_
              refine AW.le ?_ (ih (i + 1) _ (by omega) hB hQ ho ?_ (by omega))
              · exact ⟨rfl, rfl, rfl, trivial⟩
              · rw [show i + 1 - 1 = i by omega, qRun_s hi.1, ← hv]
                unfold qStep
                first
                  | (rw [if_pos (show Z 2 i = 87 by omega)]; exact g1)
                  | (rw [if_neg (show ¬ Z 2 i = 87 by omega), if_pos (show Z 2 i = 67 by omega)]; exact g1)
                  | (rw [if_neg (show ¬ Z 2 i = 87 by omega), if_neg (show ¬ Z 2 i = 67 by omega), if_pos (show Z 2 i = 83 by omega)]; exact g1)
                  | rw [if_neg (show ¬ Z 2 i = 87 by omega), if_neg (show ¬ Z 2 i = 67 by omega), if_neg (show ¬ Z 2 i = 83 by omega)]
            · refine a_aload_n hX rfl rfl dX3_read_67 (pc' := 68) rfl ?_
              refine a_aload_n hX rfl rfl dX3_read_68 (pc' := 69) rfl ?_
              refine a_iload_n hX rfl rfl dX3_read_69 (pc' := 70) rfl ?_
              refine a_cV2V hX cv_X3_62 (c_addPaper hB hTa hQ (by omega)) rfl (by decide) ⟨by decide, by decide⟩ (Nat.le_of_ble_eq_true rfl) dX3_read_70 (pc' := 73) rfl (fun Z70 Y70 h70 => ?_)
              obtain ⟨g1, hQ, go, hB, rfl⟩ := h70
              rw [e2, e11] at g1
              have ho : aPo Z Z70 := fun a ha => (go a ha).trans (ho a ha)
              refine a_iinc2 hX (by decide) rfl dX3_read_73 (pc' := 76) rfl ?_
              refine a_goto hX dX3_read_76 (tgt := 17) (by decide) ?_
              refine AW.le ?_ (ih (i + 1) _ (by omega) hB hQ ho ?_ (by omega))
              · exact ⟨rfl, rfl, rfl, trivial⟩
              · rw [show i + 1 - 1 = i by omega, qRun_s hi.1, ← hv]
                unfold qStep
                first
                  | (rw [if_pos (show Z 2 i = 87 by omega)]; exact g1)
                  | (rw [if_neg (show ¬ Z 2 i = 87 by omega), if_pos (show Z 2 i = 67 by omega)]; exact g1)
                  | (rw [if_neg (show ¬ Z 2 i = 87 by omega), if_neg (show ¬ Z 2 i = 67 by omega), if_pos (show Z 2 i = 83 by omega)]; exact g1)
                  | rw [if_neg (show ¬ Z 2 i = 87 by omega), if_neg (show ¬ Z 2 i = 67 by omega), if_neg (show ¬ Z 2 i = 83 by omega)]
          · refine a_aload_n hX rfl rfl dX3_read_52 (pc' := 53) rfl ?_
            refine a_aload_n hX rfl rfl dX3_read_53 (pc' := 54) rfl ?_
            refine a_iload_n hX rfl rfl dX3_read_54 (pc' := 55) rfl ?_
            refine a_cV2V hX cv_X3_59 (c_addCloud hB hTa hQ (by omega)) rfl (by decide) ⟨by decide, by decide⟩ (Nat.le_of_ble_eq_true rfl) dX3_read_55 (pc' := 58) rfl (fun Z55 Y55 h55 => ?_)
            obtain ⟨g1, hQ, go, hB, rfl⟩ := h55
            rw [e2, e11] at g1
            have ho : aPo Z Z55 := fun a ha => (go a ha).trans (ho a ha)
            refine a_goto hX dX3_read_58 (tgt := 73) (by decide) ?_
            refine a_iinc2 hX (by decide) rfl dX3_read_73 (pc' := 76) rfl ?_
            refine a_goto hX dX3_read_76 (tgt := 17) (by decide) ?_
            refine AW.le ?_ (ih (i + 1) _ (by omega) hB hQ ho ?_ (by omega))
            · exact ⟨rfl, rfl, rfl, trivial⟩
            · rw [show i + 1 - 1 = i by omega, qRun_s hi.1, ← hv]
              unfold qStep
              first
                | (rw [if_pos (show Z 2 i = 87 by omega)]; exact g1)
                | (rw [if_neg (show ¬ Z 2 i = 87 by omega), if_pos (show Z 2 i = 67 by omega)]; exact g1)
                | (rw [if_neg (show ¬ Z 2 i = 87 by omega), if_neg (show ¬ Z 2 i = 67 by omega), if_pos (show Z 2 i = 83 by omega)]; exact g1)
                | rw [if_neg (show ¬ Z 2 i = 87 by omega), if_neg (show ¬ Z 2 i = 67 by omega), if_neg (show ¬ Z 2 i = 83 by omega)]
        · refine a_aload_n hX rfl rfl dX3_read_37 (pc' := 38) rfl ?_
          refine a_aload_n hX rfl rfl dX3_read_38 (pc' := 39) rfl ?_
          refine a_iload_n hX rfl rfl dX3_read_39 (pc' := 40) rfl ?_
          refine a_cV2V hX cv_X3_55 (c_addWind hB hTa hQ (by omega)) rfl (by decide) ⟨by decide, by decide⟩ (Nat.le_of_ble_eq_true rfl) dX3_read_40 (pc' := 43) rfl (fun Z40 Y40 h40 => ?_)
          obtain ⟨g1, hQ, go, hB, rfl⟩ := h40
          rw [e2, e11] at g1
          have ho : aPo Z Z40 := fun a ha => (go a ha).trans (ho a ha)
          refine a_goto hX dX3_read_43 (tgt := 73) (by decide) ?_
          refine a_iinc2 hX (by decide) rfl dX3_read_73 (pc' := 76) rfl ?_
          refine a_goto hX dX3_read_76 (tgt := 17) (by decide) ?_
          refine AW.le ?_ (ih (i + 1) _ (by omega) hB hQ ho ?_ (by omega))
          · exact ⟨rfl, rfl, rfl, trivial⟩
          · rw [show i + 1 - 1 = i by omega, qRun_s hi.1, ← hv]
            unfold qStep
            first
              | (rw [if_pos (show Z 2 i = 87 by omega)]; exact g1)
              | (rw [if_neg (show ¬ Z 2 i = 87 by omega), if_pos (show Z 2 i = 67 by omega)]; exact g1)
              | (rw [if_neg (show ¬ Z 2 i = 87 by omega), if_neg (show ¬ Z 2 i = 67 by omega), if_pos (show Z 2 i = 83 by omega)]; exact g1)
              | rw [if_neg (show ¬ Z 2 i = 87 by omega), if_neg (show ¬ Z 2 i = 67 by omega), if_neg (show ¬ Z 2 i = 83 by omega)]
  refine AW.le ?_ (L17 54 1 _ (by omega) hB ?_ (fun a ha => by rw [aU_row (by omega), aU_row (by omega), aU_row (by omega)]) ?_ (by omega))
  · exact ⟨rfl, rfl, rfl, trivial⟩
  · refine ⟨?_, ?_, ?_⟩
    · rw [aU_nj (by decide), aU_nj (by decide), aU_eq]; omega
    · rw [aU_nj (by decide), aU_eq]; omega
    · rw [aU_eq]; omega
  · show _ = aU (aU (aU (vF Z) 0 0 0) 0 1 0) 0 2 0
    rw [vF_c2, vF_c1, vF_c0]

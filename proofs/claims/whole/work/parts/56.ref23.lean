theorem tFault_rg {t : Int → Int} {n : Int} (h : 0 ≤ n ∧ n ≤ 52) : -9 ≤ tFault t n ∧ tFault t n ≤ 200 := by
  have := kF_rng (t := t) h.1 (n - 1).toNat 1 0 0 0 0 0 (by omega)
  unfold tFault
  split <;> omega
/-- a pass is taken over -/
def qpNew (Z Z' : aZ) : Prop := okCm Z' ∧ okVr Z' ∧ vT Z' = qRun (Z 73) (Z 62 17) (tQ0 (vT Z)) (Z 62 17 - 1).toNat ∧ (Z' 62 0 = Z' 62 13 ∧ Z' 62 1 = Z' 62 14 ∧ Z' 62 2 = Z' 62 15) ∧ (∀ j : Int, Z' 63 j = if 0 ≤ j ∧ j < Z' 62 13 then Z' 70 j else Z 63 j) ∧ (∀ j : Int, Z' 64 j = if 0 ≤ j ∧ j < Z' 62 14 then Z' 71 (3 * j + 2) else Z 64 j) ∧ ((∀ j : Int, Z' 65 j = if 0 ≤ j ∧ j < Z' 62 15 then Z' 72 (4 * j) else Z 65 j) ∧ (∀ j : Int, Z' 66 j = if 0 ≤ j ∧ j < Z' 62 15 then Z' 72 (4 * j + 1) else Z 66 j) ∧ (∀ j : Int, Z' 68 j = if 0 ≤ j ∧ j < Z' 62 15 then Z' 72 (4 * j + 3) else Z 68 j) ∧ ∀ j : Int, Z' 67 j = if 0 ≤ j ∧ j < Z' 62 15 then qPr (Z' 72 (4 * j + 3)) (Z' 72 (4 * j + 2)) else Z 67 j) ∧ (∀ j : Int, Z' 69 j = if 0 ≤ j ∧ j < Z' 62 14 then Z' 71 (3 * j) else if 4 ≤ j ∧ j < 4 + Z' 62 14 then Z' 71 (3 * (j - 4) + 1) else if 0 ≤ j ∧ j < 16 then 0 else Z 69 j) ∧ (Z' 62 22 = 0 ∧ Z' 78 0 = 0 ∧ Z' 78 1 = 0) ∧ (∀ j : Int, ¬ (0 ≤ j ∧ j ≤ 2) → ¬ (13 ≤ j ∧ j ≤ 15) → j ≠ 18 → j ≠ 19 → j ≠ 22 → Z' 62 j = Z 62 j) ∧ ∀ a : Nat, ¬ (62 ≤ a ∧ a ≤ 72) → a ≠ 78 → Z' a = Z a
/-- the loops' worlds -/
def qpA (Z1 Z2 : aZ) : Prop := (Z2 62 0 = Z1 62 13 ∧ Z2 62 1 = Z1 62 14 ∧ Z2 62 2 = Z1 62 15) ∧ (∀ j : Int, ¬ (0 ≤ j ∧ j ≤ 2) → Z2 62 j = Z1 62 j) ∧ ∀ a : Nat, a ≠ 62 → Z2 a = Z1 a
def qpB (ZA Z2 : aZ) (i : Int) : Prop := (∀ a : Nat, a ≠ 69 → Z2 a = ZA a) ∧ ∀ j : Int, Z2 69 j = if 0 ≤ j ∧ j < i then 0 else ZA 69 j
def qpC (ZB Z2 : aZ) (i : Int) : Prop := (∀ a : Nat, a ≠ 63 → Z2 a = ZB a) ∧ ∀ j : Int, Z2 63 j = if 0 ≤ j ∧ j < i then ZB 70 j else ZB 63 j
def qpD (ZC Z2 : aZ) (i : Int) : Prop := (∀ a : Nat, a ≠ 64 → a ≠ 69 → Z2 a = ZC a) ∧ (∀ j : Int, Z2 64 j = if 0 ≤ j ∧ j < i then ZC 71 (3 * j + 2) else ZC 64 j) ∧ ∀ j : Int, Z2 69 j = if 0 ≤ j ∧ j < i then ZC 71 (3 * j) else if 4 ≤ j ∧ j < 4 + i then ZC 71 (3 * (j - 4) + 1) else ZC 69 j
def qpE (ZD Z2 : aZ) (i : Int) : Prop := (∀ a : Nat, ¬ (65 ≤ a ∧ a ≤ 68) → Z2 a = ZD a) ∧ (∀ j : Int, Z2 65 j = if 0 ≤ j ∧ j < i then ZD 72 (4 * j) else ZD 65 j) ∧ (∀ j : Int, Z2 66 j = if 0 ≤ j ∧ j < i then ZD 72 (4 * j + 1) else ZD 66 j) ∧ (∀ j : Int, Z2 68 j = if 0 ≤ j ∧ j < i then ZD 72 (4 * j + 3) else ZD 68 j) ∧ ∀ j : Int, Z2 67 j = if 0 ≤ j ∧ j < i then qPr (ZD 72 (4 * j + 3)) (ZD 72 (4 * j + 2)) else ZD 67 j
theorem qpB.s {ZA Z2 : aZ} {i : Int} (hi : 0 ≤ i) (h : qpB ZA Z2 i) : qpB ZA (aU Z2 69 i 0) (i + 1) := by
  refine ⟨fun a ha => by rw [aU_row ha, h.1 a ha], fun j => ?_⟩
  rw [aU_at, h.2]
  by_cases e : j = i
  · rw [if_pos e, if_pos (by omega)]
  · rw [if_neg e]
    by_cases e2 : 0 ≤ j ∧ j < i
    · rw [if_pos e2, if_pos (by omega)]
    · rw [if_neg e2, if_neg (by omega)]
theorem qpC.s {ZB Z2 : aZ} {i : Int} (hi : 0 ≤ i) (h : qpC ZB Z2 i) : qpC ZB (aU Z2 63 i (Z2 70 i)) (i + 1) := by
  refine ⟨fun a ha => by rw [aU_row ha, h.1 a ha], fun j => ?_⟩
  rw [aU_at, h.2, h.1 70 (by decide)]
  by_cases e : j = i
  · rw [if_pos e, if_pos (by omega), e]
  · rw [if_neg e]
    by_cases e2 : 0 ≤ j ∧ j < i
    · rw [if_pos e2, if_pos (by omega)]
    · rw [if_neg e2, if_neg (by omega)]
theorem qpD.s {ZC Z2 : aZ} {i : Int} (hi : 0 ≤ i ∧ i < 4) (h : qpD ZC Z2 i) : qpD ZC (aU (aU (aU Z2 69 i (Z2 71 (3 * i))) 69 (4 + i) (Z2 71 (3 * i + 1))) 64 i (Z2 71 (3 * i + 2))) (i + 1) := by
  obtain ⟨h1, h2, h3⟩ := h
  refine ⟨fun a h4 h5 => by rw [aU_row h4, aU_row h5, aU_row h5, h1 a h4 h5], fun j => ?_, fun j => ?_⟩
  · rw [aU_at, aU_ne (by decide), aU_ne (by decide), h2, h1 71 (by decide) (by decide)]
    by_cases e : j = i
    · rw [if_pos e, if_pos (by omega), e]
    · rw [if_neg e]
      by_cases e2 : 0 ≤ j ∧ j < i
      · rw [if_pos e2, if_pos (by omega)]
      · rw [if_neg e2, if_neg (by omega)]
  · rw [aU_ne (by decide), aU_at, aU_at, h3, h1 71 (by decide) (by decide)]
    by_cases e : j = 4 + i
    · rw [if_pos e, if_neg (by omega), if_pos (by omega), e, show 4 + i - 4 = i by omega]
    · rw [if_neg e]
      by_cases e2 : j = i
      · rw [if_pos e2, if_pos (by omega), e2]
      · rw [if_neg e2]
        by_cases e3 : 0 ≤ j ∧ j < i
        · rw [if_pos e3, if_pos (by omega)]
        · rw [if_neg e3, if_neg (show ¬ (0 ≤ j ∧ j < i + 1) by omega)]
          by_cases e4 : 4 ≤ j ∧ j < 4 + i
          · rw [if_pos e4, if_pos (by omega)]
          · rw [if_neg e4, if_neg (by omega)]
theorem ifL {i j x y : Int} {f : Int → Int} (hi : 0 ≤ i) (hx : x = f i) : (if j = i then x else if 0 ≤ j ∧ j < i then f j else y) = if 0 ≤ j ∧ j < i + 1 then f j else y := by
  by_cases e : j = i
  · rw [if_pos e, if_pos (by omega), hx, e]
  · rw [if_neg e]
    by_cases e2 : 0 ≤ j ∧ j < i
    · rw [if_pos e2, if_pos (by omega)]
    · rw [if_neg e2, if_neg (by omega)]
theorem qpE.s {ZD Z2 : aZ} {i v : Int} (hi : 0 ≤ i) (h : qpE ZD Z2 i) (hv : v = qPr (Z2 72 (4 * i + 3)) (Z2 72 (4 * i + 2))) : qpE ZD (aU (aU (aU (aU Z2 65 i (Z2 72 (4 * i))) 66 i (Z2 72 (4 * i + 1))) 68 i (Z2 72 (4 * i + 3))) 67 i v) (i + 1) := by
  obtain ⟨h1, h2, h3, h4, h5⟩ := h
  rw [h1 72 (by decide)] at hv ⊢
  refine ⟨fun a ha => by rw [aU_row (by omega), aU_row (by omega), aU_row (by omega), aU_row (by omega), h1 a ha], fun j => ?_, fun j => ?_, fun j => ?_, fun j => ?_⟩
  · rw [aU_ne (by decide), aU_ne (by decide), aU_ne (by decide), aU_at, h2]
    exact ifL (f := fun j => ZD 72 (4 * j)) hi rfl
  · rw [aU_ne (by decide), aU_ne (by decide), aU_at, aU_ne (by decide), h3]
    exact ifL (f := fun j => ZD 72 (4 * j + 1)) hi rfl
  · rw [aU_ne (by decide), aU_at, aU_ne (by decide), aU_ne (by decide), h4]
    exact ifL (f := fun j => ZD 72 (4 * j + 3)) hi rfl
  · rw [aU_at, aU_ne (by decide), aU_ne (by decide), aU_ne (by decide), h5]
    exact ifL (f := fun j => qPr (ZD 72 (4 * j + 3)) (ZD 72 (4 * j + 2))) hi hv
theorem qpFin {Z Z1 ZA ZB ZC ZD ZE : aZ} (t : rdT Z Z1) (h9 : tFault (Z 73) (Z 62 17) = -9) (hA : qpA Z1 ZA) (hB : qpB ZA ZB 16) (hC : qpC ZB ZC (Z1 62 13)) (hD : qpD ZC ZD (Z1 62 14)) (hE : qpE ZD ZE (Z1 62 15)) : qpNew Z (aU (aU (aU ZE 62 22 0) 78 0 0) 78 1 0) := by
  obtain ⟨t1, t2, t3, t4, t5⟩ := t
  obtain ⟨⟨a1, a2, a3⟩, a4, a5⟩ := hA
  obtain ⟨b1, b2⟩ := hB
  obtain ⟨c1, c2⟩ := hC
  obtain ⟨d1, d2, d3⟩ := hD
  obtain ⟨e1, e2, e3, e4, e5⟩ := hE
  have lo : ∀ a : Nat, ¬ (62 ≤ a ∧ a ≤ 69) → ZE a = Z1 a := fun a ha => by rw [e1 a (by omega), d1 a (by omega) (by omega), c1 a (by omega), b1 a (by omega), a5 a (by omega)]
  have f2 : ZE 62 = ZA 62 := by rw [e1 62 (by decide), d1 62 (by decide) (by decide), c1 62 (by decide), b1 62 (by decide)]
  generalize hZ : aU (aU (aU ZE 62 22 0) 78 0 0) 78 1 0 = Z'
  have ro : ∀ a : Nat, a ≠ 62 → a ≠ 78 → Z' a = ZE a := fun a h1 h2 => by rw [← hZ, aU_row h2, aU_row h2, aU_row h1]
  have r2 : ∀ j : Int, j ≠ 22 → Z' 62 j = ZA 62 j := fun j hj => by rw [← hZ, aU_ne (by decide), aU_ne (by decide), aU_nj hj, f2]
  have g70 : Z' 70 = Z1 70 := by rw [ro 70 (by decide) (by decide), lo 70 (by decide)]
  have g71 : Z' 71 = Z1 71 := by rw [ro 71 (by decide) (by decide), lo 71 (by decide)]
  have g72 : Z' 72 = Z1 72 := by rw [ro 72 (by decide) (by decide), lo 72 (by decide)]
  have r13 : Z' 62 13 = Z1 62 13 := by rw [r2 13 (by decide), a4 13 (by decide)]
  have r14 : Z' 62 14 = Z1 62 14 := by rw [r2 14 (by decide), a4 14 (by decide)]
  have r15 : Z' 62 15 = Z1 62 15 := by rw [r2 15 (by decide), a4 15 (by decide)]
  have o : ∀ a : Nat, 63 ≤ a ∧ a ≤ 69 → Z1 a = Z a := fun a ha => t4 a (by omega) (by omega) (by omega) (by omega)
  have o70 : ZB 70 = Z1 70 := by rw [b1 70 (by decide), a5 70 (by decide)]
  have o71 : ZC 71 = Z1 71 := by rw [c1 71 (by decide), b1 71 (by decide), a5 71 (by decide)]
  have o72 : ZD 72 = Z1 72 := by rw [d1 72 (by decide) (by decide), c1 72 (by decide), b1 72 (by decide), a5 72 (by decide)]
  have od : ∀ a : Nat, 65 ≤ a ∧ a ≤ 68 → ZD a = Z a := fun a ha => by rw [d1 a (by omega) (by omega), c1 a (by omega), b1 a (by omega), a5 a (by omega), o a (by omega)]
  refine ⟨?_, ?_, ?_, ⟨?_, ?_, ?_⟩, fun j => ?_, fun j => ?_, ⟨fun j => ?_, fun j => ?_, fun j => ?_, fun j => ?_⟩, fun j => ?_, ⟨?_, ?_, ?_⟩, fun j h1 h2 h3 h4 h5 => ?_, fun a h1 h2 => ?_⟩
  · unfold okCm
    rw [r13, r14, r15]
    exact t2
  · exact okVr_eq g70 g71 g72 t3
  · rw [← t1 h9]
    exact vT_eq (fun a ha => by rw [ro a (by omega) (by omega), lo a (by omega)]) r13 r14 r15
  · rw [r2 0 (by decide), a1, r13]
  · rw [r2 1 (by decide), a2, r14]
  · rw [r2 2 (by decide), a3, r15]
  · rw [ro 63 (by decide) (by decide), e1 63 (by decide), d1 63 (by decide) (by decide), c2, r13, g70, o70, b1 63 (by decide), a5 63 (by decide), o 63 (by decide)]
  · rw [ro 64 (by decide) (by decide), e1 64 (by decide), d2, r14, g71, o71, c1 64 (by decide), b1 64 (by decide), a5 64 (by decide), o 64 (by decide)]
  · rw [ro 65 (by decide) (by decide), e2, r15, g72, o72, od 65 (by decide)]
  · rw [ro 66 (by decide) (by decide), e3, r15, g72, o72, od 66 (by decide)]
  · rw [ro 68 (by decide) (by decide), e4, r15, g72, o72, od 68 (by decide)]
  · rw [ro 67 (by decide) (by decide), e5, r15, g72, o72, od 67 (by decide)]
  · rw [ro 69 (by decide) (by decide), e1 69 (by decide), d3, r14, g71, o71, c1 69 (by decide), b2, a5 69 (by decide), o 69 (by decide)]
  · rw [← hZ, aU_ne (by decide), aU_ne (by decide), aU_eq]
  · rw [← hZ, aU_nj (by decide), aU_eq]
  · rw [← hZ, aU_eq]
  · rw [r2 j h5, a4 j h1, t5 j h2 h3 h4]
  · rw [ro a (by omega) h2, lo a (by omega), t4 a (by omega) (by omega) (by omega) (by omega)]

set_option maxHeartbeats 4000000 in
set_option maxRecDepth 100000 in
theorem q_pass {G : aG} {Z : aZ} {Y : aY} (ht : ∀ j : Int, 0 ≤ Z 73 j ∧ Z 73 j ≤ 255) (hV : okVr Z) (hn : 0 ≤ Z 62 17 ∧ Z 62 17 ≤ 52) (hB : aB Z) : aSI G yX10_pass cX10_pass 3 (some .int) 4 90 [.ref (G.1 62)] Z Y (fun x Z' Y' => x = (if tFault (Z 73) (Z 62 17) = -9 then 100 * Z' 62 0 + 10 * Z' 62 1 + Z' 62 2 else -3) ∧ (tFault (Z 73) (Z 62 17) ≠ -9 → rdT Z Z') ∧ (tFault (Z 73) (Z 62 17) = -9 → qpNew Z Z') ∧ aB Z' ∧ Y' = Y) := by
  refine aS.of (own := RX10) (by decide +kernel) rfl 2 (Nat.le_of_ble_eq_true rfl) (fun X hX hE => ?_)
  show AW X G 0 [some (.ref (G.1 62)), none, none] [] Z Y
  refine a_aload_n hX rfl rfl dX10_pass_0 (pc' := 1) rfl ?_
  refine a_cV0I hX cv_X10_98 (q_readText ht hV hn hB) rfl (by decide) ⟨by decide, by decide⟩ (Nat.le_of_ble_eq_true rfl) dX10_pass_1 (pc' := 4) rfl (fun x1 Z1 Y1 h1 => ?_)
  obtain ⟨e1, t1, hB, eY1⟩ := h1
  rw [eY1]
  have hrg := tFault_rg (t := Z 73) hn
  have hC1 := t1.2.1.1
  have hC2 := t1.2.1.2.1
  have hC3 := t1.2.1.2.2
  refine a_bipush hX rfl dX10_pass_4 (pc' := 6) rfl ?_
  refine a_icmp_eq hX (by omega) (by omega) dX10_pass_6 (pc' := 9) rfl (tgt := 12) (by decide) (fun c6 => ?_) (fun c6 => ?_)
  · have h9 : tFault (Z 73) (Z 62 17) = -9 := by omega
    refine a_aload_n hX rfl rfl dX10_pass_12 (pc' := 13) rfl ?_
    refine a_aload_n hX rfl rfl dX10_pass_13 (pc' := 14) rfl ?_
    refine a_getfI hX (ji := 13) rfl hB fl_X10_81 rfl (by decide) rfl dX10_pass_14 (pc' := 17) rfl (fun hb => ?_)
    
    refine a_putfIB hX fl_X10_102 nf_9_0 (ji := 0) rfl rfl (by decide) rfl hB (by omega) dX10_pass_17 (pc' := 20) rfl (fun hB => ?_)
    refine a_aload_n hX rfl rfl dX10_pass_20 (pc' := 21) rfl ?_
    refine a_aload_n hX rfl rfl dX10_pass_21 (pc' := 22) rfl ?_
    refine a_getfI hX (ji := 14) rfl hB fl_X10_84 rfl (by decide) rfl dX10_pass_22 (pc' := 25) rfl (fun hb => ?_)
    rw [show (aU Z1 62 0 (Z1 62 13)) 62 14 = Z1 62 14 from aU_nj (by decide)]
    refine a_putfIB hX fl_X10_105 nf_9_1 (ji := 1) rfl rfl (by decide) rfl hB (by omega) dX10_pass_25 (pc' := 28) rfl (fun hB => ?_)
    
    refine a_aload_n hX rfl rfl dX10_pass_28 (pc' := 29) rfl ?_
    refine a_aload_n hX rfl rfl dX10_pass_29 (pc' := 30) rfl ?_
    refine a_getfI hX (ji := 15) rfl hB fl_X10_87 rfl (by decide) rfl dX10_pass_30 (pc' := 33) rfl (fun hb => ?_)
    rw [show (aU (aU Z1 62 0 (Z1 62 13)) 62 1 (Z1 62 14)) 62 15 = Z1 62 15 by rw [aU_nj (by decide), aU_nj (by decide)]]
    refine a_putfIB hX fl_X10_108 nf_9_2 (ji := 2) rfl rfl (by decide) rfl hB (by omega) dX10_pass_33 (pc' := 36) rfl (fun hB => ?_)
    have hA0 : qpA Z1 (aU (aU (aU Z1 62 0 (Z1 62 13)) 62 1 (Z1 62 14)) 62 2 (Z1 62 15)) := by
      refine ⟨⟨?_, ?_, ?_⟩, fun j hj => ?_, fun a ha => ?_⟩
      · rw [aU_nj (by decide), aU_nj (by decide), aU_eq]
      · rw [aU_nj (by decide), aU_eq]
      · rw [aU_eq]
      · rw [aU_nj (by omega), aU_nj (by omega), aU_nj (by omega)]
      · rw [aU_row ha, aU_row ha, aU_row ha]
    generalize hZA : aU (aU (aU Z1 62 0 (Z1 62 13)) 62 1 (Z1 62 14)) 62 2 (Z1 62 15) = ZA at hA0 hB ⊢
    have hA := hA0
    refine a_iconst hX dX10_pass_36 (pc' := 37) rfl ?_
    refine a_istore1 hX rfl (by decide) rfl dX10_pass_37 (pc' := 38) rfl ?_
    have L38 : ∀ (n : Nat) (i : Int) (ZB : aZ), (0 ≤ i ∧ i ≤ 16) → aB ZB → qpB ZA ZB i → (16 - i).toNat < n → AW X G 38 [some (.ref (G.1 62)), some (.int (aI i)), none] [] ZB Y := by
      intro n
      induction n with
      | zero =>
        intro i ZB hi hB hqB hn2
        omega
      | succ n ih =>
        intro i ZB hi hB hqB hn2
        have f62B : ZB 62 = ZA 62 := hqB.1 62 (by decide)
        refine a_iload_n hX rfl rfl dX10_pass_38 (pc' := 39) rfl ?_
        refine a_bipush hX rfl dX10_pass_39 (pc' := 41) rfl ?_
        refine a_icmp_ge hX (by omega) (by omega) dX10_pass_41 (pc' := 44) rfl (tgt := 57) (by decide) (fun c41 => ?_) (fun c41 => ?_)
        · have hqB16 : qpB ZA ZB 16 := by rw [show i = 16 by omega] at hqB; exact hqB
          refine a_iconst hX dX10_pass_57 (pc' := 58) rfl ?_
          refine a_istore1 hX rfl (by decide) rfl dX10_pass_58 (pc' := 59) rfl ?_
          have L59 : ∀ (n : Nat) (w : Int) (ZC : aZ), (0 ≤ w ∧ w ≤ Z1 62 13) → aB ZC → qpC ZB ZC w → (4 - w).toNat < n → AW X G 59 [some (.ref (G.1 62)), some (.int (aI w)), none] [] ZC Y := by
            intro n
            induction n with
            | zero =>
              intro w ZC hw hB hqC hn3
              omega
            | succ n ih =>
              intro w ZC hw hB hqC hn3
              have f62C : ZC 62 = ZA 62 := by rw [hqC.1 62 (by decide), f62B]
              have f0C : ZC 62 0 = Z1 62 13 := by rw [f62C, hA.1.1]
              refine a_iload_n hX rfl rfl dX10_pass_59 (pc' := 60) rfl ?_
              refine a_aload_n hX rfl rfl dX10_pass_60 (pc' := 61) rfl ?_
              refine a_getfI hX (ji := 0) rfl hB fl_X10_102 rfl (by decide) rfl dX10_pass_61 (pc' := 64) rfl (fun hb => ?_)
              rw [f0C]
              refine a_icmp_ge hX (by omega) (by omega) dX10_pass_64 (pc' := 67) rfl (tgt := 85) (by decide) (fun c64 => ?_) (fun c64 => ?_)
              · have hqCw : qpC ZB ZC (Z1 62 13) := by rw [show w = Z1 62 13 by omega] at hqC; exact hqC
                refine a_iconst hX dX10_pass_85 (pc' := 86) rfl ?_
                refine a_istore1 hX rfl (by decide) rfl dX10_pass_86 (pc' := 87) rfl ?_
                have L87 : ∀ (n : Nat) (c : Int) (ZD : aZ), (0 ≤ c ∧ c ≤ Z1 62 14) → aB ZD → qpD ZC ZD c → (4 - c).toNat < n → AW X G 87 [some (.ref (G.1 62)), some (.int (aI c)), none] [] ZD Y := by
                  intro n
                  induction n with
                  | zero =>
                    intro c ZD hc hB hqD hn4
                    omega
                  | succ n ih =>
                    intro c ZD hc hB hqD hn4
                    have f62D : ZD 62 = ZA 62 := by rw [hqD.1 62 (by decide) (by decide), f62C]
                    have f1D : ZD 62 1 = Z1 62 14 := by rw [f62D, hA.1.2.1]
                    refine a_iload_n hX rfl rfl dX10_pass_87 (pc' := 88) rfl ?_
                    refine a_aload_n hX rfl rfl dX10_pass_88 (pc' := 89) rfl ?_
                    refine a_getfI hX (ji := 1) rfl hB fl_X10_105 rfl (by decide) rfl dX10_pass_89 (pc' := 92) rfl (fun hb => ?_)
                    rw [f1D]
                    refine a_icmp_ge hX (by omega) (by omega) dX10_pass_92 (pc' := 95) rfl (tgt := 149) (by decide) (fun c92 => ?_) (fun c92 => ?_)
                    · have hqDc : qpD ZC ZD (Z1 62 14) := by rw [show c = Z1 62 14 by omega] at hqD; exact hqD
                      refine a_iconst hX dX10_pass_149 (pc' := 150) rfl ?_
                      refine a_istore1 hX rfl (by decide) rfl dX10_pass_150 (pc' := 151) rfl ?_
                      have L151 : ∀ (n : Nat) (p : Int) (ZE : aZ), (0 ≤ p ∧ p ≤ Z1 62 15) → aB ZE → qpE ZD ZE p → (5 - p).toNat < n → AW X G 151 [some (.ref (G.1 62)), some (.int (aI p)), none] [] ZE Y := by
                        intro n
                        induction n with
                        | zero =>
                          intro p ZE hp hB hqE hn5
                          omega
                        | succ n ih =>
                          intro p ZE hp hB hqE hn5
                          have f62E : ZE 62 = ZA 62 := by rw [hqE.1 62 (by decide), f62D]
                          have f2E : ZE 62 2 = Z1 62 15 := by rw [f62E, hA.1.2.2]
                          have e72E : ZE 72 = Z1 72 := by rw [hqE.1 72 (by decide), hqD.1 72 (by decide) (by decide), hqC.1 72 (by decide), hqB.1 72 (by decide), hA.2.2 72 (by decide)]
                          refine a_iload_n hX rfl rfl dX10_pass_151 (pc' := 152) rfl ?_
                          refine a_aload_n hX rfl rfl dX10_pass_152 (pc' := 153) rfl ?_
                          refine a_getfI hX (ji := 2) rfl hB fl_X10_108 rfl (by decide) rfl dX10_pass_153 (pc' := 156) rfl (fun hb => ?_)
                          rw [f2E]
                          refine a_icmp_ge hX (by omega) (by omega) dX10_pass_156 (pc' := 159) rfl (tgt := 263) (by decide) (fun c156 => ?_) (fun c156 => ?_)
                          · refine a_aload_n hX rfl rfl dX10_pass_263 (pc' := 264) rfl ?_
                            refine a_iconst hX dX10_pass_264 (pc' := 265) rfl ?_
                            refine a_putfIB hX fl_X10_111 nf_9_22 (ji := 22) rfl rfl (by decide) rfl hB (by omega) dX10_pass_265 (pc' := 268) rfl (fun hB => ?_)
                            refine a_aload_n hX rfl rfl dX10_pass_268 (pc' := 269) rfl ?_
                            refine a_getfR hX (r := 78) fl_X10_59 rfl (by decide) rfl dX10_pass_269 (pc' := 272) rfl ?_
                            refine a_iconst hX dX10_pass_272 (pc' := 273) rfl ?_
                            refine a_iconst hX dX10_pass_273 (pc' := 274) rfl ?_
                            refine a_zastB hX rfl (by decide) (by decide) (by omega) hB (by omega) dX10_pass_274 (pc' := 275) rfl (fun hB => ?_)
                            refine a_aload_n hX rfl rfl dX10_pass_275 (pc' := 276) rfl ?_
                            refine a_getfR hX (r := 78) fl_X10_59 rfl (by decide) rfl dX10_pass_276 (pc' := 279) rfl ?_
                            refine a_iconst hX dX10_pass_279 (pc' := 280) rfl ?_
                            refine a_iconst hX dX10_pass_280 (pc' := 281) rfl ?_
                            refine a_zastB hX rfl (by decide) (by decide) (by omega) hB (by omega) dX10_pass_281 (pc' := 282) rfl (fun hB => ?_)
                            refine a_bipush hX rfl dX10_pass_282 (pc' := 284) rfl ?_
                            refine a_aload_n hX rfl rfl dX10_pass_284 (pc' := 285) rfl ?_
                            refine a_getfI hX (ji := 0) rfl hB fl_X10_102 rfl (by decide) rfl dX10_pass_285 (pc' := 288) rfl (fun hb => ?_)
                            refine a_imul hX dX10_pass_288 (pc' := 289) rfl ?_
                            refine a_bipush hX rfl dX10_pass_289 (pc' := 291) rfl ?_
                            refine a_aload_n hX rfl rfl dX10_pass_291 (pc' := 292) rfl ?_
                            refine a_getfI hX (ji := 1) rfl hB fl_X10_105 rfl (by decide) rfl dX10_pass_292 (pc' := 295) rfl (fun hb => ?_)
                            refine a_imul hX dX10_pass_295 (pc' := 296) rfl ?_
                            refine a_iadd hX dX10_pass_296 (pc' := 297) rfl ?_
                            refine a_aload_n hX rfl rfl dX10_pass_297 (pc' := 298) rfl ?_
                            refine a_getfI hX (ji := 2) rfl hB fl_X10_108 rfl (by decide) rfl dX10_pass_298 (pc' := 301) rfl (fun hb => ?_)
                            refine a_iadd hX dX10_pass_301 (pc' := 302) rfl ?_
                            refine a_iret hX dX10_pass_302 (hE _ _ _ ?_)
                            refine ⟨_, rfl, (if_pos h9).symm, fun q => absurd h9 q, fun _ => ?_, hB, rfl⟩
                            have hqEp : qpE ZD ZE (Z1 62 15) := by rw [show p = Z1 62 15 by omega] at hqE; exact hqE
                            exact qpFin t1 h9 hA hqB16 hqCw hqDc hqEp
                          · refine a_aload_n hX rfl rfl dX10_pass_159 (pc' := 160) rfl ?_
                            refine a_getfR hX (r := 65) fl_X10_16 rfl (by decide) rfl dX10_pass_160 (pc' := 163) rfl ?_
                            refine a_iload_n hX rfl rfl dX10_pass_163 (pc' := 164) rfl ?_
                            refine a_aload_n hX rfl rfl dX10_pass_164 (pc' := 165) rfl ?_
                            refine a_getfR hX (r := 72) fl_X10_37 rfl (by decide) rfl dX10_pass_165 (pc' := 168) rfl ?_
                            refine a_iconst hX dX10_pass_168 (pc' := 169) rfl ?_
                            refine a_iload_n hX rfl rfl dX10_pass_169 (pc' := 170) rfl ?_
                            refine a_imul hX dX10_pass_170 (pc' := 171) rfl ?_
                            refine a_iald hX rfl (by decide) (by decide) (by omega) hB dX10_pass_171 (pc' := 172) rfl (fun hb => ?_)
                            refine a_iastB hX rfl (by decide) (by decide) (by omega) hB (by omega) dX10_pass_172 (pc' := 173) rfl (fun hB => ?_)
                            refine a_aload_n hX rfl rfl dX10_pass_173 (pc' := 174) rfl ?_
                            refine a_getfR hX (r := 66) fl_X10_19 rfl (by decide) rfl dX10_pass_174 (pc' := 177) rfl ?_
                            refine a_iload_n hX rfl rfl dX10_pass_177 (pc' := 178) rfl ?_
                            refine a_aload_n hX rfl rfl dX10_pass_178 (pc' := 179) rfl ?_
                            refine a_getfR hX (r := 72) fl_X10_37 rfl (by decide) rfl dX10_pass_179 (pc' := 182) rfl ?_
                            refine a_iconst hX dX10_pass_182 (pc' := 183) rfl ?_
                            refine a_iload_n hX rfl rfl dX10_pass_183 (pc' := 184) rfl ?_
                            refine a_imul hX dX10_pass_184 (pc' := 185) rfl ?_
                            refine a_iconst hX dX10_pass_185 (pc' := 186) rfl ?_
                            refine a_iadd hX dX10_pass_186 (pc' := 187) rfl ?_
                            refine a_iald hX rfl (by decide) (by decide) (by omega) hB dX10_pass_187 (pc' := 188) rfl (fun hb => ?_)
                            rw [show (aU ZE 65 p (ZE 72 (4 * p))) 72 (4 * p + 1) = ZE 72 (4 * p + 1) from aU_ne (by decide)] at hb ⊢
                            refine a_iastB hX rfl (by decide) (by decide) (by omega) hB (by omega) dX10_pass_188 (pc' := 189) rfl (fun hB => ?_)
                            refine a_aload_n hX rfl rfl dX10_pass_189 (pc' := 190) rfl ?_
                            refine a_getfR hX (r := 68) fl_X10_25 rfl (by decide) rfl dX10_pass_190 (pc' := 193) rfl ?_
                            refine a_iload_n hX rfl rfl dX10_pass_193 (pc' := 194) rfl ?_
                            refine a_aload_n hX rfl rfl dX10_pass_194 (pc' := 195) rfl ?_
                            refine a_getfR hX (r := 72) fl_X10_37 rfl (by decide) rfl dX10_pass_195 (pc' := 198) rfl ?_
                            refine a_iconst hX dX10_pass_198 (pc' := 199) rfl ?_
                            refine a_iload_n hX rfl rfl dX10_pass_199 (pc' := 200) rfl ?_
                            refine a_imul hX dX10_pass_200 (pc' := 201) rfl ?_
                            refine a_iconst hX dX10_pass_201 (pc' := 202) rfl ?_
                            refine a_iadd hX dX10_pass_202 (pc' := 203) rfl ?_
                            refine a_iald hX rfl (by decide) (by decide) (by omega) hB dX10_pass_203 (pc' := 204) rfl (fun hb => ?_)
                            rw [show (aU (aU ZE 65 p (ZE 72 (4 * p))) 66 p (ZE 72 (4 * p + 1))) 72 (4 * p + 3) = ZE 72 (4 * p + 3) by rw [aU_ne (by decide), aU_ne (by decide)]] at hb ⊢
                            refine a_iastB hX rfl (by decide) (by decide) (by omega) hB (by omega) dX10_pass_204 (pc' := 205) rfl (fun hB => ?_)
                            refine a_aload_n hX rfl rfl dX10_pass_205 (pc' := 206) rfl ?_
                            refine a_getfR hX (r := 72) fl_X10_37 rfl (by decide) rfl dX10_pass_206 (pc' := 209) rfl ?_
                            refine a_iconst hX dX10_pass_209 (pc' := 210) rfl ?_
                            refine a_iload_n hX rfl rfl dX10_pass_210 (pc' := 211) rfl ?_
                            refine a_imul hX dX10_pass_211 (pc' := 212) rfl ?_
                            refine a_iconst hX dX10_pass_212 (pc' := 213) rfl ?_
                            refine a_iadd hX dX10_pass_213 (pc' := 214) rfl ?_
                            refine a_iald hX rfl (by decide) (by decide) (by omega) hB dX10_pass_214 (pc' := 215) rfl (fun hb => ?_)
                            rw [show (aU (aU (aU ZE 65 p (ZE 72 (4 * p))) 66 p (ZE 72 (4 * p + 1))) 68 p (ZE 72 (4 * p + 3))) 72 (4 * p + 2) = ZE 72 (4 * p + 2) by rw [aU_ne (by decide), aU_ne (by decide), aU_ne (by decide)]]
                            have hv2 : 0 ≤ ZE 72 (4 * p + 2) ∧ ZE 72 (4 * p + 2) ≤ 9 := by rw [e72E]; exact t1.2.2.1.2.2.2.2.1 p
                            refine a_iconst hX dX10_pass_215 (pc' := 216) rfl ?_
                            refine a_idiv hX (by omega) (by omega) dX10_pass_216 (pc' := 217) rfl ?_
                            refine a_istore2 hX rfl (by decide) rfl dX10_pass_217 (pc' := 218) rfl ?_
                            have J256 : ∀ (v : Int), v = qPr (ZE 72 (4 * p + 3)) (ZE 72 (4 * p + 2)) → AW X G 256 [some (.ref (G.1 62)), some (.int (aI p)), some (.int (aI (ZE 72 (4 * p + 2) / 2)))] [.int (aI v), .int (aI p), .ref (G.1 67)] (aU (aU (aU ZE 65 p (ZE 72 (4 * p))) 66 p (ZE 72 (4 * p + 1))) 68 p (ZE 72 (4 * p + 3))) Y := by
                              intro v hv
                              have hvr := qPr_rng (ZE 72 (4 * p + 3)) (ZE 72 (4 * p + 2))
                              refine a_iastB hX rfl (by decide) (by decide) (by omega) hB (by omega) dX10_pass_256 (pc' := 257) rfl (fun hB => ?_)
                              refine a_iinc1 hX (by decide) rfl dX10_pass_257 (pc' := 260) rfl ?_
                              refine a_goto hX dX10_pass_260 (tgt := 151) (by decide) ?_
                              have H := ih (p + 1) _ (by omega) hB (hqE.s hp.1 hv) (by omega)
                              refine AW.le ?_ H
                              exact ⟨rfl, rfl, trivial⟩
                            refine a_aload_n hX rfl rfl dX10_pass_218 (pc' := 219) rfl ?_
                            refine a_getfR hX (r := 67) fl_X10_22 rfl (by decide) rfl dX10_pass_219 (pc' := 222) rfl ?_
                            refine a_iload_n hX rfl rfl dX10_pass_222 (pc' := 223) rfl ?_
                            refine a_aload_n hX rfl rfl dX10_pass_223 (pc' := 224) rfl ?_
                            refine a_getfR hX (r := 68) fl_X10_25 rfl (by decide) rfl dX10_pass_224 (pc' := 227) rfl ?_
                            refine a_iload_n hX rfl rfl dX10_pass_227 (pc' := 228) rfl ?_
                            refine a_iald hX rfl (by decide) (by decide) (by omega) hB dX10_pass_228 (pc' := 229) rfl (fun hb => ?_)
                            rw [show (aU (aU (aU ZE 65 p (ZE 72 (4 * p))) 66 p (ZE 72 (4 * p + 1))) 68 p (ZE 72 (4 * p + 3))) 68 p = ZE 72 (4 * p + 3) from aU_eq]
                            have hv3 : 0 ≤ ZE 72 (4 * p + 3) ∧ ZE 72 (4 * p + 3) ≤ 3 := by rw [e72E]; exact t1.2.2.1.2.2.2.2.2 p
                            refine a_iconst hX dX10_pass_229 (pc' := 230) rfl ?_
                            refine a_icmp_eq hX (by omega) (by omega) dX10_pass_230 (pc' := 233) rfl (tgt := 246) (by decide) (fun c230 => ?_) (fun c230 => ?_)
                            · refine a_iload_n hX rfl rfl dX10_pass_246 (pc' := 247) rfl ?_
                              refine a_iconst hX dX10_pass_247 (pc' := 248) rfl ?_
                              refine a_icmp_ge hX (by omega) (by omega) dX10_pass_248 (pc' := 251) rfl (tgt := 255) (by decide) (fun c248 => ?_) (fun c248 => ?_)
                              · refine a_iload_n hX rfl rfl dX10_pass_255 (pc' := 256) rfl ?_
                                first
                                  | exact J256 _ (by unfold qPr; rw [if_neg (by omega)])
                                  | exact J256 _ (by unfold qPr; rw [if_pos (by omega), Int.tdiv_eq_ediv_of_nonneg (by omega)]; omega)
                              · refine a_iconst hX dX10_pass_251 (pc' := 252) rfl ?_
                                refine a_goto hX dX10_pass_252 (tgt := 256) (by decide) ?_
                                first
                                  | exact J256 _ (by unfold qPr; rw [if_neg (by omega)])
                                  | exact J256 _ (by unfold qPr; rw [if_pos (by omega), Int.tdiv_eq_ediv_of_nonneg (by omega)]; omega)
                            · refine a_aload_n hX rfl rfl dX10_pass_233 (pc' := 234) rfl ?_
                              refine a_getfR hX (r := 72) fl_X10_37 rfl (by decide) rfl dX10_pass_234 (pc' := 237) rfl ?_
                              refine a_iconst hX dX10_pass_237 (pc' := 238) rfl ?_
                              refine a_iload_n hX rfl rfl dX10_pass_238 (pc' := 239) rfl ?_
                              refine a_imul hX dX10_pass_239 (pc' := 240) rfl ?_
                              refine a_iconst hX dX10_pass_240 (pc' := 241) rfl ?_
                              refine a_iadd hX dX10_pass_241 (pc' := 242) rfl ?_
                              refine a_iald hX rfl (by decide) (by decide) (by omega) hB dX10_pass_242 (pc' := 243) rfl (fun hb => ?_)
                              rw [show (aU (aU (aU ZE 65 p (ZE 72 (4 * p))) 66 p (ZE 72 (4 * p + 1))) 68 p (ZE 72 (4 * p + 3))) 72 (4 * p + 2) = ZE 72 (4 * p + 2) by rw [aU_ne (by decide), aU_ne (by decide), aU_ne (by decide)]]
                              refine a_goto hX dX10_pass_243 (tgt := 256) (by decide) ?_
                              first
                                | exact J256 _ (by unfold qPr; rw [if_neg (by omega)])
                                | exact J256 _ (by unfold qPr; rw [if_pos (by omega), Int.tdiv_eq_ediv_of_nonneg (by omega)]; omega)
                      refine AW.le ?_ (L151 6 0 ZD (by omega) hB ⟨fun _ _ => rfl, fun j => by rw [if_neg (by omega)], fun j => by rw [if_neg (by omega)], fun j => by rw [if_neg (by omega)], fun j => by rw [if_neg (by omega)]⟩ (by omega))
                      exact ⟨rfl, rfl, trivial⟩
                    · refine a_aload_n hX rfl rfl dX10_pass_95 (pc' := 96) rfl ?_
                      refine a_getfR hX (r := 69) fl_X10_28 rfl (by decide) rfl dX10_pass_96 (pc' := 99) rfl ?_
                      refine a_iload_n hX rfl rfl dX10_pass_99 (pc' := 100) rfl ?_
                      refine a_aload_n hX rfl rfl dX10_pass_100 (pc' := 101) rfl ?_
                      refine a_getfR hX (r := 71) fl_X10_34 rfl (by decide) rfl dX10_pass_101 (pc' := 104) rfl ?_
                      refine a_iconst hX dX10_pass_104 (pc' := 105) rfl ?_
                      refine a_iload_n hX rfl rfl dX10_pass_105 (pc' := 106) rfl ?_
                      refine a_imul hX dX10_pass_106 (pc' := 107) rfl ?_
                      refine a_iald hX rfl (by decide) (by decide) (by omega) hB dX10_pass_107 (pc' := 108) rfl (fun hb => ?_)
                      refine a_iastB hX rfl (by decide) (by decide) (by omega) hB (by omega) dX10_pass_108 (pc' := 109) rfl (fun hB => ?_)
                      refine a_aload_n hX rfl rfl dX10_pass_109 (pc' := 110) rfl ?_
                      refine a_getfR hX (r := 69) fl_X10_28 rfl (by decide) rfl dX10_pass_110 (pc' := 113) rfl ?_
                      refine a_iconst hX dX10_pass_113 (pc' := 114) rfl ?_
                      refine a_iload_n hX rfl rfl dX10_pass_114 (pc' := 115) rfl ?_
                      refine a_iadd hX dX10_pass_115 (pc' := 116) rfl ?_
                      refine a_aload_n hX rfl rfl dX10_pass_116 (pc' := 117) rfl ?_
                      refine a_getfR hX (r := 71) fl_X10_34 rfl (by decide) rfl dX10_pass_117 (pc' := 120) rfl ?_
                      refine a_iconst hX dX10_pass_120 (pc' := 121) rfl ?_
                      refine a_iload_n hX rfl rfl dX10_pass_121 (pc' := 122) rfl ?_
                      refine a_imul hX dX10_pass_122 (pc' := 123) rfl ?_
                      refine a_iconst hX dX10_pass_123 (pc' := 124) rfl ?_
                      refine a_iadd hX dX10_pass_124 (pc' := 125) rfl ?_
                      
                      refine a_iald hX rfl (by decide) (by decide) (by omega) hB dX10_pass_125 (pc' := 126) rfl (fun hb => ?_)
                      rw [show (aU ZD 69 c (ZD 71 (3 * c))) 71 (3 * c + 1) = ZD 71 (3 * c + 1) from aU_ne (by decide)] at hb ⊢
                      refine a_iastB hX rfl (by decide) (by decide) (by omega) hB (by omega) dX10_pass_126 (pc' := 127) rfl (fun hB => ?_)
                      refine a_aload_n hX rfl rfl dX10_pass_127 (pc' := 128) rfl ?_
                      refine a_getfR hX (r := 64) fl_X10_13 rfl (by decide) rfl dX10_pass_128 (pc' := 131) rfl ?_
                      refine a_iload_n hX rfl rfl dX10_pass_131 (pc' := 132) rfl ?_
                      refine a_aload_n hX rfl rfl dX10_pass_132 (pc' := 133) rfl ?_
                      refine a_getfR hX (r := 71) fl_X10_34 rfl (by decide) rfl dX10_pass_133 (pc' := 136) rfl ?_
                      refine a_iconst hX dX10_pass_136 (pc' := 137) rfl ?_
                      refine a_iload_n hX rfl rfl dX10_pass_137 (pc' := 138) rfl ?_
                      refine a_imul hX dX10_pass_138 (pc' := 139) rfl ?_
                      refine a_iconst hX dX10_pass_139 (pc' := 140) rfl ?_
                      refine a_iadd hX dX10_pass_140 (pc' := 141) rfl ?_
                      refine a_iald hX rfl (by decide) (by decide) (by omega) hB dX10_pass_141 (pc' := 142) rfl (fun hb => ?_)
                      rw [show (aU (aU ZD 69 c (ZD 71 (3 * c))) 69 (4 + c) (ZD 71 (3 * c + 1))) 71 (3 * c + 2) = ZD 71 (3 * c + 2) by rw [aU_ne (by decide), aU_ne (by decide)]] at hb ⊢
                      refine a_iastB hX rfl (by decide) (by decide) (by omega) hB (by omega) dX10_pass_142 (pc' := 143) rfl (fun hB => ?_)
                      refine a_iinc1 hX (by decide) rfl dX10_pass_143 (pc' := 146) rfl ?_
                      refine a_goto hX dX10_pass_146 (tgt := 87) (by decide) ?_
                      exact ih (c + 1) _ (by omega) hB (hqD.s (by omega)) (by omega)
                refine L87 5 0 ZC (by omega) hB ⟨fun _ _ _ => rfl, fun j => by rw [if_neg (by omega)], fun j => by rw [if_neg (by omega), if_neg (by omega)]⟩ (by omega)
              · refine a_aload_n hX rfl rfl dX10_pass_67 (pc' := 68) rfl ?_
                refine a_getfR hX (r := 63) fl_X10_7 rfl (by decide) rfl dX10_pass_68 (pc' := 71) rfl ?_
                refine a_iload_n hX rfl rfl dX10_pass_71 (pc' := 72) rfl ?_
                refine a_aload_n hX rfl rfl dX10_pass_72 (pc' := 73) rfl ?_
                refine a_getfR hX (r := 70) fl_X10_31 rfl (by decide) rfl dX10_pass_73 (pc' := 76) rfl ?_
                refine a_iload_n hX rfl rfl dX10_pass_76 (pc' := 77) rfl ?_
                refine a_iald hX rfl (by decide) (by decide) (by omega) hB dX10_pass_77 (pc' := 78) rfl (fun hb => ?_)
                refine a_iastB hX rfl (by decide) (by decide) (by omega) hB (by omega) dX10_pass_78 (pc' := 79) rfl (fun hB => ?_)
                refine a_iinc1 hX (by decide) rfl dX10_pass_79 (pc' := 82) rfl ?_
                refine a_goto hX dX10_pass_82 (tgt := 59) (by decide) ?_
                exact ih (w + 1) _ (by omega) hB (hqC.s hw.1) (by omega)
          refine L59 5 0 ZB (by omega) hB ⟨fun _ _ => rfl, fun j => by rw [if_neg (by omega)]⟩ (by omega)
        · refine a_aload_n hX rfl rfl dX10_pass_44 (pc' := 45) rfl ?_
          refine a_getfR hX (r := 69) fl_X10_28 rfl (by decide) rfl dX10_pass_45 (pc' := 48) rfl ?_
          refine a_iload_n hX rfl rfl dX10_pass_48 (pc' := 49) rfl ?_
          refine a_iconst hX dX10_pass_49 (pc' := 50) rfl ?_
          refine a_iastB hX rfl (by decide) (by decide) (by omega) hB (by omega) dX10_pass_50 (pc' := 51) rfl (fun hB => ?_)
          refine a_iinc1 hX (by decide) rfl dX10_pass_51 (pc' := 54) rfl ?_
          refine a_goto hX dX10_pass_54 (tgt := 38) (by decide) ?_
          exact ih (i + 1) _ (by omega) hB (hqB.s hi.1) (by omega)
    refine L38 17 0 ZA (by omega) hB ⟨fun _ _ => rfl, fun j => by rw [if_neg (by omega)]⟩ (by omega)
  · refine a_bipush hX rfl dX10_pass_9 (pc' := 11) rfl ?_
    refine a_iret hX dX10_pass_11 (hE _ _ _ ?_)
    exact ⟨_, rfl, (if_neg (by omega)).symm, fun _ => t1, fun q => absurd q (by omega), hB, rfl⟩

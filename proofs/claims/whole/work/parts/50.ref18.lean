/-! PUFFS: rows of at most three puffs -/
def vAny (q : Int → Bool) : Nat → Bool
  | 0 => false
  | n + 1 => vAny q n || q n
theorem vAny_none {q : Int → Bool} : ∀ n : Nat, (∀ k : Int, 0 ≤ k ∧ k < n → q k = false) → vAny q n = false
  | 0, _ => rfl
  | n + 1, h => by
    show (vAny q n || q n) = false
    rw [vAny_none n (fun k hk => h k (by omega)), h n (by omega)]
    rfl
theorem vAny_at {q : Int → Bool} {m : Nat} (hm : q m = true) : ∀ n : Nat, m < n → vAny q n = true
  | 0, hn => by omega
  | n + 1, hn => by
    show (vAny q n || q n) = true
    by_cases e : m = n
    · subst e; rw [hm, Bool.or_true]
    · rw [vAny_at hm n (by omega), Bool.true_or]
/-- the j-th puff of the w-th row -/
def fM (P : aP) (w : Int) (j : Nat) : Int := w / (2 * P 0 1) ^ j % (2 * P 0 1)
def fPf (P : aP) (S : aSk) (w : Int) : Nat → aSk
  | 0 => S
  | j + 1 => dPush (fPf P S w j) (fM P w j / 2) (decide (fM P w j % 2 = 1))
theorem fPf_s {P : aP} {S : aSk} {w j : Int} (h : 0 ≤ j) : fPf P S w (j + 1).toNat = dPush (fPf P S w j.toNat) (fM P w j.toNat / 2) (decide (fM P w j.toNat % 2 = 1)) := by
  rw [show (j + 1).toNat = j.toNat + 1 by omega]
  rfl
def fOkW (P : aP) (S : aSk) (i w : Int) : Bool := decide (sMost P (fPf P S w i.toNat) = sOwedAll P (fPf P S w i.toNat))
def fAll (P : aP) (S : aSk) (i : Int) : Bool := vAny (fOkW P S i) ((2 * P 0 1) ^ i.toNat).toNat
/-- the reference's PUFFS -/
def qPuffs (P : aP) (S : aSk) : Int := vFst (fAll P S) 4
theorem fM_rng {P : aP} {w : Int} {j : Nat} (h : 0 < P 0 1) : 0 ≤ fM P w j ∧ fM P w j < 2 * P 0 1 := by
  unfold fM
  have h1 := Int.emod_nonneg (w / (2 * P 0 1) ^ j) (show 2 * P 0 1 ≠ 0 by omega)
  have h2 := Int.emod_lt_of_pos (w / (2 * P 0 1) ^ j) (show 0 < 2 * P 0 1 by omega)
  omega
theorem fPf_hi {P : aP} {S : aSk} {w : Int} (h0 : 0 < P 0 1) (h4 : P 0 1 ≤ 4) : ∀ j : Nat, sHi S (fPf P S w j)
  | 0 => fun _ _ => rfl
  | j + 1 => fun k hk => by
    have hm := fM_rng (w := w) (j := j) h0
    show dPush _ _ _ k = _
    unfold dPush
    rw [if_neg (by omega)]
    exact fPf_hi h0 h4 j k hk
theorem okS_pf {P : aP} {S : aSk} {w : Int} (hS : okS P S) (h0 : 0 < P 0 1) (h4 : P 0 1 ≤ 4) : ∀ j : Nat, okS P (fPf P S w j)
  | 0 => hS
  | j + 1 => by
    have hm := fM_rng (w := w) (j := j) h0
    exact okS_push (okS_pf hS h0 h4 j) (by omega)
theorem f8 {a i : Int} (ha : 0 ≤ a ∧ a ≤ 8) (hi : 0 ≤ i ∧ i ≤ 3) : 0 ≤ a ^ i.toNat ∧ a ^ i.toNat ≤ 512 := by
  obtain ⟨a, rfl⟩ := Int.eq_ofNat_of_zero_le ha.1
  have : ∀ a : Nat, a ≤ 8 → ∀ i : Nat, i ≤ 3 → 0 ≤ (a : Int) ^ i ∧ (a : Int) ^ i ≤ 512 := by decide
  exact this a (by omega) _ (by omega)
theorem f8p {a i : Int} (ha : 0 < a) : 0 < a ^ i.toNat := Int.pow_pos ha

def qT2 (Z Z' : aZ) : Prop := (∀ a : Nat, a ≠ 69 → a ≠ 74 → Z' a = Z a) ∧ ∀ j : Int, j < 16 → Z' 69 j = Z 69 j
theorem qT2.P {Z Z' : aZ} (h : qT2 Z Z') : vQ Z' = vQ Z := vQ_eq (fun a ha => h.1 a (by omega) (by omega))
theorem qT2.R0 {Z Z' : aZ} (h : qT2 Z Z') : vR Z' 0 = vR Z 0 := by
  funext j
  unfold vR
  rw [h.1 62 (by decide) (by decide)]
  by_cases a1 : j < 16
  · rw [h.2 (16 * 0 + j) (by omega)]
  · by_cases a0 : j < 0
    · omega
    · simp only [if_neg a0, if_neg (show ¬ j < 4 by omega), if_neg (show ¬ j < 8 by omega), if_neg a1]
theorem qT2.tr {Z Z1 Z2 : aZ} (h : qT2 Z Z1) (g : qT2 Z1 Z2) : qT2 Z Z2 := ⟨fun a ha hb => (g.1 a ha hb).trans (h.1 a ha hb), fun j hj => (g.2 j hj).trans (h.2 j hj)⟩
theorem qT2.rf {Z : aZ} : qT2 Z Z := ⟨fun _ _ _ => rfl, fun _ _ => rfl⟩

set_option maxHeartbeats 4000000 in
set_option maxRecDepth 100000 in
theorem q_puffs {G : aG} {Z : aZ} {Y : aY} (h15 : Z 62 20 = 15) (hd4 : Z 69 15 ≤ 4000) (hB : aB Z) (hP : okP (vQ Z)) (hS : okS (vQ Z) (vR Z 0)) (hd : Z 69 15 ≤ 5000) : aSI G yX10_puffs cX10_puffs 6 (some .int) 5 121 [.ref (G.1 62)] Z Y (fun x Z' Y' => x = qPuffs (vQ Z) (vR Z 0) ∧ qT2 Z Z' ∧ aB Z' ∧ Y' = Y) := by
  refine aS.of (own := RX10) (by decide +kernel) rfl 5 (Nat.le_of_ble_eq_true rfl) (fun X hX hE => ?_)
  show AW X G 0 [some (.ref (G.1 62)), none, none, none, none, none] [] Z Y
  have hfQ := fQ hP
  have hfR := fR hS
  have hfR1 : 0 ≤ Z 69 15 := hfR.2.2
  have hfR2 : 0 ≤ Z 69 13 ∧ Z 69 13 < 32 := hfR.1
  refine a_iconst hX dX10_puffs_0 (pc' := 1) rfl ?_
  refine a_istore1 hX rfl (by decide) rfl dX10_puffs_1 (pc' := 2) rfl ?_
  have L2 : ∀ (n : Nat) (i : Int) (Z1 : aZ), (0 ≤ i ∧ i ≤ 4) → aB Z1 → qT2 Z Z1 → (∀ k : Int, 0 ≤ k ∧ k < i → fAll (vQ Z) (vR Z 0) k = false) → (4 - i).toNat < n → AW X G 2 [some (.ref (G.1 62)), some (.int (aI i)), none, none, none, none] [] Z1 Y := by
    intro n
    induction n with
    | zero =>
      intro i Z1 hi hB t1 hno hn
      omega
    | succ n ih =>
      intro i Z1 hi hB t1 hno hn
      have eP1 : vQ Z1 = vQ Z := t1.P
      have eR1 : vR Z1 0 = vR Z 0 := t1.R0
      have hP1 : okP (vQ Z1) := by rw [eP1]; exact hP
      have f1 : Z1 62 1 = Z 62 1 := by rw [t1.1 62 (by decide) (by decide)]
      refine a_iload_n hX rfl rfl dX10_puffs_2 (pc' := 3) rfl ?_
      refine a_iconst hX dX10_puffs_3 (pc' := 4) rfl ?_
      refine a_icmp_ge hX (by omega) (by omega) dX10_puffs_4 (pc' := 7) rfl (tgt := 123) (by decide) (fun c4 => ?_) (fun c4 => ?_)
      · refine a_bipush hX rfl dX10_puffs_123 (pc' := 125) rfl ?_
        refine a_iret hX dX10_puffs_125 (hE _ _ _ ?_)
        exact ⟨_, rfl, (vFst_none 4 (fun k hk => hno k (by omega))).symm, t1, hB, rfl⟩
      · have J25 : AW X G 25 [some (.ref (G.1 62)), some (.int (aI i)), none, none, none, none] [.int (aI ((2 * Z 62 1) ^ i.toNat))] Z1 Y := by
          refine a_istore2 hX rfl (by decide) rfl dX10_puffs_25 (pc' := 26) rfl ?_
          refine a_iconst hX dX10_puffs_26 (pc' := 27) rfl ?_
          have h8 := f8 (a := 2 * Z 62 1) (i := i) (by omega) (by omega)
          refine a_istore3 hX rfl (by decide) rfl dX10_puffs_27 (pc' := 28) rfl ?_
          have L28 : ∀ (k : Nat) (w : Int) (Z1 : aZ), (0 ≤ w ∧ w ≤ ((2 * Z 62 1) ^ i.toNat)) → aB Z1 → qT2 Z Z1 → (∀ v : Int, 0 ≤ v ∧ v < w → fOkW (vQ Z) (vR Z 0) i v = false) → (((2 * Z 62 1) ^ i.toNat) - w).toNat < k → AW X G 28 [some (.ref (G.1 62)), some (.int (aI i)), some (.int (aI ((2 * Z 62 1) ^ i.toNat))), some (.int (aI w)), none, none] [] Z1 Y := by
            intro k
            induction k with
            | zero =>
              intro w Z1 hwr hB t1 hw hk
              omega
            | succ k ih2 =>
              intro w Z1 hwr hB t1 hw hk
              have eP1 : vQ Z1 = vQ Z := t1.P
              have eR1 : vR Z1 0 = vR Z 0 := t1.R0
              have hP1 : okP (vQ Z1) := by rw [eP1]; exact hP
              have f1 : Z1 62 1 = Z 62 1 := by rw [t1.1 62 (by decide) (by decide)]
              refine a_iload_n hX rfl rfl dX10_puffs_28 (pc' := 29) rfl ?_
              refine a_iload_n hX rfl rfl dX10_puffs_29 (pc' := 30) rfl ?_
              refine a_icmp_ge hX (by omega) (by omega) dX10_puffs_30 (pc' := 33) rfl (tgt := 117) (by decide) (fun c30 => ?_) (fun c30 => ?_)
              · refine a_iinc1 hX (by decide) rfl dX10_puffs_117 (pc' := 120) rfl ?_
                refine a_goto hX dX10_puffs_120 (tgt := 2) (by decide) ?_
                have H := ih (i + 1) Z1 (by omega) hB t1 (fun k hk => ?_) (by omega)
                · refine AW.le ?_ H
                  exact ⟨rfl, rfl, trivial⟩
                · by_cases e : k = i
                  · rw [e]
                    unfold fAll
                    rw [vQ_1]
                    exact vAny_none _ (fun v hv => hw v (by omega))
                  · exact hno k (by omega)
              · refine a_aload_n hX rfl rfl dX10_puffs_33 (pc' := 34) rfl ?_
                refine a_cV0V hX cv_X10_191 (q_layTrial hB) rfl (by decide) ⟨by decide, by decide⟩ (Nat.le_of_ble_eq_true rfl) dX10_puffs_34 (pc' := 37) rfl (fun Z34 Y34 h34 => ?_)
                obtain ⟨u1, u2, u3, hB, eY34⟩ := h34
                rw [eY34]
                have t34 : qT2 Z Z34 := t1.tr ⟨fun a ha _ => u3 a ha, fun j hj => by rw [u2, if_neg (by omega)]⟩
                refine a_iconst hX dX10_puffs_37 (pc' := 38) rfl ?_
                refine a_istore4 hX (by decide) rfl dX10_puffs_38 (pc' := 40) rfl ?_
                have L40 : ∀ (m : Nat) (j : Int) (Z2 : aZ), (0 ≤ j ∧ j ≤ i) → aB Z2 → qT2 Z Z2 → vR Z2 1 = fPf (vQ Z) (vR Z 0) w j.toNat → Z2 69 31 = Z 69 15 → (i - j).toNat < m → AW X G 40 [some (.ref (G.1 62)), some (.int (aI i)), some (.int (aI ((2 * Z 62 1) ^ i.toNat))), some (.int (aI w)), some (.int (aI j)), none] [] Z2 Y := by
                  intro m
                  induction m with
                  | zero =>
                    intro j Z2 hj hB t2 hS2 hd2 hm
                    omega
                  | succ m ih3 =>
                    intro j Z2 hj hB t2 hS2 hd2 hm
                    have eP2 : vQ Z2 = vQ Z := t2.P
                    have eR2 : vR Z2 0 = vR Z 0 := t2.R0
                    have hP2 : okP (vQ Z2) := by rw [eP2]; exact hP
                    have f2 : Z2 62 1 = Z 62 1 := by rw [t2.1 62 (by decide) (by decide)]
                    have hn0 : 1 ≤ i → 0 < Z 62 1 := fun q => by
                      by_cases e : Z 62 1 = 0
                      · exfalso
                        have : (2 * Z 62 1) ^ i.toNat = 0 := by rw [e, show i.toNat = (i.toNat - 1) + 1 by omega, Int.pow_succ]; omega
                        omega
                      · omega
                    have hO9 : okS (vQ Z) (fPf (vQ Z) (vR Z 0) w j.toNat) := by
                      by_cases e : 1 ≤ i
                      · have := hn0 e
                        exact okS_pf hS (by rw [vQ_1]; omega) (by rw [vQ_1]; omega) j.toNat
                      · rw [show j.toNat = 0 by omega]; exact hS
                    have hO2 : okS (vQ Z2) (vR Z2 1) := by rw [eP2, hS2]; exact hO9
                    have hd22 : Z2 69 (16 * 1 + 15) ≤ 5000 := by
                      have : Z2 69 (16 * 1 + 15) = Z2 69 31 := rfl
                      omega
                    refine a_iload hX rfl dX10_puffs_40 (pc' := 42) rfl ?_
                    refine a_iload_n hX rfl rfl dX10_puffs_42 (pc' := 43) rfl ?_
                    refine a_icmp_ge hX (by omega) (by omega) dX10_puffs_43 (pc' := 46) rfl (tgt := 96) (by decide) (fun c43 => ?_) (fun c43 => ?_)
                    · refine a_aload_n hX rfl rfl dX10_puffs_96 (pc' := 97) rfl ?_
                      refine a_iconst hX dX10_puffs_97 (pc' := 98) rfl ?_
                      refine a_cV1I hX cv_X10_197 (q_mostOn (by rw [t2.1 62 (by decide) (by decide), h15]; omega) (by omega) hB hP2 hO2 hd22) rfl (by decide) ⟨by decide, by decide⟩ (Nat.le_of_ble_eq_true rfl) dX10_puffs_98 (pc' := 101) rfl (fun x98 Z98 Y98 h98 => ?_)
                      obtain ⟨e98, z98, hB, rfl⟩ := h98
                      rw [eP2, t2.1 62 (by decide) (by decide), h15, hS2, rMost_eq (by decide), sFill_15 hP] at e98
                      have t98 : qT2 Z Z98 := t2.tr ⟨fun a _ hb => z98 a hb, fun j hj => by rw [z98 69 (by decide)]⟩
                      have eP98 := t98.P
                      have eR98 : vR Z98 1 = fPf (vQ Z) (vR Z 0) w j.toNat := by rw [vR_eq 1 (by rw [z98 62 (by decide)]) (z98 69 (by decide)), hS2]
                      have hP98 : okP (vQ Z98) := by rw [eP98]; exact hP
                      have hO98 : okS (vQ Z98) (vR Z98 1) := by rw [eP98, eR98]; exact hO9
                      have hd98 : Z98 69 (16 * 1 + 15) ≤ 5000 := by rw [z98 69 (by decide)]; exact hd22
                      obtain rfl : j = i := by omega
                      rw [e98]
                      refine a_aload_n hX rfl rfl dX10_puffs_101 (pc' := 102) rfl ?_
                      refine a_iconst hX dX10_puffs_102 (pc' := 103) rfl ?_
                      refine a_cV1i hX cv_X10_155 (q_owedInAll (by omega) hB hP98 hO98 hd98) rfl (by decide) ⟨by decide, by decide⟩ (Nat.le_of_ble_eq_true rfl) dX10_puffs_103 (pc' := 106) rfl ?_
                      rw [eP98, eR98]
                      have r1 := sOwedAll_rng hP hO9
                      have r2 := rMin_rng hP hO9 15 (2 ^ (vQ Z 0 1).toNat)
                      have r3 : vMin (rCut (vQ Z) (fPf (vQ Z) (vR Z 0) w j.toNat) 15) (fun _ => true) (sOwedAll (vQ Z) (fPf (vQ Z) (vR Z 0) w j.toNat)) (2 ^ (vQ Z 0 1).toNat) = sMost (vQ Z) (fPf (vQ Z) (vR Z 0) w j.toNat) := by rw [← sFill_15 hP, ← rMost_eq (by decide)]; rfl
                      rw [r3] at r2
                      refine a_icmp_ne hX (by omega) (by omega) dX10_puffs_106 (pc' := 109) rfl (tgt := 111) (by decide) (fun c106 => ?_) (fun c106 => ?_)
                      · refine a_iinc3 hX (by decide) rfl dX10_puffs_111 (pc' := 114) rfl ?_
                        refine a_goto hX dX10_puffs_114 (tgt := 28) (by decide) ?_
                        have H := ih2 (w + 1) Z98 (by omega) hB t98 (fun v hv => ?_) (by omega)
                        · refine AW.le ?_ H
                          exact ⟨rfl, rfl, rfl, rfl, trivial⟩
                        · by_cases e : v = w
                          · rw [e]
                            unfold fOkW
                            exact decide_eq_false c106
                          · exact hw v (by omega)
                      · refine a_iload_n hX rfl rfl dX10_puffs_109 (pc' := 110) rfl ?_
                        refine a_iret hX dX10_puffs_110 (hE _ _ _ ?_)
                        refine ⟨_, rfl, ?_, t98, hB, rfl⟩
                        obtain ⟨i0, rfl⟩ := Int.eq_ofNat_of_zero_le hi.1
                        obtain ⟨w0, rfl⟩ := Int.eq_ofNat_of_zero_le hwr.1
                        refine (vFst_at hno ?_ 4 (by omega)).symm
                        unfold fAll
                        rw [vQ_1]
                        exact vAny_at (m := w0) (decide_eq_true c106) _ (by omega)
                    · have hn1 := hn0 (by omega)
                      have hmr := fM_rng (P := vQ Z) (w := w) (j := j.toNat) (by rw [vQ_1]; omega)
                      rw [vQ_1] at hmr
                      refine a_iload_n hX rfl rfl dX10_puffs_46 (pc' := 47) rfl ?_
                      refine a_iconst hX dX10_puffs_47 (pc' := 48) rfl ?_
                      refine a_aload_n hX rfl rfl dX10_puffs_48 (pc' := 49) rfl ?_
                      refine a_getfI hX (ji := 1) rfl hB fl_X10_105 rfl (by decide) rfl dX10_puffs_49 (pc' := 52) rfl (fun hb => ?_)
                      refine a_imul hX dX10_puffs_52 (pc' := 53) rfl ?_
                      refine a_iload hX rfl dX10_puffs_53 (pc' := 55) rfl ?_
                      refine a_cS2i hX cs_X10_200 (q_power (by omega)) ⟨by decide, by decide⟩ (Nat.le_of_ble_eq_true rfl) dX10_puffs_55 (pc' := 58) rfl ?_
                      rw [f2]
                      have h8b := f8 (a := 2 * Z 62 1) (i := j) (by omega) (by omega)
                      have h8c := f8p (a := 2 * Z 62 1) (i := j) (by omega)
                      have hq1 := Int.ediv_nonneg (a := w) (b := (2 * Z 62 1) ^ j.toNat) (by omega) (by omega)
                      have hq2 := Int.ediv_le_self (a := w) ((2 * Z 62 1) ^ j.toNat) (by omega)
                      refine a_idiv hX (by omega) (by omega) dX10_puffs_58 (pc' := 59) rfl ?_
                      refine a_iconst hX dX10_puffs_59 (pc' := 60) rfl ?_
                      refine a_aload_n hX rfl rfl dX10_puffs_60 (pc' := 61) rfl ?_
                      refine a_getfI hX (ji := 1) rfl hB fl_X10_105 rfl (by decide) rfl dX10_puffs_61 (pc' := 64) rfl (fun hb => ?_)
                      refine a_imul hX dX10_puffs_64 (pc' := 65) rfl ?_
                      rw [f2]
                      refine a_irem hX (by omega) (by omega) dX10_puffs_65 (pc' := 66) rfl ?_
                      have eM : w / (2 * Z 62 1) ^ j.toNat % (2 * Z 62 1) = fM (vQ Z) w j.toNat := by unfold fM; rw [vQ_1]
                      rw [eM]
                      refine a_istore5 hX (by decide) rfl dX10_puffs_66 (pc' := 68) rfl ?_
                      have J87 : ∀ (g : Bool), g = decide (fM (vQ Z) w j.toNat % 2 = 1) → AW X G 87 [some (.ref (G.1 62)), some (.int (aI i)), some (.int (aI ((2 * Z 62 1) ^ i.toNat))), some (.int (aI w)), some (.int (aI j)), some (.int (aI (fM (vQ Z) w j.toNat)))] [.int (aI (aTr g)), .int (aI (fM (vQ Z) w j.toNat / 2)), .int (aI 1), .ref (G.1 62)] Z2 Y := by
                        intro g hg
                        refine a_cV3V hX cv_X10_181 (q_puffOn (by rw [f2]; omega) (by omega) hB hP2 hO2 hd22) rfl (by decide) ⟨by decide, by decide⟩ (Nat.le_of_ble_eq_true rfl) dX10_puffs_87 (pc' := 90) rfl (fun Z87 Y87 h87 => ?_)
                        rw [hg] at h87
                        refine a_iinc4 hX (by decide) rfl dX10_puffs_90 (pc' := 93) rfl ?_
                        refine a_goto hX dX10_puffs_93 (tgt := 40) (by decide) ?_
                        have e31 : Z87 69 31 = Z2 69 31 := by
                          have e1 := congrFun h87.1 15
                          unfold dPush at e1
                          rw [if_neg (by omega), vR_hi (by omega), vR_hi (by omega)] at e1
                          exact e1
                        have H := ih3 (j + 1) Z87 (by omega) h87.2.2.2.2.1 (t2.tr ⟨fun a ha _ => h87.2.2.1 a ha, fun j hj => h87.2.2.2.1 j (by omega)⟩) (by rw [h87.1, fPf_s hj.1, hS2]) (by rw [e31]; exact hd2) (by omega)
                        rw [h87.2.2.2.2.2]
                        refine AW.le ?_ H
                        exact ⟨rfl, rfl, rfl, rfl, rfl, trivial⟩
                      refine a_aload_n hX rfl rfl dX10_puffs_68 (pc' := 69) rfl ?_
                      refine a_iconst hX dX10_puffs_69 (pc' := 70) rfl ?_
                      refine a_iload hX rfl dX10_puffs_70 (pc' := 72) rfl ?_
                      refine a_iconst hX dX10_puffs_72 (pc' := 73) rfl ?_
                      refine a_idiv hX (by omega) (by omega) dX10_puffs_73 (pc' := 74) rfl ?_
                      refine a_iload hX rfl dX10_puffs_74 (pc' := 76) rfl ?_
                      refine a_iconst hX dX10_puffs_76 (pc' := 77) rfl ?_
                      refine a_irem hX (by omega) (by omega) dX10_puffs_77 (pc' := 78) rfl ?_
                      refine a_iconst hX dX10_puffs_78 (pc' := 79) rfl ?_
                      refine a_icmp_ne hX (by omega) (by omega) dX10_puffs_79 (pc' := 82) rfl (tgt := 86) (by decide) (fun c79 => ?_) (fun c79 => ?_)
                      · refine a_iconst hX dX10_puffs_86 (pc' := 87) rfl ?_
                        first
                          | exact J87 true (decide_eq_true (show _ = _ by omega)).symm
                          | exact J87 false (decide_eq_false (show ¬ _ = _ by omega)).symm
                      · refine a_iconst hX dX10_puffs_82 (pc' := 83) rfl ?_
                        refine a_goto hX dX10_puffs_83 (tgt := 87) (by decide) ?_
                        first
                          | exact J87 true (decide_eq_true (show _ = _ by omega)).symm
                          | exact J87 false (decide_eq_false (show ¬ _ = _ by omega)).symm
                exact L40 5 0 Z34 (by omega) hB t34 (by rw [u1, t1.R0]; rfl) (by rw [u2, if_pos (by omega)]; exact t1.2 15 (by omega)) (by omega)
          exact L28 514 0 Z1 (by omega) hB t1 (fun v hv => by omega) (by omega)
        refine a_iload_n hX rfl rfl dX10_puffs_7 (pc' := 8) rfl ?_
        refine a_if_ne hX (by omega) dX10_puffs_8 (pc' := 11) rfl (tgt := 15) (by decide) (fun c8 => ?_) (fun c8 => ?_)
        · refine a_iconst hX dX10_puffs_15 (pc' := 16) rfl ?_
          refine a_aload_n hX rfl rfl dX10_puffs_16 (pc' := 17) rfl ?_
          refine a_getfI hX (ji := 1) rfl hB fl_X10_105 rfl (by decide) rfl dX10_puffs_17 (pc' := 20) rfl (fun hb => ?_)
          refine a_imul hX dX10_puffs_20 (pc' := 21) rfl ?_
          refine a_iload_n hX rfl rfl dX10_puffs_21 (pc' := 22) rfl ?_
          rw [f1]
          refine a_cS2i hX cs_X10_200 (q_power (by omega)) ⟨by decide, by decide⟩ (Nat.le_of_ble_eq_true rfl) dX10_puffs_22 (pc' := 25) rfl ?_
          first
            | exact J25
            | (have e : (2 * Z 62 1) ^ i.toNat = 1 := by rw [show i.toNat = 0 by omega, Int.pow_zero]
               rw [e] at J25
               exact J25)
        · refine a_iconst hX dX10_puffs_11 (pc' := 12) rfl ?_
          refine a_goto hX dX10_puffs_12 (tgt := 25) (by decide) ?_
          first
            | exact J25
            | (have e : (2 * Z 62 1) ^ i.toNat = 1 := by rw [show i.toNat = 0 by omega, Int.pow_zero]
               rw [e] at J25
               exact J25)
  exact L2 5 0 Z (by omega) hB qT2.rf (fun k hk => by omega) (by omega)

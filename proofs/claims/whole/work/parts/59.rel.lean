/-! THE LAW: class and reference hold the same -/
def rlM (m : Int) (f : Int → Int) : aSk := fun j => if j < 0 then 0 else if j < 4 then (if j < m then f j else 0) else if j < 8 then (if j - 4 < m then f j else 0) else if j < 16 then f j else 0
theorem rlM_congr {m : Int} {f g : Int → Int} (h : ∀ j : Int, 0 ≤ j ∧ j < 16 → f j = g j) : rlM m f = rlM m g := by
  funext j
  unfold rlM
  by_cases a0 : j < 0
  · rw [if_pos a0, if_pos a0]
  · rw [if_neg a0, if_neg a0]
    by_cases a1 : j < 16
    · rw [h j (by omega)]
    · rw [if_neg (show ¬ j < 4 by omega), if_neg (show ¬ j < 4 by omega), if_neg (show ¬ j < 8 by omega), if_neg (show ¬ j < 8 by omega), if_neg a1, if_neg a1]
theorem vRow_M {Z : aZ} {r : Nat} : vRow Z r = rlM (Z 3 9) (Z r) := rfl
theorem vR_M {Z : aZ} {l : Int} : vR Z l = rlM (Z 62 1) (fun j => Z 69 (16 * l + j)) := rfl
def rRow (Z : aZ) (k : Int) : aSk := rlM (Z 62 1) (fun j => Z 75 (16 * k + j))
def rKp (Z : aZ) (s : Int) : aSk := rlM (Z 62 1) (fun j => Z 79 (16 * s + j))
def okD (d : Int) (P : aP) (S : aSk) : Prop := okS P S ∧ oz P S ∧ S 15 ≤ d
theorem okD.mono {d e : Int} {P : aP} {S : aSk} (h : okD d P S) (hd : d ≤ e) : okD e P S := ⟨h.1, h.2.1, Int.le_trans h.2.2 hd⟩
def relT (Z : aZ) : Prop := okT Z ∧ Z 62 17 = Z 1 1 ∧ Z 73 = Z 2
def relP (Z : aZ) : Prop := okP (vP Z) ∧ vQ Z = vP Z
def relS (d : Int) (Z : aZ) : Prop := okD d (vP Z) (vS Z 12) ∧ vR Z 0 = vS Z 12
def relA (d : Int) (Z : aZ) : Prop := okA Z ∧ okN Z ∧ Z 62 22 = Z 20 2 ∧ ∀ i : Int, 0 ≤ i → i < Z 20 2 → okD d (vP Z) (vRow Z (aRw Z i)) ∧ rRow Z ((Z 62 23 + 14 - Z 20 2 + i) % 14) = vRow Z (aRw Z i)
def relK (d : Int) (Z : aZ) : Prop := ∀ s : Int, s = 0 ∨ s = 1 → Z 78 s = Z 59 s ∧ (Z 59 s ≠ 0 → okD d (vP Z) (vRow Z (57 + s.toNat)) ∧ rKp Z s = vRow Z (57 + s.toNat))
def relW (Z : aZ) : Prop := okSee Z ∧ Z 62 25 = Z 36 2 ∧ Z 76 = Z 37 ∧ Z 77 = Z 38
def relM (Z : aZ) (Y : aY) : Prop := Y 62 = Y 0 ∧ Z 62 20 = 15 ∧ okVr Z ∧ aB Z
def Rel (d : Int) (Z : aZ) (Y : aY) : Prop := relT Z ∧ relP Z ∧ relS d Z ∧ relA d Z ∧ relK d Z ∧ relW Z ∧ relM Z Y
theorem relT_eq {Z Z' : aZ} (h1 : Z' 1 = Z 1) (h2 : Z' 2 = Z 2) (h3 : Z' 62 17 = Z 62 17) (h4 : Z' 73 = Z 73) (h : relT Z) : relT Z' := by
  unfold relT okT
  rw [h1, h2, h3, h4]
  exact h
theorem relP_eq {Z Z' : aZ} (h1 : vP Z' = vP Z) (h2 : vQ Z' = vQ Z) (h : relP Z) : relP Z' := by
  unfold relP
  rw [h1, h2]
  exact h
theorem relS_eq {d e : Int} {Z Z' : aZ} (h1 : vP Z' = vP Z) (h2 : vS Z' 12 = vS Z 12) (h3 : vR Z' 0 = vR Z 0) (hd : d ≤ e) (h : relS d Z) : relS e Z' := by
  unfold relS
  rw [h1, h2, h3]
  exact ⟨h.1.mono hd, h.2⟩
theorem relA_eq {d e : Int} {Z Z' : aZ} (h1 : ∀ a : Nat, (3 ≤ a ∧ a ≤ 11) ∨ (22 ≤ a ∧ a < 36) ∨ a = 75 → Z' a = Z a) (e20a : Z' 20 1 = Z 20 1) (e20b : Z' 20 2 = Z 20 2) (h2 : Z' 62 1 = Z 62 1) (h3 : Z' 62 22 = Z 62 22) (h4 : Z' 62 23 = Z 62 23) (hd : d ≤ e) (h : relA d Z) : relA e Z' := by
  obtain ⟨hA, hN, hn, hr⟩ := h
  have e3 : Z' 3 = Z 3 := h1 3 (by decide)
  have eP : vP Z' = vP Z := vP_eq (fun a ha => h1 a (by omega))
  refine ⟨?_, ?_, ?_, fun i h5 h6 => ?_⟩
  · unfold okA; rw [e20a, e20b]; exact hA
  · unfold okN; rw [h3, h4]; exact hN
  · rw [h3, e20b]; exact hn
  · rw [e20b] at h6
    obtain ⟨g1, g2⟩ := hr i h5 h6
    have er : aRw Z' i = aRw Z i := by unfold aRw; rw [e20a]
    have hrg := aRw_rng Z i
    rw [eP, er, vRow_eq e3 (h1 _ (by omega)), h4, e20b]
    refine ⟨g1.mono hd, ?_⟩
    unfold rRow
    rw [h2, h1 75 (by decide)]
    exact g2
theorem relK_eq {d e : Int} {Z Z' : aZ} (h1 : ∀ a : Nat, (3 ≤ a ∧ a ≤ 11) ∨ (57 ≤ a ∧ a ≤ 59) ∨ a = 78 ∨ a = 79 → Z' a = Z a) (h2 : Z' 62 1 = Z 62 1) (hd : d ≤ e) (h : relK d Z) : relK e Z' := fun s hs => by
  obtain ⟨g1, g2⟩ := h s hs
  have e3 : Z' 3 = Z 3 := h1 3 (by decide)
  have eP : vP Z' = vP Z := vP_eq (fun a ha => h1 a (by omega))
  rw [h1 78 (by decide), h1 59 (by decide)]
  refine ⟨g1, fun q => ?_⟩
  obtain ⟨g3, g4⟩ := g2 q
  rw [eP, vRow_eq e3 (h1 _ (by omega))]
  refine ⟨g3.mono hd, ?_⟩
  unfold rKp
  rw [h2, h1 79 (by decide)]
  exact g4
theorem relW_eq {Z Z' : aZ} (h1 : ∀ a : Nat, (36 ≤ a ∧ a ≤ 38) ∨ a = 76 ∨ a = 77 → Z' a = Z a) (h2 : Z' 62 25 = Z 62 25) (h : relW Z) : relW Z' := by
  unfold relW okSee
  rw [h1 36 (by decide), h1 37 (by decide), h1 38 (by decide), h1 76 (by decide), h1 77 (by decide), h2]
  exact h
/-- what both sides show stays -/
def sm (Z Z' : aZ) : Prop := (∀ a : Nat, (a ≤ 15 ∨ (20 ≤ a ∧ a ≤ 38) ∨ (57 ≤ a ∧ a ≤ 59) ∨ (63 ≤ a ∧ a ≤ 68) ∨ a = 73 ∨ (75 ≤ a ∧ a ≤ 79)) → Z' a = Z a) ∧ (∀ j : Int, ¬ (13 ≤ j ∧ j ≤ 15) → j ≠ 18 → j ≠ 19 → Z' 62 j = Z 62 j) ∧ ∀ j : Int, j < 16 → Z' 69 j = Z 69 j
theorem sm.rf {Z : aZ} : sm Z Z := ⟨fun _ _ => rfl, fun _ _ _ _ => rfl, fun _ _ => rfl⟩
theorem sm.tr {Z Z1 Z2 : aZ} (h : sm Z Z1) (g : sm Z1 Z2) : sm Z Z2 := ⟨fun a ha => (g.1 a ha).trans (h.1 a ha), fun j h1 h2 h3 => (g.2.1 j h1 h2 h3).trans (h.2.1 j h1 h2 h3), fun j hj => (g.2.2 j hj).trans (h.2.2 j hj)⟩
theorem sm.P {Z Z' : aZ} (h : sm Z Z') : vP Z' = vP Z := vP_eq (fun a ha => h.1 a (by omega))
theorem sm.Q {Z Z' : aZ} (h : sm Z Z') : vQ Z' = vQ Z := vQ_eq2 (h.2.1 0 (by decide) (by decide) (by decide)) (h.2.1 1 (by decide) (by decide) (by decide)) (h.2.1 2 (by decide) (by decide) (by decide)) (fun a ha => h.1 a (by omega))
theorem sm.S {Z Z' : aZ} (h : sm Z Z') : vS Z' 12 = vS Z 12 := vS_frame (h.1 3 (by decide)) (h.1 12 (by decide)) (h.1 13 (by decide)) (h.1 14 (by decide)) (h.1 15 (by decide))
theorem sm.R0 {Z Z' : aZ} (h : sm Z Z') : vR Z' 0 = vR Z 0 := by
  rw [vR_M, vR_M, h.2.1 1 (by decide) (by decide) (by decide)]
  exact rlM_congr (fun j hj => h.2.2 _ (by omega))
theorem sm.c {Z Z' : aZ} (h : ∀ a : Nat, ¬ ((16 ≤ a ∧ a ≤ 19) ∨ (39 ≤ a ∧ a ≤ 56) ∨ a = 60 ∨ a = 61 ∨ a = 74) → Z' a = Z a) : sm Z Z' := ⟨fun a ha => h a (by omega), fun j _ _ _ => by rw [h 62 (by decide)], fun j _ => by rw [h 69 (by decide)]⟩
theorem qTr.sm {Z Z' : aZ} (h : qTr Z Z') : sm Z Z' := ⟨fun a ha => h.1 a (by omega), fun j _ _ _ => by rw [h.1 62 (by decide)], h.2⟩
theorem qT2.sm {Z Z' : aZ} (h : qT2 Z Z') : sm Z Z' := ⟨fun a ha => h.1 a (by omega) (by omega), fun j _ _ _ => by rw [h.1 62 (by decide) (by decide)], h.2⟩
theorem rdFr.sm {Z Z' : aZ} (h : rdFr Z Z') : sm Z Z' := ⟨fun a ha => h.1 a (by omega) (by omega) (by omega) (by omega), h.2, fun j _ => by rw [h.1 69 (by decide) (by decide) (by decide) (by decide)]⟩
theorem Rel.mono {d e : Int} {Z : aZ} {Y : aY} (h : Rel d Z Y) (hd : d ≤ e) : Rel e Z Y := by
  obtain ⟨hT, hP, hS, hA, hK, hW, hM⟩ := h
  exact ⟨hT, hP, relS_eq rfl rfl rfl hd hS, relA_eq (fun _ _ => rfl) rfl rfl rfl rfl rfl hd hA, relK_eq (fun _ _ => rfl) rfl hd hK, hW, hM⟩
theorem Rel.sm {d e : Int} {Z Z' : aZ} {Y Y' : aY} (h : Rel d Z Y) (g : sm Z Z') (hv : okVr Z') (hB : aB Z') (hy : Y' 62 = Y' 0) (hd : d ≤ e) : Rel e Z' Y' := by
  obtain ⟨hT, hP, hS, hA, hK, hW, hM⟩ := h
  refine ⟨relT_eq (g.1 1 (by decide)) (g.1 2 (by decide)) (g.2.1 17 (by decide) (by decide) (by decide)) (g.1 73 (by decide)) hT, relP_eq g.P g.Q hP, relS_eq g.P g.S g.R0 hd hS, relA_eq (fun a ha => g.1 a (by omega)) (by rw [g.1 20 (by decide)]) (by rw [g.1 20 (by decide)]) (g.2.1 1 (by decide) (by decide) (by decide)) (g.2.1 22 (by decide) (by decide) (by decide)) (g.2.1 23 (by decide) (by decide) (by decide)) hd hA, relK_eq (fun a ha => g.1 a (by omega)) (g.2.1 1 (by decide) (by decide) (by decide)) hd hK, relW_eq (fun a ha => g.1 a (by omega)) (g.2.1 25 (by decide) (by decide) (by decide)) hW, hy, ?_, hv, hB⟩
  rw [g.2.1 20 (by decide) (by decide) (by decide)]
  exact hM.2.1
/-- the premises of the class's contracts -/
theorem Rel.c {d : Int} {Z : aZ} {Y : aY} (h : Rel d Z Y) (hd : d ≤ 4000) : aB Z ∧ okP (vP Z) ∧ okS (vP Z) (vS Z 12) ∧ Z 12 6 ≤ 4000 ∧ Z 12 6 ≤ 5000 ∧ okT Z ∧ okA Z ∧ okSee Z := by
  obtain ⟨hT, hP, hS, hA, hK, hW, hM⟩ := h
  have h1 := hS.1.2.2
  rw [vS_15] at h1
  exact ⟨hM.2.2.2, hP.1, hS.1.1, by omega, by omega, hT.1, hA.1, hW.1⟩
theorem cl_Q {Z Z1 : aZ} (hc : ∀ a : Nat, 62 ≤ a → Z1 a = Z a) : vQ Z1 = vQ Z := vQ_eq (fun a ha => hc a ha.1)
theorem cl_R {Z Z1 : aZ} (hc : ∀ a : Nat, 62 ≤ a → Z1 a = Z a) (l : Int) : vR Z1 l = vR Z l := vR_eq l (by rw [hc 62 (by decide)]) (hc 69 (by decide))
theorem Rel.eQ {d : Int} {Z Z1 : aZ} {Y : aY} (h : Rel d Z Y) (hc : ∀ a : Nat, 62 ≤ a → Z1 a = Z a) : vQ Z1 = vP Z := (cl_Q hc).trans h.2.1.2
theorem Rel.eR {d : Int} {Z Z1 : aZ} {Y : aY} (h : Rel d Z Y) (hc : ∀ a : Nat, 62 ≤ a → Z1 a = Z a) : vR Z1 0 = vS Z 12 := (cl_R hc 0).trans h.2.2.1.2
/-- the premises of the reference's, behind the class's call -/
theorem Rel.q {d : Int} {Z Z1 : aZ} {Y : aY} (h : Rel d Z Y) (hd : d ≤ 4000) (hc : ∀ a : Nat, 62 ≤ a → Z1 a = Z a) : okP (vQ Z1) ∧ okS (vQ Z1) (vR Z1 0) ∧ Z1 69 15 ≤ 4000 ∧ Z1 69 15 ≤ 5000 ∧ oz (vQ Z1) (vR Z1 0) ∧ Z1 62 20 = 15 ∧ okN Z1 ∧ okVr Z1 ∧ (0 ≤ Z1 62 17 ∧ Z1 62 17 ≤ 52) ∧ (∀ j : Int, 0 ≤ Z1 73 j ∧ Z1 73 j ≤ 255) ∧ ((0 ≤ Z1 62 25 ∧ Z1 62 25 ≤ 6) ∧ (∀ j, 0 ≤ Z1 76 j ∧ Z1 76 j ≤ 5) ∧ ∀ j, 0 ≤ Z1 77 j ∧ Z1 77 j ≤ 9) := by
  rw [h.eQ hc, h.eR hc]
  obtain ⟨hT, hP, hS, hA, hK, hW, hM⟩ := h
  have h1 := hS.1.2.2
  rw [← hS.2] at h1
  rw [vR_hi (by decide)] at h1
  have h1 : Z 69 15 ≤ d := h1
  unfold okN
  rw [hc 69 (by decide), hc 62 (by decide), hc 73 (by decide), hc 76 (by decide), hc 77 (by decide)]
  exact ⟨hP.1, hS.1.1, by omega, by omega, hS.1.2.1, hM.2.1, hA.2.1, okVr_eq (hc 70 (by decide)) (hc 71 (by decide)) (hc 72 (by decide)) hM.2.2.1, by rw [hT.2.1]; exact hT.1.1, by rw [hT.2.2]; exact hT.1.2, by rw [hW.2.1, hW.2.2.1, hW.2.2.2]; exact hW.1⟩

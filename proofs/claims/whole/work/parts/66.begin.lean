/-! THE BEGINNING: two new objects hold the same -/
def Z0 : aZ := fun k => if k = 62 then (fun j => if j = 20 then 15 else 0) else if k = 48 then (fun j => if j = 2 then 1 else 0) else fun _ => 0
def Y0 : aY := fun _ => 0
theorem Z0_0 {k : Nat} (h1 : k ≠ 62) (h2 : k ≠ 48) : Z0 k = fun _ => 0 := by
  unfold Z0
  rw [if_neg h1, if_neg h2]
theorem Z0_z {k : Nat} {j : Int} (h1 : k ≠ 62) (h2 : k ≠ 48) : Z0 k j = 0 := by rw [Z0_0 h1 h2]
theorem Z0_62 {j : Int} (h : j ≠ 20) : Z0 62 j = 0 := by
  show (if j = 20 then (15 : Int) else 0) = 0
  rw [if_neg h]
theorem vP_Z0 {k : Nat} {j : Int} : vP Z0 k j = 0 := by
  match k with
  | 0 =>
    show (if j = 0 then Z0 3 8 else if j = 1 then Z0 3 9 else Z0 3 10) = 0
    rw [Z0_z (by decide) (by decide), Z0_z (by decide) (by decide), Z0_z (by decide) (by decide)]
    simp
  | 1 => exact Z0_z (by decide) (by decide)
  | 2 => rfl
  | 3 => rfl
  | 4 => exact Z0_z (by decide) (by decide)
  | 5 => exact Z0_z (by decide) (by decide)
  | 6 => exact Z0_z (by decide) (by decide)
  | 7 => exact Z0_z (by decide) (by decide)
  | 8 => exact Z0_z (by decide) (by decide)
  | n + 9 => rfl
theorem vQ_Z0 {k : Nat} {j : Int} : vQ Z0 k j = 0 := by
  match k with
  | 0 =>
    show (if j = 0 then Z0 62 0 else if j = 1 then Z0 62 1 else Z0 62 2) = 0
    rw [Z0_62 (by decide), Z0_62 (by decide), Z0_62 (by decide)]
    simp
  | 1 => exact Z0_z (by decide) (by decide)
  | 2 => rfl
  | 3 => rfl
  | 4 => exact Z0_z (by decide) (by decide)
  | 5 => exact Z0_z (by decide) (by decide)
  | 6 => exact Z0_z (by decide) (by decide)
  | 7 => exact Z0_z (by decide) (by decide)
  | 8 => exact Z0_z (by decide) (by decide)
  | n + 9 => rfl
theorem vS_Z0 {j : Int} : vS Z0 12 j = 0 := by
  unfold vS
  simp only [Z0_0 (show (12 : Nat) + 1 ≠ 62 by decide) (by decide), Z0_0 (show (12 : Nat) + 2 ≠ 62 by decide) (by decide), Z0_0 (show (12 : Nat) + 3 ≠ 62 by decide) (by decide), Z0_0 (show (12 : Nat) ≠ 62 by decide) (by decide)]
  simp
theorem vR_Z0 {j : Int} : vR Z0 0 j = 0 := by
  unfold vR
  simp only [Z0_0 (show (69 : Nat) ≠ 62 by decide) (by decide)]
  simp
theorem okP0 : okP (fun _ _ => 0) := ⟨(by decide : (0 : Int) ≤ 0 ∧ (0 : Int) ≤ 4), (by decide : (0 : Int) ≤ 0 ∧ (0 : Int) ≤ 4), (by decide : (0 : Int) ≤ 0 ∧ (0 : Int) ≤ 5), fun _ => (by decide : (0 : Int) ≤ 0 ∧ (0 : Int) ≤ 2), fun _ => (by decide : (0 : Int) ≤ 0 ∧ (0 : Int) ≤ 3), fun _ => (by decide : (0 : Int) ≤ 0 ∧ (0 : Int) ≤ 5), fun _ => (by decide : (0 : Int) ≤ 0 ∧ (0 : Int) ≤ 9), fun _ => (by decide : (0 : Int) ≤ 0 ∧ (0 : Int) ≤ 3), fun _ => (by decide : (0 : Int) ≤ 0 ∧ (0 : Int) ≤ 9)⟩
theorem okS0 : okS (fun _ _ => 0) (fun _ => 0) := ⟨fun _ _ => (by decide : (0 : Int) ≤ 0 ∧ (0 : Int) ≤ 5), fun _ _ => (by decide : (0 : Int) ≤ 0 ∧ (0 : Int) ≤ 9), fun _ _ => (by decide : (0 : Int) ≤ 0 ∧ (0 : Int) ≤ 0), (by decide : (0 : Int) ≤ 0 ∧ (0 : Int) < 32), (by decide : (0 : Int) ≤ 0 ∧ (0 : Int) ≤ 45 * 0), Int.le_refl 0⟩
theorem Rel0 : Rel 0 Z0 Y0 := by
  have eP : vP Z0 = fun _ _ => 0 := by funext k j; exact vP_Z0
  have eQ : vQ Z0 = fun _ _ => 0 := by funext k j; exact vQ_Z0
  have eS : vS Z0 12 = fun _ => 0 := by funext j; exact vS_Z0
  have eR : vR Z0 0 = fun _ => 0 := by funext j; exact vR_Z0
  refine ⟨⟨⟨?_, fun j => ?_⟩, ?_, ?_⟩, ⟨?_, ?_⟩, ⟨⟨?_, ?_, ?_⟩, ?_⟩, ⟨?_, ?_, ?_, fun i h1 h2 => ?_⟩, fun s hs => ⟨?_, fun q => ?_⟩, ⟨⟨?_, fun j => ?_, fun j => ?_⟩, ?_, ?_, ?_⟩, rfl, rfl, ?_, fun k j => ?_⟩
  · rw [Z0_z (by decide) (by decide)]; decide
  · rw [Z0_z (by decide) (by decide)]; decide
  · rw [Z0_62 (by decide), Z0_z (by decide) (by decide)]
  · rw [Z0_0 (by decide) (by decide), Z0_0 (by decide) (by decide)]
  · rw [eP]
    exact okP0
  · rw [eQ, eP]
  · rw [eS, eP]
    exact okS0
  · rw [eS]
    exact fun _ _ _ => rfl
  · rw [eS]
    exact Int.le_refl _
  · rw [eR, eS]
  · unfold okA
    rw [Z0_z (by decide) (by decide), Z0_z (by decide) (by decide)]
    decide
  · unfold okN
    rw [Z0_62 (by decide), Z0_62 (by decide)]
    decide
  · rw [Z0_62 (by decide), Z0_z (by decide) (by decide)]
  · rw [Z0_z (by decide) (by decide)] at h2
    omega
  · rw [Z0_z (by decide) (by decide), Z0_z (by decide) (by decide)]
  · exact absurd (Z0_z (by decide) (by decide)) q
  · rw [Z0_z (by decide) (by decide)]; decide
  · rw [Z0_z (by decide) (by decide)]; decide
  · rw [Z0_z (by decide) (by decide)]; decide
  · rw [Z0_62 (by decide), Z0_z (by decide) (by decide)]
  · rw [Z0_0 (by decide) (by decide), Z0_0 (by decide) (by decide)]
  · rw [Z0_0 (by decide) (by decide), Z0_0 (by decide) (by decide)]
  · unfold okVr
    rw [Z0_0 (show (70 : Nat) ≠ 62 by decide) (by decide), Z0_0 (show (71 : Nat) ≠ 62 by decide) (by decide), Z0_0 (show (72 : Nat) ≠ 62 by decide) (by decide)]
    exact ⟨fun _ => (by decide : (0 : Int) ≤ 0 ∧ (0 : Int) ≤ 2), ⟨fun _ => (by decide : (0 : Int) ≤ 0 ∧ (0 : Int) ≤ 5), fun _ => (by decide : (0 : Int) ≤ 0 ∧ (0 : Int) ≤ 9), fun _ => (by decide : (0 : Int) ≤ 0 ∧ (0 : Int) ≤ 3)⟩, fun _ => (by decide : (0 : Int) ≤ 0 ∧ (0 : Int) ≤ 5), fun _ => (by decide : (0 : Int) ≤ 0 ∧ (0 : Int) ≤ 9), fun _ => (by decide : (0 : Int) ≤ 0 ∧ (0 : Int) ≤ 9), fun _ => (by decide : (0 : Int) ≤ 0 ∧ (0 : Int) ≤ 3)⟩
  · by_cases a : k = 62
    · subst a
      by_cases c : j = 20
      · subst c; decide
      · rw [Z0_62 c]; decide
    · by_cases c : k = 48
      · subst c
        show -100000000 ≤ (if j = 2 then (1 : Int) else 0) ∧ (if j = 2 then (1 : Int) else 0) ≤ 100000000
        split <;> decide
      · rw [Z0_z a c]; decide
/-- the addresses: the class's cells, then the reference's -/
def bG1 (h0 h1 : Nat) (u v : Nat → Nat) : Nat → Nat := fun k => if k = 0 then h0 else if k < 62 then u k else if k = 62 then h1 else v (k - 62)
def bGG (T : Nat → ClassId) (D : va_G) (sK sV : Nat → Nat) (h0 h1 : Nat) (u v : Nat → Nat) : aG := (bG1 h0 h1 u v, T, D, sK, sV)
theorem bG1_lt {h0 h1 : Nat} {u v : Nat → Nat} {k : Nat} (h : 0 < k ∧ k < 62) : bG1 h0 h1 u v k = u k := by
  unfold bG1
  rw [if_neg (by omega), if_pos h.2]
set_option maxHeartbeats 4000000 in
set_option maxRecDepth 100000 in
theorem bWorld {T : Nat → ClassId} {D : va_G} {sK sV : Nat → Nat} {h0 h1 : Nat} {u v : Nat → Nat} : bcSnow T h0 u ++ bcModel T h1 v = aW (bGG T D sK sV h0 h1 u v) Z0 Y0 := by
  have e1 : bArr2 T 14 (fun i => u (22 + i)) = bArr2 T 14 (fun i => bG1 h0 h1 u v (22 + i)) := bArr2_congr (fun i hi => (bG1_lt (by omega)).symm)
  have e2 : bArr2 T 4 (fun i => u (44 + i)) = bArr2 T 4 (fun i => bG1 h0 h1 u v (44 + i)) := bArr2_congr (fun i hi => (bG1_lt (by omega)).symm)
  have e3 : bArr2 T 2 (fun i => u (57 + i)) = bArr2 T 2 (fun i => bG1 h0 h1 u v (57 + i)) := bArr2_congr (fun i hi => (bG1_lt (by omega)).symm)
  unfold bcSnow
  rw [e1, e2, e3]
  rfl
theorem vOver {args : Array Value} {s : State} {t : FieldType} (h : (Cond.arrayOver (.array t)).before args s = true) :
    ∃ comp c k, s.vm.findClass (FieldType.array t).toString = some comp ∧ s.vm.classes[c]? = some k ∧ k.kind = .array comp (.array t) ∧ s.vm.findClass ("[" ++ (FieldType.array t).toString) = some c := by
  simp only [Cond.before, Cond.holds, Cond.value, beq_iff_eq] at h
  cases hc : s.vm.findClass (FieldType.array t).toString with
  | none => simp [hc] at h
  | some comp =>
    simp only [hc, Option.bind_some, Option.bind_eq_some_iff, Option.map_eq_some_iff] at h
    obtain ⟨c, hi, k, hk, hb⟩ := h
    obtain ⟨hlt, hp, -⟩ := Array.findIdx?_eq_some_iff_getElem.mp hi
    have hkk : s.vm.classes[c] = k := (Array.getElem?_eq_some_iff.mp hk).2
    rw [hkk] at hp
    cases hkind : k.kind with
    | array component ty =>
      rw [hkind] at hb hp
      simp at hb hp
      exact ⟨comp, c, k, rfl, hk, by rw [hkind, hp, hb.1], hb.2⟩
    | _ => rw [hkind] at hb; simp at hb
theorem vTys {args : Array Value} {s : State} {D : va_G} (h1 : (Cond.arrayClass .int).before args s = true) (h2 : (Cond.arrayClass .boolean).before args s = true) (h3 : (Cond.arrayOver (.array .int)).before args s = true) (hc : ∀ (c : Nat) (q : vw_C), vwCl[c]? = some q → u_Kn s q.1 q.2.1 q.2.2 (D.1 c) (D.2 c)) : ∃ T : Nat → ClassId, va_K D vwCl (bTys T) s := by
  obtain ⟨c1, k1, p1, a1, a2, a3⟩ := Cond.arrayClass_spec h1
  obtain ⟨c2, k2, p2, b1, b2, b3⟩ := Cond.arrayClass_spec h2
  obtain ⟨p3, c3, k3, -, d2, d3, d4⟩ := vOver h3
  refine ⟨fun k => if k = 0 then c1 else if k = 1 then c2 else c3, hc, fun k q hq => ?_⟩
  match k, hq with
  | 0, hq => cases hq; exact ⟨fun n z => ⟨fun k h => (by cases h), k1, a2, p1, a3⟩, a1⟩
  | 1, hq => cases hq; exact ⟨fun n z => ⟨fun k h => (by cases h), k2, b2, p2, b3⟩, b1⟩
  | 2, hq => cases hq; exact ⟨fun n z => ⟨fun k h => (by cases h), k3, d2, p3, d3⟩, d4⟩
  | n + 3, hq => simp [bTys] at hq
theorem vInst_53 : Cond.instantiable RX9 14 ∈ aT := aT_at (i := 53) (by decide +kernel) (by decide +kernel)
theorem vInst_801 : Cond.instantiable RX10 31 ∈ aT := aT_at (i := 801) (by decide +kernel) (by decide +kernel)
theorem vKnown {args : Array Value} {s : State} (hts : ∀ w ∈ aT, w.before args s = true) : ∃ D : va_G, ∀ (c : Nat) (q : vw_C), vwCl[c]? = some q → u_Kn s q.1 q.2.1 q.2.2 (D.1 c) (D.2 c) := by
  obtain ⟨c0, i0, h0⟩ := u_known (C := RX0) (T := TX0) (N := 3) (n := 3) hts cl_0.2.1 (hts _ v_171)
  obtain ⟨c1, i1, h1⟩ := u_known (C := RX1) (T := TX1) (N := 3) (n := 3) hts cl_1.2.1 (hts _ v_233)
  obtain ⟨c2, i2, h2⟩ := u_known (C := RX3) (T := TX3) (N := 11) (n := 11) hts cl_2.2.1 (hts _ v_77)
  obtain ⟨c3, i3, h3⟩ := u_known (C := RX4) (T := TX4) (N := 4) (n := 4) hts cl_3.2.1 (hts _ v_251)
  obtain ⟨c4, i4, h4⟩ := u_known (C := RX5) (T := TX5) (N := 2) (n := 2) hts cl_4.2.1 (hts _ v_61)
  obtain ⟨c5, i5, h5⟩ := u_known (C := RX6) (T := TX6) (N := 6) (n := 6) hts cl_5.2.1 (hts _ v_207)
  obtain ⟨c6, i6, h6⟩ := u_known (C := RX7) (T := TX7) (N := 3) (n := 3) hts cl_6.2.1 (hts _ v_190)
  obtain ⟨c7, i7, h7⟩ := u_known (C := RX8) (T := TX8) (N := 7) (n := 7) hts cl_7.2.1 (hts _ v_135)
  obtain ⟨c8, i8, h8⟩ := u_known (C := RX9) (T := TX9) (N := 14) (n := 14) hts cl_8.2.1 (hts _ vInst_53)
  obtain ⟨c9, i9, h9⟩ := u_known (C := RX10) (T := TX10) (N := 31) (n := 31) hts cl_9.2.1 (hts _ vInst_801)
  refine ⟨(fun k => if k = 0 then c0 else if k = 1 then c1 else if k = 2 then c2 else if k = 3 then c3 else if k = 4 then c4 else if k = 5 then c5 else if k = 6 then c6 else if k = 7 then c7 else if k = 8 then c8 else c9, fun k => if k = 0 then i0 else if k = 1 then i1 else if k = 2 then i2 else if k = 3 then i3 else if k = 4 then i4 else if k = 5 then i5 else if k = 6 then i6 else if k = 7 then i7 else if k = 8 then i8 else i9), fun k q hq => ?_⟩
  match k, hq with
  | 0, hq => cases hq; exact h0
  | 1, hq => cases hq; exact h1
  | 2, hq => cases hq; exact h2
  | 3, hq => cases hq; exact h3
  | 4, hq => cases hq; exact h4
  | 5, hq => cases hq; exact h5
  | 6, hq => cases hq; exact h6
  | 7, hq => cases hq; exact h7
  | 8, hq => cases hq; exact h8
  | 9, hq => cases hq; exact h9
  | k + 10, hq => simp [vwCl] at hq
/-- the texts of the figures' bounds, as the Statement has them -/
theorem vStr {args : Array Value} {s : State} {A : Nat → Prop} (hs : ∀ w ∈ flatC (Jvm.Cond.and given_1 narrow_1), w.before args s = true) (hts : ∀ w ∈ lw_tbl, w.before args s = true) (hA : ∀ a : Nat, a < s.heap.size → ¬ A a) : ∃ sK sV : Nat → Nat, (vk_S 7 aSl aSb sK sV A s s.heap ∧ va_Z "java/lang/String" "COMPACT_STRINGS" "Z" (.int 1) A s s.heap ∧ va_Zq "jdk/internal/util/Preconditions" "SIOOBE_FORMATTER" "Ljava/util/function/BiFunction;" A s s.heap) ∧ ∀ i, i < 7 → vk_R "PromisedSnow$Script" (aSx.getD i 0) (aSt7.getD i "") (sK i) s := by
  obtain ⟨sK, sV, h1, h2⟩ := vk_Sof (args := args) (s := s) (N := 7) (tm := fun i => .string "PromisedSnow$Script" (aSx.getD i 0)) (len := aSl) (byt := aSb) (A := A)
    (by decide)
    (fun i hi => by rcases (show i = 0 ∨ i = 1 ∨ i = 2 ∨ i = 3 ∨ i = 4 ∨ i = 5 ∨ i = 6 by omega) with rfl | rfl | rfl | rfl | rfl | rfl | rfl <;> exact hs _ (by decide +kernel))
    (fun i hi => by rcases (show i = 0 ∨ i = 1 ∨ i = 2 ∨ i = 3 ∨ i = 4 ∨ i = 5 ∨ i = 6 by omega) with rfl | rfl | rfl | rfl | rfl | rfl | rfl <;> exact hs _ (by decide +kernel))
    (fun i hi => by rcases (show i = 0 ∨ i = 1 ∨ i = 2 ∨ i = 3 ∨ i = 4 ∨ i = 5 ∨ i = 6 by omega) with rfl | rfl | rfl | rfl | rfl | rfl | rfl <;> exact hs _ (by decide +kernel))
    (fun i hi => by rcases (show i = 0 ∨ i = 1 ∨ i = 2 ∨ i = 3 ∨ i = 4 ∨ i = 5 ∨ i = 6 by omega) with rfl | rfl | rfl | rfl | rfl | rfl | rfl <;> exact hs _ (by decide +kernel))
    (fun i hi j hj => by
      have h4 : j < 4 := by
        rcases (show i = 0 ∨ i = 1 ∨ i = 2 ∨ i = 3 ∨ i = 4 ∨ i = 5 ∨ i = 6 by omega) with rfl | rfl | rfl | rfl | rfl | rfl | rfl <;> exact Nat.lt_of_lt_of_le hj (by decide)
      rcases (show i = 0 ∨ i = 1 ∨ i = 2 ∨ i = 3 ∨ i = 4 ∨ i = 5 ∨ i = 6 by omega) with rfl | rfl | rfl | rfl | rfl | rfl | rfl <;> rcases (show j = 0 ∨ j = 1 ∨ j = 2 ∨ j = 3 by omega) with rfl | rfl | rfl | rfl <;> first | exact absurd hj (by decide) | exact hs _ (by decide +kernel))
    (fun i j hi hj hij => by
      rcases (show i = 0 ∨ i = 1 ∨ i = 2 ∨ i = 3 ∨ i = 4 ∨ i = 5 ∨ i = 6 by omega) with rfl | rfl | rfl | rfl | rfl | rfl | rfl <;> rcases (show j = 0 ∨ j = 1 ∨ j = 2 ∨ j = 3 ∨ j = 4 ∨ j = 5 ∨ j = 6 by omega) with rfl | rfl | rfl | rfl | rfl | rfl | rfl <;> first | exact absurd rfl hij | exact Or.inl (hs _ (by decide +kernel)) | exact Or.inr (hs _ (by decide +kernel)))
    hA
  refine ⟨sK, sV, ⟨h1, va_Zof (hts _ (List.mem_of_getElem? (i := 367) (by decide +kernel))) (hts _ (List.mem_of_getElem? (i := 44) (by decide +kernel))) (va_eqt (hs _ (by decide +kernel))) hA, va_Zqof (hts _ (List.mem_of_getElem? (i := 383) (by decide +kernel))) (hts _ (List.mem_of_getElem? (i := 46) (by decide +kernel))) (hs _ (by decide +kernel)) hA⟩, fun i hi => ?_⟩
  rcases (show i = 0 ∨ i = 1 ∨ i = 2 ∨ i = 3 ∨ i = 4 ∨ i = 5 ∨ i = 6 by omega) with rfl | rfl | rfl | rfl | rfl | rfl | rfl
  · exact vk_R.of (hts _ (List.mem_of_getElem? (i := 348) (by decide +kernel))) (h2 0 (by decide))
  · exact vk_R.of (hts _ (List.mem_of_getElem? (i := 349) (by decide +kernel))) (h2 1 (by decide))
  · exact vk_R.of (hts _ (List.mem_of_getElem? (i := 350) (by decide +kernel))) (h2 2 (by decide))
  · exact vk_R.of (hts _ (List.mem_of_getElem? (i := 351) (by decide +kernel))) (h2 3 (by decide))
  · exact vk_R.of (hts _ (List.mem_of_getElem? (i := 355) (by decide +kernel))) (h2 4 (by decide))
  · exact vk_R.of (hts _ (List.mem_of_getElem? (i := 356) (by decide +kernel))) (h2 5 (by decide))
  · exact vk_R.of (hts _ (List.mem_of_getElem? (i := 357) (by decide +kernel))) (h2 6 (by decide))

/-- a class of ours: its place, fields, types -/
def aCl (ci : Nat) (C : String) (T : u_T) (N : Nat) (ty : Nat → FieldType) : Prop := vwCl[ci]? = some (C, T, N) ∧ (∀ w ∈ u_ws C T N, w ∈ aT) ∧ (∀ k, k < N → parseFieldDescriptor (T k).2.2.1 = some (ty k)) ∧ ∀ a, a < N → ∀ b, b < N → a ≠ b → (T a).2.1 ≠ (T b).2.1
/-- a field of it, by its place, as the pool entry idx of the class own has it -/
def aFl (own : String) (idx ci j : Nat) (t : FieldType) : Prop := ∃ (C : String) (T : u_T) (N : Nat) (ty : Nat → FieldType), aCl ci C T N ty ∧ j < N ∧ (T j).1 = C ∧ ty j = t ∧ Cond.fieldLink own idx C (T j).2.1 (T j).2.2.1 ∈ aT
/-- it isn't final -/
def aNf (ci j : Nat) : Prop := ∀ r : vw_C, vwCl[ci]? = some r → (r.2.1 j).2.2.2 = false
theorem aFs_get {G : aG} {f : Int → Int} {x : Int64} : ∀ (ks : List Nat) (i0 j kd : Nat), ks[j]? = some kd → (aFs G f x ks i0)[j]? = some (aFv G f x (i0 + j) kd)
  | [], _, j, _, h => by simp at h
  | k :: t, i0, 0, kd, h => by
    simp at h
    subst h
    rfl
  | k :: t, i0, j + 1, kd, h => by
    have := aFs_get (G := G) (f := f) (x := x) t (i0 + 1) j kd (by simpa using h)
    rw [show i0 + (j + 1) = i0 + 1 + j by omega]
    simpa [aFs] using this
theorem aFs_len {G : aG} {f : Int → Int} {x : Int64} : ∀ (ks : List Nat) (i0 : Nat), (aFs G f x ks i0).length = ks.length
  | [], _ => rfl
  | k :: t, i0 => by simp [aFs, aFs_len t (i0 + 1)]
theorem aFs_other {G : aG} {f g : Int → Int} {x : Int64} : ∀ (ks : List Nat) (i0 : Nat), (∀ i, i0 ≤ i → g (i : Int) = f (i : Int)) → aFs G g x ks i0 = aFs G f x ks i0
  | [], _, _ => rfl
  | k :: t, i0, h => by
    unfold aFs
    rw [aFs_other t (i0 + 1) (fun i hi => h i (by omega))]
    congr 1
    match k with
    | 0 => show Value.int (aI (g (i0 : Int))) = _; rw [h i0 (Nat.le_refl _)]; rfl
    | 1 => rfl
    | k + 2 => rfl
theorem aFs_setI {G : aG} {f : Int → Int} {x : Int64} {v : Int} : ∀ (ks : List Nat) (i0 j : Nat), ks[j]? = some 0 → (aFs G f x ks i0).set j (.int (aI v)) = aFs G (fun b => if b = ((i0 + j : Nat) : Int) then v else f b) x ks i0
  | [], _, j, h => by simp at h
  | k :: t, i0, 0, h => by
    simp at h
    subst h
    unfold aFs
    rw [List.set_cons_zero]
    congr 1
    · show Value.int (aI v) = Value.int (aI (if ((i0 : Nat) : Int) = ((i0 + 0 : Nat) : Int) then v else f i0))
      simp
    · exact (aFs_other t (i0 + 1) (fun i hi => if_neg (by omega))).symm
  | k :: t, i0, j + 1, h => by
    have := aFs_setI (G := G) (f := f) (x := x) (v := v) t (i0 + 1) j (by simpa using h)
    unfold aFs
    rw [List.set_cons_succ, this, show i0 + 1 + j = i0 + (j + 1) by omega]
    congr 1
    match k with
    | 0 => show Value.int (aI (f i0)) = Value.int (aI (if ((i0 : Nat) : Int) = _ then v else f i0)); rw [if_neg (by omega)]
    | 1 => rfl
    | k + 2 => rfl
theorem aFs_otherL {G : aG} {f : Int → Int} {x y : Int64} : ∀ (ks : List Nat) (i0 : Nat), (∀ i : Nat, ks[i]? ≠ some 1) → aFs G f y ks i0 = aFs G f x ks i0
  | [], _, _ => rfl
  | k :: t, i0, h => by
    unfold aFs
    rw [aFs_otherL (x := x) (y := y) t (i0 + 1) (fun i hi => h (i + 1) (by simpa using hi))]
    congr 1
    match k, h with
    | 0, _ => rfl
    | 1, h => exact absurd rfl (h 0)
    | k + 2, _ => rfl
theorem aFs_setL {G : aG} {f : Int → Int} {x y : Int64} : ∀ (ks : List Nat) (i0 j : Nat), (∀ i : Nat, ks[i]? = some 1 ↔ i = j) → (aFs G f x ks i0).set j (.long y) = aFs G f y ks i0
  | [], _, j, h => by
    have := (h j).mpr rfl
    simp at this
  | k :: t, i0, 0, h => by
    have h0 := (h 0).mpr rfl
    simp at h0
    subst h0
    unfold aFs
    rw [List.set_cons_zero, aFs_otherL (x := x) (y := y) t (i0 + 1) (fun i hi => by
      have := (h (i + 1)).mp (by simpa using hi)
      omega)]
    rfl
  | k :: t, i0, j + 1, h => by
    have hk : k ≠ 1 := fun e => by
      have := (h 0).mp (by simp [e])
      omega
    have := aFs_setL (G := G) (f := f) (x := x) (y := y) t (i0 + 1) j (fun i => by
      have := h (i + 1)
      simpa using this)
    unfold aFs
    rw [List.set_cons_succ, this]
    congr 1
    match k, hk with
    | 0, _ => rfl
    | 1, h => exact absurd rfl h
    | k + 2, _ => rfl

theorem a_getfI {X : aX} {G : aG} {own : String} {cc : ByteArray} {nL : Nat} {ret : Option FieldType} {fr lo : Nat} (hX : aOK X G own cc nL ret fr lo) {pc pc' : Nat} {lv : List (Option Value)} {st : List Value} {Z : aZ} {Y : aY} {idx ci k j : Nat} {ks : List Nat} {ji : Int} (hji : ((0 + j : Nat) : Int) = ji) (hB : aB Z) {t : FieldType} (hf : aFl own idx ci j t) (hsh : aSh k = (0, ci, ks)) (hk : k < 80) (hks : ks[j]? = some 0) (hdg : decode cc pc = .ok (.getfield idx, 3)) (hp : pc + 3 = pc') (kk : (-100000000 ≤ Z k ji ∧ Z k ji ≤ 100000000) → AW X G pc' lv (.int (aI (Z k ji)) :: st) Z Y) : AW X G pc lv (.ref (G.1 k) :: st) Z Y := by
  obtain ⟨p, l, e, R, s, m, args, below, meth, c, A, cs, sl, Q⟩ := X
  obtain ⟨hx, hb, hml, hown, hts, hK, hA, hlk, hr, hR, hSt⟩ := hX
  obtain ⟨C, T, N, ty, ⟨hc1, hc2, hc3, hc4⟩, hj, h1, h3, hl⟩ := hf
  subst hp
  intro H locs ls hL hP hD hS
  have he : (aW G Z Y)[k]? = some (G.1 k, .inr (ci, aFs G (Z k) (Y k) ks 0)) := by
    have h0 := aW_get (G := G) (Z := Z) (Y := Y) hk
    rw [hsh] at h0
    exact h0
  refine va_get (C := C) (T := T) (N := N) hx hb hts hc2 hown hK hP k he hc1 j hj (hts _ hl) (fun x9 h9 => by rw [h1] at h9; exact h9) (aFs_get ks 0 j 0 hks) hdg ?_
  subst hji
  exact kk (hB k _) H locs ls hL hP hD hS

theorem a_getfJ {X : aX} {G : aG} {own : String} {cc : ByteArray} {nL : Nat} {ret : Option FieldType} {fr lo : Nat} (hX : aOK X G own cc nL ret fr lo) {pc pc' : Nat} {lv : List (Option Value)} {st : List Value} {Z : aZ} {Y : aY} {idx ci k j : Nat} {ks : List Nat}  {t : FieldType} (hf : aFl own idx ci j t) (hsh : aSh k = (0, ci, ks)) (hk : k < 80) (hks : ks[j]? = some 1) (hdg : decode cc pc = .ok (.getfield idx, 3)) (hp : pc + 3 = pc') (kk : AW X G pc' lv (.long (Y k) :: st) Z Y) : AW X G pc lv (.ref (G.1 k) :: st) Z Y := by
  obtain ⟨p, l, e, R, s, m, args, below, meth, c, A, cs, sl, Q⟩ := X
  obtain ⟨hx, hb, hml, hown, hts, hK, hA, hlk, hr, hR, hSt⟩ := hX
  obtain ⟨C, T, N, ty, ⟨hc1, hc2, hc3, hc4⟩, hj, h1, h3, hl⟩ := hf
  subst hp
  intro H locs ls hL hP hD hS
  have he : (aW G Z Y)[k]? = some (G.1 k, .inr (ci, aFs G (Z k) (Y k) ks 0)) := by
    have h0 := aW_get (G := G) (Z := Z) (Y := Y) hk
    rw [hsh] at h0
    exact h0
  refine va_get (C := C) (T := T) (N := N) hx hb hts hc2 hown hK hP k he hc1 j hj (hts _ hl) (fun x9 h9 => by rw [h1] at h9; exact h9) (aFs_get ks 0 j 1 hks) hdg ?_
  exact kk H locs ls hL hP hD hS

theorem a_getfR {X : aX} {G : aG} {own : String} {cc : ByteArray} {nL : Nat} {ret : Option FieldType} {fr lo : Nat} (hX : aOK X G own cc nL ret fr lo) {pc pc' : Nat} {lv : List (Option Value)} {st : List Value} {Z : aZ} {Y : aY} {idx ci k j : Nat} {ks : List Nat} {r : Nat} {t : FieldType} (hf : aFl own idx ci j t) (hsh : aSh k = (0, ci, ks)) (hk : k < 80) (hks : ks[j]? = some (r + 2)) (hdg : decode cc pc = .ok (.getfield idx, 3)) (hp : pc + 3 = pc') (kk : AW X G pc' lv (.ref (G.1 r) :: st) Z Y) : AW X G pc lv (.ref (G.1 k) :: st) Z Y := by
  obtain ⟨p, l, e, R, s, m, args, below, meth, c, A, cs, sl, Q⟩ := X
  obtain ⟨hx, hb, hml, hown, hts, hK, hA, hlk, hr, hR, hSt⟩ := hX
  obtain ⟨C, T, N, ty, ⟨hc1, hc2, hc3, hc4⟩, hj, h1, h3, hl⟩ := hf
  subst hp
  intro H locs ls hL hP hD hS
  have he : (aW G Z Y)[k]? = some (G.1 k, .inr (ci, aFs G (Z k) (Y k) ks 0)) := by
    have h0 := aW_get (G := G) (Z := Z) (Y := Y) hk
    rw [hsh] at h0
    exact h0
  refine va_get (C := C) (T := T) (N := N) hx hb hts hc2 hown hK hP k he hc1 j hj (hts _ hl) (fun x9 h9 => by rw [h1] at h9; exact h9) (aFs_get ks 0 j (r + 2) hks) hdg ?_
  exact kk H locs ls hL hP hD hS

theorem a_putfI {X : aX} {G : aG} {own : String} {cc : ByteArray} {nL : Nat} {ret : Option FieldType} {fr lo : Nat} (hX : aOK X G own cc nL ret fr lo) {pc pc' : Nat} {lv : List (Option Value)} {st : List Value} {Z : aZ} {Y : aY} {idx ci k j : Nat} {ks : List Nat} {ji v : Int} (hf : aFl own idx ci j .int) (hnf : aNf ci j) (hji : ((0 + j : Nat) : Int) = ji) (hsh : aSh k = (0, ci, ks)) (hk : k < 80) (hks : ks[j]? = some 0) (hdg : decode cc pc = .ok (.putfield idx, 3)) (hp : pc + 3 = pc') (kk : AW X G pc' lv st (aU Z k ji v) Y) : AW X G pc lv (.int (aI v) :: .ref (G.1 k) :: st) Z Y := by
  obtain ⟨p, l, e, R, s, m, args, below, meth, c, A, cs, sl, Q⟩ := X
  obtain ⟨hx, hb, hml, hown, hts, hK, hA, hlk, hr, hR, hSt⟩ := hX
  obtain ⟨C, T, N, ty, ⟨hc1, hc2, hc3, hc4⟩, hj, h1, h3, hl⟩ := hf
  subst hp
  intro H locs ls hL hP hD hS
  have he : (aW G Z Y)[k]? = some (G.1 k, .inr (ci, aFs G (Z k) (Y k) ks 0)) := by
    have h0 := aW_get (G := G) (Z := Z) (Y := Y) hk
    rw [hsh] at h0
    exact h0
  have hjl : j < ks.length := (List.getElem?_eq_some_iff.mp hks).1
  have hd := hc3 j hj
  rw [h3] at hd
  refine va_put (C := C) (T := T) (N := N) (ty := .int) (v := .int (aI v)) hx hb hts hc2 ty hc3 hc4 hown hK hP hD hS k he hc1 j hj (hts _ hl) (fun x9 h9 => by rw [h1] at h9; exact h9) (hnf _ hc1) hd rfl rfl (by show j < (aFs G (Z k) (Y k) ks 0).length; rw [aFs_len]; exact hjl) hdg (fun H1 locs1 hP1 hD1 hS1 => ?_)
  have e : (aW G Z Y).set k (G.1 k, .inr (ci, (aFs G (Z k) (Y k) ks 0).set j (.int (aI v)))) = aW G (aU Z k ji v) Y := by
    rw [aFs_setI ks 0 j hks, hji, ← aU_up, ← aW_setZ hk, hsh]
    rfl
  rw [e] at hP1 hD1
  exact kk H1 locs1 ls hL hP1 hD1 hS1
theorem a_putfJ {X : aX} {G : aG} {own : String} {cc : ByteArray} {nL : Nat} {ret : Option FieldType} {fr lo : Nat} (hX : aOK X G own cc nL ret fr lo) {pc pc' : Nat} {lv : List (Option Value)} {st : List Value} {Z : aZ} {Y : aY} {idx ci k j : Nat} {ks : List Nat} {v : Int64} (hf : aFl own idx ci j .long) (hnf : aNf ci j) (hsh : aSh k = (0, ci, ks)) (hk : k < 80) (hks : ∀ i : Nat, ks[i]? = some 1 ↔ i = j) (hdg : decode cc pc = .ok (.putfield idx, 3)) (hp : pc + 3 = pc') (kk : AW X G pc' lv st Z (aUy Y k v)) : AW X G pc lv (.long v :: .ref (G.1 k) :: st) Z Y := by
  obtain ⟨p, l, e, R, s, m, args, below, meth, c, A, cs, sl, Q⟩ := X
  obtain ⟨hx, hb, hml, hown, hts, hK, hA, hlk, hr, hR, hSt⟩ := hX
  obtain ⟨C, T, N, ty, ⟨hc1, hc2, hc3, hc4⟩, hj, h1, h3, hl⟩ := hf
  subst hp
  intro H locs ls hL hP hD hS
  have he : (aW G Z Y)[k]? = some (G.1 k, .inr (ci, aFs G (Z k) (Y k) ks 0)) := by
    have h0 := aW_get (G := G) (Z := Z) (Y := Y) hk
    rw [hsh] at h0
    exact h0
  have hjl : j < ks.length := (List.getElem?_eq_some_iff.mp ((hks j).mpr rfl)).1
  have hd := hc3 j hj
  rw [h3] at hd
  refine va_put (C := C) (T := T) (N := N) (ty := .long) (v := .long v) hx hb hts hc2 ty hc3 hc4 hown hK hP hD hS k he hc1 j hj (hts _ hl) (fun x9 h9 => by rw [h1] at h9; exact h9) (hnf _ hc1) hd rfl rfl (by show j < (aFs G (Z k) (Y k) ks 0).length; rw [aFs_len]; exact hjl) hdg (fun H1 locs1 hP1 hD1 hS1 => ?_)
  have e : (aW G Z Y).set k (G.1 k, .inr (ci, (aFs G (Z k) (Y k) ks 0).set j (.long v))) = aW G Z (aUy Y k v) := by
    rw [aFs_setL ks 0 j hks, ← aW_setY hk, hsh]
    rfl
  rw [e] at hP1 hD1
  exact kk H1 locs1 ls hL hP1 hD1 hS1
theorem a_iald {X : aX} {G : aG} {own : String} {cc : ByteArray} {nL : Nat} {ret : Option FieldType} {fr lo : Nat} (hX : aOK X G own cc nL ret fr lo) {pc pc' : Nat} {lv : List (Option Value)} {st : List Value} {Z : aZ} {Y : aY} {k n : Nat} {z : Int} (hsh : aSh k = (1, 0, [n])) (hk : k < 80) (hn : n < 1000) (hz : 0 ≤ z ∧ z < (n : Int)) (hB : aB Z) (hdg : decode cc pc = .ok (.iaload, 1)) (hp : pc + 1 = pc') (kk : (-100000000 ≤ Z k z ∧ Z k z ≤ 100000000) → AW X G pc' lv (.int (aI (Z k z)) :: st) Z Y) : AW X G pc lv (.int (aI z) :: .ref (G.1 k) :: st) Z Y := by
  obtain ⟨p, l, e, R, s, m, args, below, meth, c, A, cs, sl, Q⟩ := X
  obtain ⟨hx, hb, hml, hown, hts, hK, hA, hlk, hr, hR, hSt⟩ := hX
  subst hp
  intro H locs ls hL hP hD hS
  have he : (aW G Z Y)[k]? = some (G.1 k, .inl (G.2.1 0, n, .inl (fun j => aI (Z k (j : Int))))) := by
    have h0 := aW_get (G := G) (Z := Z) (Y := Y) hk
    rw [hsh] at h0
    exact h0
  refine va_iald hx hb hK hP k 0 he rfl (aI_idx hz (by omega)) hdg ?_
  rw [aI_clamp (by omega), Int.toNat_of_nonneg hz.1]
  exact kk (hB k z) H locs ls hL hP hD hS
theorem a_zald {X : aX} {G : aG} {own : String} {cc : ByteArray} {nL : Nat} {ret : Option FieldType} {fr lo : Nat} (hX : aOK X G own cc nL ret fr lo) {pc pc' : Nat} {lv : List (Option Value)} {st : List Value} {Z : aZ} {Y : aY} {k n : Nat} {z : Int} (hsh : aSh k = (1, 1, [n])) (hk : k < 80) (hn : n < 1000) (hz : 0 ≤ z ∧ z < (n : Int)) (hB : aB Z) (hdg : decode cc pc = .ok (.baload, 1)) (hp : pc + 1 = pc') (kk : (-100000000 ≤ Z k z ∧ Z k z ≤ 100000000) → AW X G pc' lv (.int (aI (Z k z)) :: st) Z Y) : AW X G pc lv (.int (aI z) :: .ref (G.1 k) :: st) Z Y := by
  obtain ⟨p, l, e, R, s, m, args, below, meth, c, A, cs, sl, Q⟩ := X
  obtain ⟨hx, hb, hml, hown, hts, hK, hA, hlk, hr, hR, hSt⟩ := hX
  subst hp
  intro H locs ls hL hP hD hS
  have he : (aW G Z Y)[k]? = some (G.1 k, .inl (G.2.1 1, n, .inl (fun j => aI (Z k (j : Int))))) := by
    have h0 := aW_get (G := G) (Z := Z) (Y := Y) hk
    rw [hsh] at h0
    exact h0
  refine va_zald hx hb hK hP k 1 he rfl (aI_idx hz (by omega)) hdg ?_
  rw [aI_clamp (by omega), Int.toNat_of_nonneg hz.1]
  exact kk (hB k z) H locs ls hL hP hD hS
theorem a_iast {X : aX} {G : aG} {own : String} {cc : ByteArray} {nL : Nat} {ret : Option FieldType} {fr lo : Nat} (hX : aOK X G own cc nL ret fr lo) {pc pc' : Nat} {lv : List (Option Value)} {st : List Value} {Z : aZ} {Y : aY} {k n : Nat} {z v : Int} (hsh : aSh k = (1, 0, [n])) (hk : k < 80) (hn : n < 1000) (hz : 0 ≤ z ∧ z < (n : Int)) (hdg : decode cc pc = .ok (.iastore, 1)) (hp : pc + 1 = pc') (kk : AW X G pc' lv st (aU Z k z v) Y) : AW X G pc lv (.int (aI v) :: .int (aI z) :: .ref (G.1 k) :: st) Z Y := by
  obtain ⟨p, l, e, R, s, m, args, below, meth, c, A, cs, sl, Q⟩ := X
  obtain ⟨hx, hb, hml, hown, hts, hK, hA, hlk, hr, hR, hSt⟩ := hX
  subst hp
  intro H locs ls hL hP hD hS
  have he : (aW G Z Y)[k]? = some (G.1 k, .inl (G.2.1 0, n, .inl (fun j => aI (Z k (j : Int))))) := by
    have h0 := aW_get (G := G) (Z := Z) (Y := Y) hk
    rw [hsh] at h0
    exact h0
  refine va_iast hx hb hK hP hD hS k 0 he rfl (aI_idx hz (by omega)) hdg (fun H1 locs1 hP1 hD1 hS1 => ?_)
  have e : (aW G Z Y).set k (G.1 k, .inl (G.2.1 0, n, .inl (upd (fun j : Nat => aI (Z k (j : Int))) (aI z).toNatClampNeg (aI v)))) = aW G (aU Z k z v) Y := by
    rw [← aU_up, ← aW_setZ hk, hsh]
    refine congrArg (fun q => (aW G Z Y).set k (G.1 k, q)) ?_
    show Sum.inl (G.2.1 0, n, Sum.inl _) = Sum.inl (G.2.1 0, n, Sum.inl _)
    congr 4
    funext j
    rw [aI_clamp (by omega)]
    show (if j = z.toNat then aI v else aI (Z k (j : Int))) = aI (if (j : Int) = z then v else Z k (j : Int))
    by_cases hj : j = z.toNat
    · rw [if_pos hj, if_pos (by omega)]
    · rw [if_neg hj, if_neg (by omega)]
  rw [e] at hP1 hD1
  exact kk H1 locs1 ls hL hP1 hD1 hS1
theorem a_zast {X : aX} {G : aG} {own : String} {cc : ByteArray} {nL : Nat} {ret : Option FieldType} {fr lo : Nat} (hX : aOK X G own cc nL ret fr lo) {pc pc' : Nat} {lv : List (Option Value)} {st : List Value} {Z : aZ} {Y : aY} {k n : Nat} {z v : Int} (hv : vp_nar .boolean (aI v) = aI v) (hsh : aSh k = (1, 1, [n])) (hk : k < 80) (hn : n < 1000) (hz : 0 ≤ z ∧ z < (n : Int)) (hdg : decode cc pc = .ok (.bastore, 1)) (hp : pc + 1 = pc') (kk : AW X G pc' lv st (aU Z k z v) Y) : AW X G pc lv (.int (aI v) :: .int (aI z) :: .ref (G.1 k) :: st) Z Y := by
  obtain ⟨p, l, e, R, s, m, args, below, meth, c, A, cs, sl, Q⟩ := X
  obtain ⟨hx, hb, hml, hown, hts, hK, hA, hlk, hr, hR, hSt⟩ := hX
  subst hp
  intro H locs ls hL hP hD hS
  have he : (aW G Z Y)[k]? = some (G.1 k, .inl (G.2.1 1, n, .inl (fun j => aI (Z k (j : Int))))) := by
    have h0 := aW_get (G := G) (Z := Z) (Y := Y) hk
    rw [hsh] at h0
    exact h0
  refine va_zast hx hb hK hP hD hS k 1 he rfl (aI_idx hz (by omega)) hdg (fun H1 locs1 hP1 hD1 hS1 => ?_)
  have e : (aW G Z Y).set k (G.1 k, .inl (G.2.1 1, n, .inl (upd (fun j : Nat => aI (Z k (j : Int))) (aI z).toNatClampNeg (vp_nar .boolean (aI v))))) = aW G (aU Z k z v) Y := by
    rw [← aU_up, ← aW_setZ hk, hsh]
    refine congrArg (fun q => (aW G Z Y).set k (G.1 k, q)) ?_
    show Sum.inl (G.2.1 1, n, Sum.inl _) = Sum.inl (G.2.1 1, n, Sum.inl _)
    congr 4
    funext j
    rw [aI_clamp (by omega)]
    show (if j = z.toNat then vp_nar .boolean (aI v) else aI (Z k (j : Int))) = aI (if (j : Int) = z then v else Z k (j : Int))
    by_cases hj : j = z.toNat
    · rw [if_pos hj, if_pos (by omega)]; exact hv
    · rw [if_neg hj, if_neg (by omega)]
  rw [e] at hP1 hD1
  exact kk H1 locs1 ls hL hP1 hD1 hS1
theorem a_alen {X : aX} {G : aG} {own : String} {cc : ByteArray} {nL : Nat} {ret : Option FieldType} {fr lo : Nat} (hX : aOK X G own cc nL ret fr lo) {pc pc' : Nat} {lv : List (Option Value)} {st : List Value} {Z : aZ} {Y : aY} {k n : Nat} {v : Int} (hsh : aSh k = (1, 0, [n])) (hk : k < 80) (hv : (n : Int) = v) (hdg : decode cc pc = .ok (.arraylength, 1)) (hp : pc + 1 = pc') (kk : AW X G pc' lv (.int (aI v) :: st) Z Y) : AW X G pc lv (.ref (G.1 k) :: st) Z Y := by
  obtain ⟨p, l, e, R, s, m, args, below, meth, c, A, cs, sl, Q⟩ := X
  obtain ⟨hx, hb, hml, hown, hts, hK, hA, hlk, hr, hR, hSt⟩ := hX
  subst hp
  intro H locs ls hL hP hD hS
  have he : (aW G Z Y)[k]? = some (G.1 k, .inl (G.2.1 0, n, .inl (fun j => aI (Z k (j : Int))))) := by
    have h0 := aW_get (G := G) (Z := Z) (Y := Y) hk
    rw [hsh] at h0
    exact h0
  refine va_alen (v := aI v) hx hb hK hP k 0 he rfl (by rw [← hv, aI_nat]; rfl) hdg ?_
  exact kk H locs ls hL hP hD hS
theorem a_aald {X : aX} {G : aG} {own : String} {cc : ByteArray} {nL : Nat} {ret : Option FieldType} {fr lo : Nat} (hX : aOK X G own cc nL ret fr lo) {pc pc' : Nat} {lv : List (Option Value)} {st : List Value} {Z : aZ} {Y : aY} {k b n : Nat} {z : Int} (hsh : aSh k = (2, b, [n])) (hk : k < 80) (hn : n < 1000) (hz : 0 ≤ z ∧ z < (n : Int)) (hdg : decode cc pc = .ok (.aaload, 1)) (hp : pc + 1 = pc') (kk : AW X G pc' lv (.ref (G.1 (b + z.toNat)) :: st) Z Y) : AW X G pc lv (.int (aI z) :: .ref (G.1 k) :: st) Z Y := by
  obtain ⟨p, l, e, R, s, m, args, below, meth, c, A, cs, sl, Q⟩ := X
  obtain ⟨hx, hb, hml, hown, hts, hK, hA, hlk, hr, hR, hSt⟩ := hX
  subst hp
  intro H locs ls hL hP hD hS
  have he : (aW G Z Y)[k]? = some (G.1 k, .inl (G.2.1 2, n, .inr (.inr (.inr (.inr (fun j => if j < n then some (G.1 (b + j)) else none)))))) := by
    have h0 := aW_get (G := G) (Z := Z) (Y := Y) hk
    rw [hsh] at h0
    exact h0
  have hin := aI_idx hz (by omega)
  have hlt : (aI z).toNatClampNeg < n := by rw [aI_clamp (by omega)]; omega
  refine W.aald (v := .ref (G.1 (b + z.toNat))) (ty := .array .int) hx hb (hP k _ he) ((hK.2 2 (G.2.1 2, .array .int) rfl).1 n (fun j => va_rf (if j < n then some (G.1 (b + j)) else none))) rfl (fun q => by cases q) (by show ¬ (_ ∨ (arrV _ _ _).slots.size ≤ _); rw [arrV_size]; exact hin) (by show (arrV _ _ _).slots[_]? = _; rw [arrV_read _ _ hlt]; show some (va_rf (if (aI z).toNatClampNeg < n then some (G.1 (b + (aI z).toNatClampNeg)) else none)) = _; rw [if_pos hlt, aI_clamp (by omega)]; rfl) rfl rfl hdg ?_
  exact kk H locs ls hL hP hD hS
/-- n ints of the cell a, from sp on, into the cell d, from dp on -/
def aCp (Z : aZ) (a d : Nat) (sp dp n : Int) : aZ := fun q b => if q = d then (if dp ≤ b ∧ b < dp + n then Z a (sp + (b - dp)) else Z q b) else Z q b
theorem aB_cp {Z : aZ} {a d : Nat} {sp dp n : Int} (h : aB Z) : aB (aCp Z a d sp dp n) := by
  intro q b
  unfold aCp
  split
  · split
    · exact h _ _
    · exact h _ _
  · exact h _ _
def aCpW (own : String) (idx : Nat) : Prop := Cond.methodLink own idx arraycopyName ∈ aT ∧ Cond.native arraycopyName ∈ aT ∧ Cond.static arraycopyName ∈ aT ∧ Cond.initialized "java/lang/System" ∈ aT
theorem a_copy {X : aX} {G : aG} {own : String} {cc : ByteArray} {nL : Nat} {ret : Option FieldType} {fr lo : Nat} (hX : aOK X G own cc nL ret fr lo) {pc pc' : Nat} {lv : List (Option Value)} {st : List Value} {Z : aZ} {Y : aY} {idx k1 k2 n1 n2 : Nat} {sp dp n : Int} (hw : aCpW own idx) (hsh1 : aSh k1 = (1, 0, [n1])) (hk1 : k1 < 80) (hsh2 : aSh k2 = (1, 0, [n2])) (hk2 : k2 < 80) (hs : 0 ≤ sp ∧ 0 ≤ dp ∧ 0 ≤ n ∧ sp + n ≤ (n1 : Int) ∧ dp + n ≤ (n2 : Int) ∧ n1 < 1000 ∧ n2 < 1000) (hf : 1 ≤ fr) (hlo : (st.map fun v => v.category).sum + (nativeFrameWords "java/lang/System" "arraycopy" 5 + 11) ≤ lo) (hdg : decode cc pc = .ok (.invokestatic idx, 3)) (hp : pc + 3 = pc') (kk : AW X G pc' lv st (aCp Z k1 k2 sp dp n) Y) : AW X G pc lv (.int (aI n) :: .int (aI dp) :: .ref (G.1 k2) :: .int (aI sp) :: .ref (G.1 k1) :: st) Z Y := by
  obtain ⟨p, l, e, R, s, m, args, below, meth, c, A, cs, sl, Q⟩ := X
  obtain ⟨hx, hb, hml, hown, hts, hK, hA, hlk, hr, hR, hSt⟩ := hX
  subst hp
  intro H locs ls hL hP hD hS
  have he1 : (aW G Z Y)[k1]? = some (G.1 k1, .inl (G.2.1 0, n1, .inl (fun j => aI (Z k1 (j : Int))))) := by
    have h0 := aW_get (G := G) (Z := Z) (Y := Y) hk1
    rw [hsh1] at h0
    exact h0
  have he2 : (aW G Z Y)[k2]? = some (G.1 k2, .inl (G.2.1 0, n2, .inl (fun j => aI (Z k2 (j : Int))))) := by
    have h0 := aW_get (G := G) (Z := Z) (Y := Y) hk2
    rw [hsh2] at h0
    exact h0
  have np : ∀ z : Int, 0 ≤ z → z < 2147483648 → ¬ aI z < 0 := fun z h h2 => by
    rw [show (0 : Int32) = aI 0 from rfl, aI_lt (by omega) (by omega)]
    omega
  refine va_copyi (ty := .int) (n0 := n1) (n1 := n2) hx hb (hml.trans (hL.1.trans hml).symm) hown (hts _ hw.1) (hts _ hw.2.1) (hts _ hw.2.2.1) (hts _ hw.2.2.2) hK hP hD hS k1 k2 0 0 he1 he2 rfl rfl rfl (np sp hs.1 (by omega)) (np dp hs.2.1 (by omega)) (np n hs.2.2.1 (by omega)) (by rw [aI_clamp (by omega), aI_clamp (by omega)]; omega) (by rw [aI_clamp (by omega), aI_clamp (by omega)]; omega) (fun i hi => rfl) (by omega) (by omega) hdg (fun H1 locs1 hP1 hD1 hS1 => ?_)
  have e : (aW G Z Y).set k2 (G.1 k2, .inl (G.2.1 0, n2, .inl (va_cpy (fun j : Nat => aI (Z k1 (j : Int))) (fun j : Nat => aI (Z k2 (j : Int))) (aI sp).toNatClampNeg (aI dp).toNatClampNeg (aI n).toNatClampNeg))) = aW G (aCp Z k1 k2 sp dp n) Y := by
    have e2 : aCp Z k1 k2 sp dp n = aUp Z k2 (fun b => if dp ≤ b ∧ b < dp + n then Z k1 (sp + (b - dp)) else Z k2 b) := by
      funext q b
      unfold aCp aUp
      by_cases hq : q = k2
      · subst hq; simp
      · simp [hq]
    rw [e2, ← aW_setZ hk2, hsh2]
    refine congrArg (fun q => (aW G Z Y).set k2 (G.1 k2, q)) ?_
    show Sum.inl (G.2.1 0, n2, Sum.inl _) = Sum.inl (G.2.1 0, n2, Sum.inl _)
    congr 4
    funext j
    rw [aI_clamp (by omega), aI_clamp (by omega), aI_clamp (by omega)]
    show (if dp.toNat ≤ j ∧ j < dp.toNat + n.toNat then aI (Z k1 ((sp.toNat + (j - dp.toNat) : Nat) : Int)) else aI (Z k2 (j : Int))) = aI (if dp ≤ (j : Int) ∧ (j : Int) < dp + n then Z k1 (sp + ((j : Int) - dp)) else Z k2 (j : Int))
    by_cases hj : dp.toNat ≤ j ∧ j < dp.toNat + n.toNat
    · rw [if_pos hj, if_pos (by omega), show ((sp.toNat + (j - dp.toNat) : Nat) : Int) = sp + ((j : Int) - dp) by omega]
    · rw [if_neg hj, if_neg (by omega)]
  rw [e] at hP1 hD1
  exact kk H1 locs1 ls hL hP1 hD1 hS1
def aMmaxW (own : String) (idx : Nat) : Prop := Cond.methodLink own idx Lib.Math.max.name ∈ aT ∧ Cond.static Lib.Math.max.name ∈ aT ∧ Cond.initialized "java/lang/Math" ∈ aT ∧ Cond.code Lib.Math.max.name Lib.Math.max.code 2 (some .int) ∈ aT
theorem a_max {X : aX} {G : aG} {own : String} {cc : ByteArray} {nL : Nat} {ret : Option FieldType} {fr lo : Nat} (hX : aOK X G own cc nL ret fr lo) {pc pc' : Nat} {lv : List (Option Value)} {st : List Value} {Z : aZ} {Y : aY} {idx : Nat} {x y : Int} (hw : aMmaxW own idx) (hrx : -2147483648 ≤ x ∧ x < 2147483648) (hry : -2147483648 ≤ y ∧ y < 2147483648) (hf : 1 ≤ fr) (hlo : (st.map fun v => v.category).sum + 13 ≤ lo) (hdg : decode cc pc = .ok (.invokestatic idx, 3)) (hp : pc + 3 = pc') (kk : AW X G pc' lv (.int (aI (max x y)) :: st) Z Y) : AW X G pc lv (.int (aI y) :: .int (aI x) :: st) Z Y := by
  obtain ⟨p, l, e, R, s, m, args, below, meth, c, A, cs, sl, Q⟩ := X
  obtain ⟨hx, hb, hml, hown, hts, hK, hA, hlk, hr, hR, hSt⟩ := hX
  subst hp
  intro H locs ls hL hP hD hS
  refine va_mmax hx hb (hml.trans (hL.1.trans hml).symm) hown (hts _ hw.1) (hts _ hw.2.1) (hts _ hw.2.2.1) (hts _ hw.2.2.2) (by omega) (by omega) (by omega) (by omega) hdg ?_
  have e : (if aI x < aI y then aI y else aI x) = aI (max x y) := by
    simp only [aI_lt hrx hry]
    by_cases h : x < y
    · rw [if_pos h, show max x y = y by omega]
    · rw [if_neg h, show max x y = x by omega]
  rw [e]
  exact kk H locs ls hL hP hD hS
def aMminW (own : String) (idx : Nat) : Prop := Cond.methodLink own idx Lib.Math.min.name ∈ aT ∧ Cond.static Lib.Math.min.name ∈ aT ∧ Cond.initialized "java/lang/Math" ∈ aT ∧ Cond.code Lib.Math.min.name Lib.Math.min.code 2 (some .int) ∈ aT
theorem a_min {X : aX} {G : aG} {own : String} {cc : ByteArray} {nL : Nat} {ret : Option FieldType} {fr lo : Nat} (hX : aOK X G own cc nL ret fr lo) {pc pc' : Nat} {lv : List (Option Value)} {st : List Value} {Z : aZ} {Y : aY} {idx : Nat} {x y : Int} (hw : aMminW own idx) (hrx : -2147483648 ≤ x ∧ x < 2147483648) (hry : -2147483648 ≤ y ∧ y < 2147483648) (hf : 1 ≤ fr) (hlo : (st.map fun v => v.category).sum + 13 ≤ lo) (hdg : decode cc pc = .ok (.invokestatic idx, 3)) (hp : pc + 3 = pc') (kk : AW X G pc' lv (.int (aI (min x y)) :: st) Z Y) : AW X G pc lv (.int (aI y) :: .int (aI x) :: st) Z Y := by
  obtain ⟨p, l, e, R, s, m, args, below, meth, c, A, cs, sl, Q⟩ := X
  obtain ⟨hx, hb, hml, hown, hts, hK, hA, hlk, hr, hR, hSt⟩ := hX
  subst hp
  intro H locs ls hL hP hD hS
  refine va_mmin hx hb (hml.trans (hL.1.trans hml).symm) hown (hts _ hw.1) (hts _ hw.2.1) (hts _ hw.2.2.1) (hts _ hw.2.2.2) (by omega) (by omega) (by omega) (by omega) hdg ?_
  have e : (if aI y < aI x then aI y else aI x) = aI (min x y) := by
    simp only [aI_lt hry hrx]
    by_cases h : y < x
    · rw [if_pos h, show min x y = y by omega]
    · rw [if_neg h, show min x y = x by omega]
  rw [e]
  exact kk H locs ls hL hP hD hS
theorem a_iret {X : aX} {G : aG} {own : String} {cc : ByteArray} {nL : Nat} {fr lo : Nat} (hX : aOK X G own cc nL (some .int) fr lo) {pc : Nat} {lv : List (Option Value)} {Z : aZ} {Y : aY} {v : Int32} (hdg : decode cc pc = .ok (.ireturn, 1)) (kk : aRet X G (some (.int v)) Z Y) : AW X G pc lv [.int v] Z Y := by
  obtain ⟨p, l, e, R, s, m, args, below, meth, c, A, cs, sl, Q⟩ := X
  obtain ⟨hx, hb, hml, hown, hts, hK, hA, hlk, hr, hR, hSt⟩ := hX
  intro H locs ls hL hP hD hS
  obtain ⟨Qc, free, rfl, hq⟩ := kk
  exact W.iret (v := v) hx hb hr (hq H locs hP hS).1 (hq H locs hP hS).2 hdg hlk
theorem a_lret {X : aX} {G : aG} {own : String} {cc : ByteArray} {nL : Nat} {fr lo : Nat} (hX : aOK X G own cc nL (some .long) fr lo) {pc : Nat} {lv : List (Option Value)} {Z : aZ} {Y : aY} {v : Int64} (hdg : decode cc pc = .ok (.lreturn, 1)) (kk : aRet X G (some (.long v)) Z Y) : AW X G pc lv [.long v] Z Y := by
  obtain ⟨p, l, e, R, s, m, args, below, meth, c, A, cs, sl, Q⟩ := X
  obtain ⟨hx, hb, hml, hown, hts, hK, hA, hlk, hr, hR, hSt⟩ := hX
  intro H locs ls hL hP hD hS
  obtain ⟨Qc, free, rfl, hq⟩ := kk
  exact W.lret (v := v) hx hb hr (hq H locs hP hS).1 (hq H locs hP hS).2 hdg hlk
theorem a_vret {X : aX} {G : aG} {own : String} {cc : ByteArray} {nL : Nat} {fr lo : Nat} (hX : aOK X G own cc nL none fr lo) {pc : Nat} {lv : List (Option Value)} {Z : aZ} {Y : aY}  (hdg : decode cc pc = .ok (.return_, 1)) (kk : aRet X G none Z Y) : AW X G pc lv [] Z Y := by
  obtain ⟨p, l, e, R, s, m, args, below, meth, c, A, cs, sl, Q⟩ := X
  obtain ⟨hx, hb, hml, hown, hts, hK, hA, hlk, hr, hR, hSt⟩ := hX
  intro H locs ls hL hP hD hS
  obtain ⟨Qc, free, rfl, hq⟩ := kk
  exact W.vret hx hb hr (hq H locs hP hS).1 (hq H locs hP hS).2 hdg hlk
theorem a_zret {X : aX} {G : aG} {own : String} {cc : ByteArray} {nL : Nat} {fr lo : Nat} (hX : aOK X G own cc nL (some .boolean) fr lo) {pc : Nat} {lv : List (Option Value)} {Z : aZ} {Y : aY} {v : Int} (hv : v = 0 ∨ v = 1) (hdg : decode cc pc = .ok (.ireturn, 1)) (kk : aRet X G (some (.int (aI v))) Z Y) : AW X G pc lv [.int (aI v)] Z Y := by
  obtain ⟨p, l, e, R, s, m, args, below, meth, c, A, cs, sl, Q⟩ := X
  obtain ⟨hx, hb, hml, hown, hts, hK, hA, hlk, hr, hR, hSt⟩ := hX
  intro H locs ls hL hP hD hS
  obtain ⟨Qc, free, rfl, hq⟩ := kk
  exact W.zret (v := aI v) (ty := .boolean) hx hb hr (by rcases hv with rfl | rfl <;> rfl) (hq H locs hP hS).1 (hq H locs hP hS).2 hdg hlk
/-! calls -/
theorem a_run {p : Program} {l : Launch} {e : Env} {R : Room} {s : State} {m : MethodId} {args : Array Value} {below : List Frame} {meth : Method} {c : Code} {H : Heap} {locs : List Loc} {cs sl : Nat} {Q : State → Prop} {G : aG} {pc : Nat} {ls : Array Slot} {rest st0 : List Value} {a : Array Value} {A A1 : Nat → Prop} {Post : Option Value → aZ → aY → Prop} (hr : va_Run p l e R s m args below meth c H locs cs sl 0 0 (F0 m pc ls st0) rest (aQ G A1 Post a) A1) (hS : va_S A s.heap H locs) (hA : ∀ q, A1 q → A q)
    (kk : ∀ (r : Option Value) (Z' : aZ) (Y' : aY) (H1 : Heap) (locs1 : List Loc), Post r Z' Y' → va_P G.2.2.1 vwCl (aW G Z' Y') H1 → va_S A s.heap H1 locs1 → W p l e R s m args below meth c H1 locs1 cs sl Q (F0 m (pc + 3) ls (r.toList ++ rest))) : W p l e R s m args below meth c H locs cs sl Q (F0 m pc ls st0) := by
  intro T hT X
  obtain ⟨v, st₀, t, T', L, h0, X', hL, e1, e2, ⟨⟨r, Z', Y', hv, hp, hb⟩, hz, hk⟩, st⟩ := hr T hT X
  cases hv
  rw [h0] at hz hk
  obtain ⟨t2, a1, b1⟩ := kk v Z' Y' T'.heap (locs ++ L) hp (by rw [e1]; exact hb)
    ⟨Nat.le_trans hS.1 (by rw [e1]; exact hz), fun q h1 h2 => by rw [e1, hk q (Nat.lt_of_lt_of_le h1 hS.1) (fun z => h2 (hA q z))]; exact hS.2.1 q h1 h2, fun q hq => by
      rcases List.mem_append.mp hq with h | h
      · exact hS.2.2 q h
      · exact hA _ (hL q h)⟩ T' rfl X'
  exact ⟨t2, st t2 a1, b1⟩
theorem aWorld_blind {G : aG} {Z : aZ} {Y : aY} {sz : Nat} {av : List Value} : FrameBlind (va_Pc av (aWorld G Z Y sz)) := fun a U g mk q => ⟨q.1, q.2.1, q.2.2.1, va_K.moved (u := U) (U := U.calling g mk a) (Vm.Alike.refl U.vm) q.2.2.2.1, q.2.2.2.2.1, ⟨vk_S.moved (u := U) (U := U.calling g mk a) (Vm.Alike.refl U.vm) q.2.2.2.2.2.1.1, va_Z.moved (u := U) (U := U.calling g mk a) (Vm.Alike.refl U.vm) q.2.2.2.2.2.1.2.1, va_Zq.moved (u := U) (U := U.calling g mk a) (Vm.Alike.refl U.vm) q.2.2.2.2.2.1.2.2⟩, fun i hi => vk_R.same (u := U) (U := U.calling g mk a) rfl (q.2.2.2.2.2.2 i hi)⟩
theorem aWorld_at {G : aG} {Z : aZ} {Y : aY} {s : State} {H : Heap} {A : Nat → Prop} {locs : List Loc} (hK : va_K G.2.2.1 vwCl (aTys G) s) (hP : va_P G.2.2.1 vwCl (aW G Z Y) H) (hD : va_D A (aW G Z Y)) (hS : va_S A s.heap H locs) (hA : ∀ q, s.heap.size ≤ q → A q) (hSt : aStr G A s) (av : List Value) : ∀ U : State, U.heap = H → s.WarmedH U.vm → va_Pc av (aWorld G Z Y H.size) av.toArray U := by
  intro U hU hW
  have hF : ∀ q, va_A (aW G Z Y) H.size q → A q := fun q hq => by
    rcases hq with ⟨k, e, h⟩ | h
    · exact hD.2 k _ h
    · exact hA q (Nat.le_trans hS.1 h)
  refine ⟨rfl, by rw [hU], by rw [hU]; exact hP, va_K.moved hW.alike hK, hD.weaken (fun _ _ _ _ => trivial), ?_, fun i hi => vk_R.warm hW (hSt.2 i hi)⟩
  rw [hU]
  exact ⟨((hSt.1.1.kept (H1 := H) hS.2.1).narrow hF).moved hW.alike, ((hSt.1.2.1.kept (H1 := H) hS.2.1).narrow hF).moved hW.alike, ((hSt.1.2.2.kept (H1 := H) hS.2.1).narrow hF).moved hW.alike⟩
/-- an instance method of ours, called by the pool entry idx of own: its words, its class, how many arguments -/
def aCV (own : String) (idx ci : Nat) (y : MethodName) (b : ByteArray) (nL : Nat) (ret : Option FieldType) (n : Nat) : Prop := GoodIn aT (wsV own idx y.cls y (Cond.code y b nL ret :: aT)) ∧ (∃ r, vwCl[ci]? = some r ∧ r.1 = y.cls) ∧ (y.cls ≠ "java/lang/invoke/MethodHandle" ∧ y.cls ≠ "java/lang/invoke/VarHandle") ∧ (parseMethodDescriptor y.desc).map (fun d => d.parameters.length) = some n
def aCS (own : String) (idx : Nat) (y : MethodName) (b : ByteArray) (nL : Nat) (ret : Option FieldType) (n : Nat) : Prop := GoodIn aT (va_wsS own idx y (Cond.code y b nL ret :: aT)) ∧ (y.cls ≠ "java/lang/invoke/MethodHandle" ∧ y.cls ≠ "java/lang/invoke/VarHandle") ∧ (parseMethodDescriptor y.desc).map (fun d => d.parameters.length) = some n
theorem aT_word {w : Cond} (h : w ∈ aT) : w ∈ aT ∧ ((w.onTables && w.keeps) = true ∨ ∃ ty, w = .arrayClass ty) := ⟨h, good_of_word (List.mem_filter.mp h).2⟩
theorem aCV.of {own : String} {idx ci n : Nat} {y : MethodName} {b : ByteArray} {nL : Nat} {ret : Option FieldType} (h1 : Cond.methodLink own idx y ∈ aT) (h2 : Cond.instanceMethod y ∈ aT) (h3 : Cond.selects y.cls y y ∈ aT) (h4 : Cond.initialized y.cls ∈ aT) (h5 : Cond.code y b nL ret ∈ aT) (hc : ∃ r, vwCl[ci]? = some r ∧ r.1 = y.cls) (hm : y.cls ≠ "java/lang/invoke/MethodHandle" ∧ y.cls ≠ "java/lang/invoke/VarHandle") (hn : (parseMethodDescriptor y.desc).map (fun d => d.parameters.length) = some n) : aCV own idx ci y b nL ret n := by
  refine ⟨fun w hw => ?_, hc, hm, hn⟩
  unfold wsV at hw
  rcases List.mem_append.mp hw with h | h
  · simp only [List.mem_cons, List.not_mem_nil, or_false] at h
    rcases h with rfl | rfl | rfl | rfl <;> exact aT_word (by assumption)
  · exact aT_goodT h5 w h
theorem aCS.of {own : String} {idx n : Nat} {y : MethodName} {b : ByteArray} {nL : Nat} {ret : Option FieldType} (h1 : Cond.methodLink own idx y ∈ aT) (h2 : Cond.static y ∈ aT) (h4 : Cond.initialized y.cls ∈ aT) (h5 : Cond.code y b nL ret ∈ aT) (hm : y.cls ≠ "java/lang/invoke/MethodHandle" ∧ y.cls ≠ "java/lang/invoke/VarHandle") (hn : (parseMethodDescriptor y.desc).map (fun d => d.parameters.length) = some n) : aCS own idx y b nL ret n := by
  refine ⟨fun w hw => ?_, hm, hn⟩
  unfold va_wsS at hw
  rcases List.mem_append.mp hw with h | h
  · simp only [List.mem_cons, List.not_mem_nil, or_false] at h
    rcases h with rfl | rfl | rfl <;> exact aT_word (by assumption)
  · exact aT_goodT h5 w h
theorem a_callVG {X : aX} {G : aG} {own : String} {cc : ByteArray} {nL : Nat} {ret : Option FieldType} {fr lo : Nat} (hX : aOK X G own cc nL ret fr lo) {pc pc' : Nat} {lv : List (Option Value)} {st : List Value} {Z : aZ} {Y : aY} {idx ci k n nL2 fr2 lo2 : Nat} {y : MethodName} {b : ByteArray} {ret2 : Option FieldType} {As st0 : List Value} {ks : List Nat} {Post : Option Value → aZ → aY → Prop} (hc : aCV own idx ci y b nL2 ret2 n) (hS2 : aS G y b nL2 ret2 fr2 lo2 (.ref (G.1 k) :: As) Z Y Post) (hsh : aSh k = (0, ci, ks)) (hk : k < 80) (hst : st0 = As.reverse ++ .ref (G.1 k) :: st) (hn : As.length = n) (hro : fr2 + 1 ≤ fr ∧ 8 + (nL2 + 11) + lo2 ≤ lo) (hW : (st.map fun v => v.category).sum ≤ 8) (hdg : decode cc pc = .ok (.invokevirtual idx, 3)) (hp : pc + 3 = pc') (kk : ∀ r Z' Y', Post r Z' Y' → AW X G pc' lv (r.toList ++ st) Z' Y') : AW X G pc lv st0 Z Y := by
  obtain ⟨p, l, e, R, s, m, args, below, meth, c, A, cs, sl, Q⟩ := X
  obtain ⟨hx, hb, hml, hown, hts, hK, hA, hlk, hr, hR, hSt⟩ := hX
  subst hp
  subst hst
  intro H locs ls hL hP hD hS
  obtain ⟨hc1, ⟨r0, hc2, hc3⟩, hc4, hc5⟩ := hc
  have he : (aW G Z Y)[k]? = some (G.1 k, .inr (ci, aFs G (Z k) (Y k) ks 0)) := by
    have h0 := aW_get (G := G) (Z := Z) (Y := Y) hk
    rw [hsh] at h0
    exact h0
  have hrec := va_recv hK hP hc2 he
  rw [hc3] at hrec
  have hF : ∀ q, va_A (aW G Z Y) H.size q → A q := fun q hq => by
    rcases hq with ⟨k, e, h⟩ | h
    · exact hD.2 k _ h
    · exact hA q (Nat.le_trans hS.1 h)
  refine a_run (va_runV (As := As) (rest := st) ⟨hx, hb, hml, hown, hts⟩ (hS2 l H.size) (cwV n hts hc1 rfl rfl rfl ⟨rfl, hc4.1, hc4.2, hc5⟩ ⟨by show fr2 + 1 ≤ _; omega, by show 8 + (nL2 + 11) + lo2 ≤ _; omega⟩) ⟨aWorld_blind, hrec, aWorld_at hK hP hD hS hA hSt _⟩ rfl hn (hL.1.trans hml) rfl (lv_room hW) hdg ⟨by omega, by omega⟩) hS hF (fun r Z' Y' H1 locs1 hPo hP1 hS1 => ?_)
  exact kk r Z' Y' hPo H1 locs1 ls hL hP1 (aW_D hD) hS1
theorem a_callSG {X : aX} {G : aG} {own : String} {cc : ByteArray} {nL : Nat} {ret : Option FieldType} {fr lo : Nat} (hX : aOK X G own cc nL ret fr lo) {pc pc' : Nat} {lv : List (Option Value)} {st : List Value} {Z : aZ} {Y : aY} {idx n nL2 fr2 lo2 : Nat} {y : MethodName} {b : ByteArray} {ret2 : Option FieldType} {As st0 : List Value} {Post : Option Value → aZ → aY → Prop} (hc : aCS own idx y b nL2 ret2 n) (hS2 : aS G y b nL2 ret2 fr2 lo2 As Z Y Post) (hst : st0 = As.reverse ++ st) (hn : As.length = n) (hro : fr2 + 1 ≤ fr ∧ 8 + (nL2 + 11) + lo2 ≤ lo) (hW : (st.map fun v => v.category).sum ≤ 8) (hdg : decode cc pc = .ok (.invokestatic idx, 3)) (hp : pc + 3 = pc') (kk : ∀ r Z' Y', Post r Z' Y' → AW X G pc' lv (r.toList ++ st) Z' Y') : AW X G pc lv st0 Z Y := by
  obtain ⟨p, l, e, R, s, m, args, below, meth, c, A, cs, sl, Q⟩ := X
  obtain ⟨hx, hb, hml, hown, hts, hK, hA, hlk, hr, hR, hSt⟩ := hX
  subst hp
  subst hst
  intro H locs ls hL hP hD hS
  obtain ⟨hc1, hc4, hc5⟩ := hc
  have hF : ∀ q, va_A (aW G Z Y) H.size q → A q := fun q hq => by
    rcases hq with ⟨k, e, h⟩ | h
    · exact hD.2 k _ h
    · exact hA q (Nat.le_trans hS.1 h)
  refine a_run (va_runS (As := As) (rest := st) ⟨hx, hb, hml, hown, hts⟩ (hS2 l H.size) (va_cwS n hts hc1 rfl rfl rfl ⟨hc4.1, hc4.2, hc5⟩ ⟨by show fr2 + 1 ≤ _; omega, by show 8 + (nL2 + 11) + lo2 ≤ _; omega⟩) ⟨aWorld_blind, aWorld_at hK hP hD hS hA hSt _⟩ rfl hn (hL.1.trans hml) rfl (lv_room hW) hdg ⟨by omega, by omega⟩) hS hF (fun r Z' Y' H1 locs1 hPo hP1 hS1 => ?_)
  exact kk r Z' Y' hPo H1 locs1 ls hL hP1 (aW_D hD) hS1
/-- the answer is v, and nothing changes -/
def aPu (v : Option Value) (Z : aZ) (Y : aY) : Option Value → aZ → aY → Prop := fun r Z' Y' => r = v ∧ Z' = Z ∧ Y' = Y
theorem a_callV0 {X : aX} {G : aG} {own : String} {cc : ByteArray} {nL : Nat} {ret : Option FieldType} {fr lo : Nat} (hX : aOK X G own cc nL ret fr lo) {pc pc' : Nat} {lv : List (Option Value)} {st : List Value} {Z : aZ} {Y : aY} {idx ci k nL2 fr2 lo2 : Nat} {y : MethodName} {b : ByteArray} {ret2 : Option FieldType} {ks : List Nat} {Post : Option Value → aZ → aY → Prop} (hc : aCV own idx ci y b nL2 ret2 0) (hS2 : aS G y b nL2 ret2 fr2 lo2 ([.ref (G.1 k)]) Z Y Post) (hsh : aSh k = (0, ci, ks)) (hk : k < 80) (hro : fr2 + 1 ≤ fr ∧ 8 + (nL2 + 11) + lo2 ≤ lo) (hW : (st.map fun v => v.category).sum ≤ 8) (hdg : decode cc pc = .ok (.invokevirtual idx, 3)) (hp : pc + 3 = pc') (kk : ∀ r Z' Y', Post r Z' Y' → AW X G pc' lv (r.toList ++ st) Z' Y') : AW X G pc lv (.ref (G.1 k) :: st) Z Y :=
  a_callVG hX (As := []) hc hS2 hsh hk rfl rfl hro hW hdg hp kk
theorem a_callS0 {X : aX} {G : aG} {own : String} {cc : ByteArray} {nL : Nat} {ret : Option FieldType} {fr lo : Nat} (hX : aOK X G own cc nL ret fr lo) {pc pc' : Nat} {lv : List (Option Value)} {st : List Value} {Z : aZ} {Y : aY} {idx nL2 fr2 lo2 : Nat} {y : MethodName} {b : ByteArray} {ret2 : Option FieldType}  {Post : Option Value → aZ → aY → Prop} (hc : aCS own idx y b nL2 ret2 0) (hS2 : aS G y b nL2 ret2 fr2 lo2 [] Z Y Post) (hro : fr2 + 1 ≤ fr ∧ 8 + (nL2 + 11) + lo2 ≤ lo) (hW : (st.map fun v => v.category).sum ≤ 8) (hdg : decode cc pc = .ok (.invokestatic idx, 3)) (hp : pc + 3 = pc') (kk : ∀ r Z' Y', Post r Z' Y' → AW X G pc' lv (r.toList ++ st) Z' Y') : AW X G pc lv (st) Z Y :=
  a_callSG hX (As := []) hc hS2 rfl rfl hro hW hdg hp kk
theorem a_callV0P {X : aX} {G : aG} {own : String} {cc : ByteArray} {nL : Nat} {ret : Option FieldType} {fr lo : Nat} (hX : aOK X G own cc nL ret fr lo) {pc pc' : Nat} {lv : List (Option Value)} {st : List Value} {Z : aZ} {Y : aY} {idx ci k nL2 fr2 lo2 : Nat} {y : MethodName} {b : ByteArray} {ret2 : Option FieldType} {ks : List Nat} {v : Option Value} (hc : aCV own idx ci y b nL2 ret2 0) (hS2 : aS G y b nL2 ret2 fr2 lo2 ([.ref (G.1 k)]) Z Y (aPu v Z Y)) (hsh : aSh k = (0, ci, ks)) (hk : k < 80) (hro : fr2 + 1 ≤ fr ∧ 8 + (nL2 + 11) + lo2 ≤ lo) (hW : (st.map fun v => v.category).sum ≤ 8) (hdg : decode cc pc = .ok (.invokevirtual idx, 3)) (hp : pc + 3 = pc') (kk : AW X G pc' lv (v.toList ++ st) Z Y) : AW X G pc lv (.ref (G.1 k) :: st) Z Y :=
  a_callVG hX (As := []) hc hS2 hsh hk rfl rfl hro hW hdg hp (fun r Z' Y' h => by obtain ⟨rfl, rfl, rfl⟩ := h; exact kk)
theorem a_callS0P {X : aX} {G : aG} {own : String} {cc : ByteArray} {nL : Nat} {ret : Option FieldType} {fr lo : Nat} (hX : aOK X G own cc nL ret fr lo) {pc pc' : Nat} {lv : List (Option Value)} {st : List Value} {Z : aZ} {Y : aY} {idx nL2 fr2 lo2 : Nat} {y : MethodName} {b : ByteArray} {ret2 : Option FieldType}  {v : Option Value} (hc : aCS own idx y b nL2 ret2 0) (hS2 : aS G y b nL2 ret2 fr2 lo2 [] Z Y (aPu v Z Y)) (hro : fr2 + 1 ≤ fr ∧ 8 + (nL2 + 11) + lo2 ≤ lo) (hW : (st.map fun v => v.category).sum ≤ 8) (hdg : decode cc pc = .ok (.invokestatic idx, 3)) (hp : pc + 3 = pc') (kk : AW X G pc' lv (v.toList ++ st) Z Y) : AW X G pc lv (st) Z Y :=
  a_callSG hX (As := []) hc hS2 rfl rfl hro hW hdg hp (fun r Z' Y' h => by obtain ⟨rfl, rfl, rfl⟩ := h; exact kk)
theorem a_callV1 {X : aX} {G : aG} {own : String} {cc : ByteArray} {nL : Nat} {ret : Option FieldType} {fr lo : Nat} (hX : aOK X G own cc nL ret fr lo) {pc pc' : Nat} {lv : List (Option Value)} {st : List Value} {Z : aZ} {Y : aY} {idx ci k nL2 fr2 lo2 : Nat} {y : MethodName} {b : ByteArray} {ret2 : Option FieldType} {w0 : Value} {ks : List Nat} {Post : Option Value → aZ → aY → Prop} (hc : aCV own idx ci y b nL2 ret2 1) (hS2 : aS G y b nL2 ret2 fr2 lo2 ([.ref (G.1 k), w0]) Z Y Post) (hsh : aSh k = (0, ci, ks)) (hk : k < 80) (hro : fr2 + 1 ≤ fr ∧ 8 + (nL2 + 11) + lo2 ≤ lo) (hW : (st.map fun v => v.category).sum ≤ 8) (hdg : decode cc pc = .ok (.invokevirtual idx, 3)) (hp : pc + 3 = pc') (kk : ∀ r Z' Y', Post r Z' Y' → AW X G pc' lv (r.toList ++ st) Z' Y') : AW X G pc lv (w0 :: .ref (G.1 k) :: st) Z Y :=
  a_callVG hX (As := [w0]) hc hS2 hsh hk rfl rfl hro hW hdg hp kk
theorem a_callS1 {X : aX} {G : aG} {own : String} {cc : ByteArray} {nL : Nat} {ret : Option FieldType} {fr lo : Nat} (hX : aOK X G own cc nL ret fr lo) {pc pc' : Nat} {lv : List (Option Value)} {st : List Value} {Z : aZ} {Y : aY} {idx nL2 fr2 lo2 : Nat} {y : MethodName} {b : ByteArray} {ret2 : Option FieldType} {w0 : Value}  {Post : Option Value → aZ → aY → Prop} (hc : aCS own idx y b nL2 ret2 1) (hS2 : aS G y b nL2 ret2 fr2 lo2 [w0] Z Y Post) (hro : fr2 + 1 ≤ fr ∧ 8 + (nL2 + 11) + lo2 ≤ lo) (hW : (st.map fun v => v.category).sum ≤ 8) (hdg : decode cc pc = .ok (.invokestatic idx, 3)) (hp : pc + 3 = pc') (kk : ∀ r Z' Y', Post r Z' Y' → AW X G pc' lv (r.toList ++ st) Z' Y') : AW X G pc lv (w0 :: st) Z Y :=
  a_callSG hX (As := [w0]) hc hS2 rfl rfl hro hW hdg hp kk
theorem a_callV1P {X : aX} {G : aG} {own : String} {cc : ByteArray} {nL : Nat} {ret : Option FieldType} {fr lo : Nat} (hX : aOK X G own cc nL ret fr lo) {pc pc' : Nat} {lv : List (Option Value)} {st : List Value} {Z : aZ} {Y : aY} {idx ci k nL2 fr2 lo2 : Nat} {y : MethodName} {b : ByteArray} {ret2 : Option FieldType} {w0 : Value} {ks : List Nat} {v : Option Value} (hc : aCV own idx ci y b nL2 ret2 1) (hS2 : aS G y b nL2 ret2 fr2 lo2 ([.ref (G.1 k), w0]) Z Y (aPu v Z Y)) (hsh : aSh k = (0, ci, ks)) (hk : k < 80) (hro : fr2 + 1 ≤ fr ∧ 8 + (nL2 + 11) + lo2 ≤ lo) (hW : (st.map fun v => v.category).sum ≤ 8) (hdg : decode cc pc = .ok (.invokevirtual idx, 3)) (hp : pc + 3 = pc') (kk : AW X G pc' lv (v.toList ++ st) Z Y) : AW X G pc lv (w0 :: .ref (G.1 k) :: st) Z Y :=
  a_callVG hX (As := [w0]) hc hS2 hsh hk rfl rfl hro hW hdg hp (fun r Z' Y' h => by obtain ⟨rfl, rfl, rfl⟩ := h; exact kk)
theorem a_callS1P {X : aX} {G : aG} {own : String} {cc : ByteArray} {nL : Nat} {ret : Option FieldType} {fr lo : Nat} (hX : aOK X G own cc nL ret fr lo) {pc pc' : Nat} {lv : List (Option Value)} {st : List Value} {Z : aZ} {Y : aY} {idx nL2 fr2 lo2 : Nat} {y : MethodName} {b : ByteArray} {ret2 : Option FieldType} {w0 : Value}  {v : Option Value} (hc : aCS own idx y b nL2 ret2 1) (hS2 : aS G y b nL2 ret2 fr2 lo2 [w0] Z Y (aPu v Z Y)) (hro : fr2 + 1 ≤ fr ∧ 8 + (nL2 + 11) + lo2 ≤ lo) (hW : (st.map fun v => v.category).sum ≤ 8) (hdg : decode cc pc = .ok (.invokestatic idx, 3)) (hp : pc + 3 = pc') (kk : AW X G pc' lv (v.toList ++ st) Z Y) : AW X G pc lv (w0 :: st) Z Y :=
  a_callSG hX (As := [w0]) hc hS2 rfl rfl hro hW hdg hp (fun r Z' Y' h => by obtain ⟨rfl, rfl, rfl⟩ := h; exact kk)
theorem a_callV2 {X : aX} {G : aG} {own : String} {cc : ByteArray} {nL : Nat} {ret : Option FieldType} {fr lo : Nat} (hX : aOK X G own cc nL ret fr lo) {pc pc' : Nat} {lv : List (Option Value)} {st : List Value} {Z : aZ} {Y : aY} {idx ci k nL2 fr2 lo2 : Nat} {y : MethodName} {b : ByteArray} {ret2 : Option FieldType} {w0 w1 : Value} {ks : List Nat} {Post : Option Value → aZ → aY → Prop} (hc : aCV own idx ci y b nL2 ret2 2) (hS2 : aS G y b nL2 ret2 fr2 lo2 ([.ref (G.1 k), w0, w1]) Z Y Post) (hsh : aSh k = (0, ci, ks)) (hk : k < 80) (hro : fr2 + 1 ≤ fr ∧ 8 + (nL2 + 11) + lo2 ≤ lo) (hW : (st.map fun v => v.category).sum ≤ 8) (hdg : decode cc pc = .ok (.invokevirtual idx, 3)) (hp : pc + 3 = pc') (kk : ∀ r Z' Y', Post r Z' Y' → AW X G pc' lv (r.toList ++ st) Z' Y') : AW X G pc lv (w1 :: w0 :: .ref (G.1 k) :: st) Z Y :=
  a_callVG hX (As := [w0, w1]) hc hS2 hsh hk rfl rfl hro hW hdg hp kk
theorem a_callS2 {X : aX} {G : aG} {own : String} {cc : ByteArray} {nL : Nat} {ret : Option FieldType} {fr lo : Nat} (hX : aOK X G own cc nL ret fr lo) {pc pc' : Nat} {lv : List (Option Value)} {st : List Value} {Z : aZ} {Y : aY} {idx nL2 fr2 lo2 : Nat} {y : MethodName} {b : ByteArray} {ret2 : Option FieldType} {w0 w1 : Value}  {Post : Option Value → aZ → aY → Prop} (hc : aCS own idx y b nL2 ret2 2) (hS2 : aS G y b nL2 ret2 fr2 lo2 [w0, w1] Z Y Post) (hro : fr2 + 1 ≤ fr ∧ 8 + (nL2 + 11) + lo2 ≤ lo) (hW : (st.map fun v => v.category).sum ≤ 8) (hdg : decode cc pc = .ok (.invokestatic idx, 3)) (hp : pc + 3 = pc') (kk : ∀ r Z' Y', Post r Z' Y' → AW X G pc' lv (r.toList ++ st) Z' Y') : AW X G pc lv (w1 :: w0 :: st) Z Y :=
  a_callSG hX (As := [w0, w1]) hc hS2 rfl rfl hro hW hdg hp kk
theorem a_callV2P {X : aX} {G : aG} {own : String} {cc : ByteArray} {nL : Nat} {ret : Option FieldType} {fr lo : Nat} (hX : aOK X G own cc nL ret fr lo) {pc pc' : Nat} {lv : List (Option Value)} {st : List Value} {Z : aZ} {Y : aY} {idx ci k nL2 fr2 lo2 : Nat} {y : MethodName} {b : ByteArray} {ret2 : Option FieldType} {w0 w1 : Value} {ks : List Nat} {v : Option Value} (hc : aCV own idx ci y b nL2 ret2 2) (hS2 : aS G y b nL2 ret2 fr2 lo2 ([.ref (G.1 k), w0, w1]) Z Y (aPu v Z Y)) (hsh : aSh k = (0, ci, ks)) (hk : k < 80) (hro : fr2 + 1 ≤ fr ∧ 8 + (nL2 + 11) + lo2 ≤ lo) (hW : (st.map fun v => v.category).sum ≤ 8) (hdg : decode cc pc = .ok (.invokevirtual idx, 3)) (hp : pc + 3 = pc') (kk : AW X G pc' lv (v.toList ++ st) Z Y) : AW X G pc lv (w1 :: w0 :: .ref (G.1 k) :: st) Z Y :=
  a_callVG hX (As := [w0, w1]) hc hS2 hsh hk rfl rfl hro hW hdg hp (fun r Z' Y' h => by obtain ⟨rfl, rfl, rfl⟩ := h; exact kk)
theorem a_callS2P {X : aX} {G : aG} {own : String} {cc : ByteArray} {nL : Nat} {ret : Option FieldType} {fr lo : Nat} (hX : aOK X G own cc nL ret fr lo) {pc pc' : Nat} {lv : List (Option Value)} {st : List Value} {Z : aZ} {Y : aY} {idx nL2 fr2 lo2 : Nat} {y : MethodName} {b : ByteArray} {ret2 : Option FieldType} {w0 w1 : Value}  {v : Option Value} (hc : aCS own idx y b nL2 ret2 2) (hS2 : aS G y b nL2 ret2 fr2 lo2 [w0, w1] Z Y (aPu v Z Y)) (hro : fr2 + 1 ≤ fr ∧ 8 + (nL2 + 11) + lo2 ≤ lo) (hW : (st.map fun v => v.category).sum ≤ 8) (hdg : decode cc pc = .ok (.invokestatic idx, 3)) (hp : pc + 3 = pc') (kk : AW X G pc' lv (v.toList ++ st) Z Y) : AW X G pc lv (w1 :: w0 :: st) Z Y :=
  a_callSG hX (As := [w0, w1]) hc hS2 rfl rfl hro hW hdg hp (fun r Z' Y' h => by obtain ⟨rfl, rfl, rfl⟩ := h; exact kk)
theorem a_callV3 {X : aX} {G : aG} {own : String} {cc : ByteArray} {nL : Nat} {ret : Option FieldType} {fr lo : Nat} (hX : aOK X G own cc nL ret fr lo) {pc pc' : Nat} {lv : List (Option Value)} {st : List Value} {Z : aZ} {Y : aY} {idx ci k nL2 fr2 lo2 : Nat} {y : MethodName} {b : ByteArray} {ret2 : Option FieldType} {w0 w1 w2 : Value} {ks : List Nat} {Post : Option Value → aZ → aY → Prop} (hc : aCV own idx ci y b nL2 ret2 3) (hS2 : aS G y b nL2 ret2 fr2 lo2 ([.ref (G.1 k), w0, w1, w2]) Z Y Post) (hsh : aSh k = (0, ci, ks)) (hk : k < 80) (hro : fr2 + 1 ≤ fr ∧ 8 + (nL2 + 11) + lo2 ≤ lo) (hW : (st.map fun v => v.category).sum ≤ 8) (hdg : decode cc pc = .ok (.invokevirtual idx, 3)) (hp : pc + 3 = pc') (kk : ∀ r Z' Y', Post r Z' Y' → AW X G pc' lv (r.toList ++ st) Z' Y') : AW X G pc lv (w2 :: w1 :: w0 :: .ref (G.1 k) :: st) Z Y :=
  a_callVG hX (As := [w0, w1, w2]) hc hS2 hsh hk rfl rfl hro hW hdg hp kk
theorem a_callS3 {X : aX} {G : aG} {own : String} {cc : ByteArray} {nL : Nat} {ret : Option FieldType} {fr lo : Nat} (hX : aOK X G own cc nL ret fr lo) {pc pc' : Nat} {lv : List (Option Value)} {st : List Value} {Z : aZ} {Y : aY} {idx nL2 fr2 lo2 : Nat} {y : MethodName} {b : ByteArray} {ret2 : Option FieldType} {w0 w1 w2 : Value}  {Post : Option Value → aZ → aY → Prop} (hc : aCS own idx y b nL2 ret2 3) (hS2 : aS G y b nL2 ret2 fr2 lo2 [w0, w1, w2] Z Y Post) (hro : fr2 + 1 ≤ fr ∧ 8 + (nL2 + 11) + lo2 ≤ lo) (hW : (st.map fun v => v.category).sum ≤ 8) (hdg : decode cc pc = .ok (.invokestatic idx, 3)) (hp : pc + 3 = pc') (kk : ∀ r Z' Y', Post r Z' Y' → AW X G pc' lv (r.toList ++ st) Z' Y') : AW X G pc lv (w2 :: w1 :: w0 :: st) Z Y :=
  a_callSG hX (As := [w0, w1, w2]) hc hS2 rfl rfl hro hW hdg hp kk
theorem a_callV3P {X : aX} {G : aG} {own : String} {cc : ByteArray} {nL : Nat} {ret : Option FieldType} {fr lo : Nat} (hX : aOK X G own cc nL ret fr lo) {pc pc' : Nat} {lv : List (Option Value)} {st : List Value} {Z : aZ} {Y : aY} {idx ci k nL2 fr2 lo2 : Nat} {y : MethodName} {b : ByteArray} {ret2 : Option FieldType} {w0 w1 w2 : Value} {ks : List Nat} {v : Option Value} (hc : aCV own idx ci y b nL2 ret2 3) (hS2 : aS G y b nL2 ret2 fr2 lo2 ([.ref (G.1 k), w0, w1, w2]) Z Y (aPu v Z Y)) (hsh : aSh k = (0, ci, ks)) (hk : k < 80) (hro : fr2 + 1 ≤ fr ∧ 8 + (nL2 + 11) + lo2 ≤ lo) (hW : (st.map fun v => v.category).sum ≤ 8) (hdg : decode cc pc = .ok (.invokevirtual idx, 3)) (hp : pc + 3 = pc') (kk : AW X G pc' lv (v.toList ++ st) Z Y) : AW X G pc lv (w2 :: w1 :: w0 :: .ref (G.1 k) :: st) Z Y :=
  a_callVG hX (As := [w0, w1, w2]) hc hS2 hsh hk rfl rfl hro hW hdg hp (fun r Z' Y' h => by obtain ⟨rfl, rfl, rfl⟩ := h; exact kk)
theorem a_callS3P {X : aX} {G : aG} {own : String} {cc : ByteArray} {nL : Nat} {ret : Option FieldType} {fr lo : Nat} (hX : aOK X G own cc nL ret fr lo) {pc pc' : Nat} {lv : List (Option Value)} {st : List Value} {Z : aZ} {Y : aY} {idx nL2 fr2 lo2 : Nat} {y : MethodName} {b : ByteArray} {ret2 : Option FieldType} {w0 w1 w2 : Value}  {v : Option Value} (hc : aCS own idx y b nL2 ret2 3) (hS2 : aS G y b nL2 ret2 fr2 lo2 [w0, w1, w2] Z Y (aPu v Z Y)) (hro : fr2 + 1 ≤ fr ∧ 8 + (nL2 + 11) + lo2 ≤ lo) (hW : (st.map fun v => v.category).sum ≤ 8) (hdg : decode cc pc = .ok (.invokestatic idx, 3)) (hp : pc + 3 = pc') (kk : AW X G pc' lv (v.toList ++ st) Z Y) : AW X G pc lv (w2 :: w1 :: w0 :: st) Z Y :=
  a_callSG hX (As := [w0, w1, w2]) hc hS2 rfl rfl hro hW hdg hp (fun r Z' Y' h => by obtain ⟨rfl, rfl, rfl⟩ := h; exact kk)
theorem a_callV4 {X : aX} {G : aG} {own : String} {cc : ByteArray} {nL : Nat} {ret : Option FieldType} {fr lo : Nat} (hX : aOK X G own cc nL ret fr lo) {pc pc' : Nat} {lv : List (Option Value)} {st : List Value} {Z : aZ} {Y : aY} {idx ci k nL2 fr2 lo2 : Nat} {y : MethodName} {b : ByteArray} {ret2 : Option FieldType} {w0 w1 w2 w3 : Value} {ks : List Nat} {Post : Option Value → aZ → aY → Prop} (hc : aCV own idx ci y b nL2 ret2 4) (hS2 : aS G y b nL2 ret2 fr2 lo2 ([.ref (G.1 k), w0, w1, w2, w3]) Z Y Post) (hsh : aSh k = (0, ci, ks)) (hk : k < 80) (hro : fr2 + 1 ≤ fr ∧ 8 + (nL2 + 11) + lo2 ≤ lo) (hW : (st.map fun v => v.category).sum ≤ 8) (hdg : decode cc pc = .ok (.invokevirtual idx, 3)) (hp : pc + 3 = pc') (kk : ∀ r Z' Y', Post r Z' Y' → AW X G pc' lv (r.toList ++ st) Z' Y') : AW X G pc lv (w3 :: w2 :: w1 :: w0 :: .ref (G.1 k) :: st) Z Y :=
  a_callVG hX (As := [w0, w1, w2, w3]) hc hS2 hsh hk rfl rfl hro hW hdg hp kk
theorem a_callS4 {X : aX} {G : aG} {own : String} {cc : ByteArray} {nL : Nat} {ret : Option FieldType} {fr lo : Nat} (hX : aOK X G own cc nL ret fr lo) {pc pc' : Nat} {lv : List (Option Value)} {st : List Value} {Z : aZ} {Y : aY} {idx nL2 fr2 lo2 : Nat} {y : MethodName} {b : ByteArray} {ret2 : Option FieldType} {w0 w1 w2 w3 : Value}  {Post : Option Value → aZ → aY → Prop} (hc : aCS own idx y b nL2 ret2 4) (hS2 : aS G y b nL2 ret2 fr2 lo2 [w0, w1, w2, w3] Z Y Post) (hro : fr2 + 1 ≤ fr ∧ 8 + (nL2 + 11) + lo2 ≤ lo) (hW : (st.map fun v => v.category).sum ≤ 8) (hdg : decode cc pc = .ok (.invokestatic idx, 3)) (hp : pc + 3 = pc') (kk : ∀ r Z' Y', Post r Z' Y' → AW X G pc' lv (r.toList ++ st) Z' Y') : AW X G pc lv (w3 :: w2 :: w1 :: w0 :: st) Z Y :=
  a_callSG hX (As := [w0, w1, w2, w3]) hc hS2 rfl rfl hro hW hdg hp kk
theorem a_callV4P {X : aX} {G : aG} {own : String} {cc : ByteArray} {nL : Nat} {ret : Option FieldType} {fr lo : Nat} (hX : aOK X G own cc nL ret fr lo) {pc pc' : Nat} {lv : List (Option Value)} {st : List Value} {Z : aZ} {Y : aY} {idx ci k nL2 fr2 lo2 : Nat} {y : MethodName} {b : ByteArray} {ret2 : Option FieldType} {w0 w1 w2 w3 : Value} {ks : List Nat} {v : Option Value} (hc : aCV own idx ci y b nL2 ret2 4) (hS2 : aS G y b nL2 ret2 fr2 lo2 ([.ref (G.1 k), w0, w1, w2, w3]) Z Y (aPu v Z Y)) (hsh : aSh k = (0, ci, ks)) (hk : k < 80) (hro : fr2 + 1 ≤ fr ∧ 8 + (nL2 + 11) + lo2 ≤ lo) (hW : (st.map fun v => v.category).sum ≤ 8) (hdg : decode cc pc = .ok (.invokevirtual idx, 3)) (hp : pc + 3 = pc') (kk : AW X G pc' lv (v.toList ++ st) Z Y) : AW X G pc lv (w3 :: w2 :: w1 :: w0 :: .ref (G.1 k) :: st) Z Y :=
  a_callVG hX (As := [w0, w1, w2, w3]) hc hS2 hsh hk rfl rfl hro hW hdg hp (fun r Z' Y' h => by obtain ⟨rfl, rfl, rfl⟩ := h; exact kk)
theorem a_callS4P {X : aX} {G : aG} {own : String} {cc : ByteArray} {nL : Nat} {ret : Option FieldType} {fr lo : Nat} (hX : aOK X G own cc nL ret fr lo) {pc pc' : Nat} {lv : List (Option Value)} {st : List Value} {Z : aZ} {Y : aY} {idx nL2 fr2 lo2 : Nat} {y : MethodName} {b : ByteArray} {ret2 : Option FieldType} {w0 w1 w2 w3 : Value}  {v : Option Value} (hc : aCS own idx y b nL2 ret2 4) (hS2 : aS G y b nL2 ret2 fr2 lo2 [w0, w1, w2, w3] Z Y (aPu v Z Y)) (hro : fr2 + 1 ≤ fr ∧ 8 + (nL2 + 11) + lo2 ≤ lo) (hW : (st.map fun v => v.category).sum ≤ 8) (hdg : decode cc pc = .ok (.invokestatic idx, 3)) (hp : pc + 3 = pc') (kk : AW X G pc' lv (v.toList ++ st) Z Y) : AW X G pc lv (w3 :: w2 :: w1 :: w0 :: st) Z Y :=
  a_callSG hX (As := [w0, w1, w2, w3]) hc hS2 rfl rfl hro hW hdg hp (fun r Z' Y' h => by obtain ⟨rfl, rfl, rfl⟩ := h; exact kk)
theorem a_callV5 {X : aX} {G : aG} {own : String} {cc : ByteArray} {nL : Nat} {ret : Option FieldType} {fr lo : Nat} (hX : aOK X G own cc nL ret fr lo) {pc pc' : Nat} {lv : List (Option Value)} {st : List Value} {Z : aZ} {Y : aY} {idx ci k nL2 fr2 lo2 : Nat} {y : MethodName} {b : ByteArray} {ret2 : Option FieldType} {w0 w1 w2 w3 w4 : Value} {ks : List Nat} {Post : Option Value → aZ → aY → Prop} (hc : aCV own idx ci y b nL2 ret2 5) (hS2 : aS G y b nL2 ret2 fr2 lo2 ([.ref (G.1 k), w0, w1, w2, w3, w4]) Z Y Post) (hsh : aSh k = (0, ci, ks)) (hk : k < 80) (hro : fr2 + 1 ≤ fr ∧ 8 + (nL2 + 11) + lo2 ≤ lo) (hW : (st.map fun v => v.category).sum ≤ 8) (hdg : decode cc pc = .ok (.invokevirtual idx, 3)) (hp : pc + 3 = pc') (kk : ∀ r Z' Y', Post r Z' Y' → AW X G pc' lv (r.toList ++ st) Z' Y') : AW X G pc lv (w4 :: w3 :: w2 :: w1 :: w0 :: .ref (G.1 k) :: st) Z Y :=
  a_callVG hX (As := [w0, w1, w2, w3, w4]) hc hS2 hsh hk rfl rfl hro hW hdg hp kk
theorem a_callV5P {X : aX} {G : aG} {own : String} {cc : ByteArray} {nL : Nat} {ret : Option FieldType} {fr lo : Nat} (hX : aOK X G own cc nL ret fr lo) {pc pc' : Nat} {lv : List (Option Value)} {st : List Value} {Z : aZ} {Y : aY} {idx ci k nL2 fr2 lo2 : Nat} {y : MethodName} {b : ByteArray} {ret2 : Option FieldType} {w0 w1 w2 w3 w4 : Value} {ks : List Nat} {v : Option Value} (hc : aCV own idx ci y b nL2 ret2 5) (hS2 : aS G y b nL2 ret2 fr2 lo2 ([.ref (G.1 k), w0, w1, w2, w3, w4]) Z Y (aPu v Z Y)) (hsh : aSh k = (0, ci, ks)) (hk : k < 80) (hro : fr2 + 1 ≤ fr ∧ 8 + (nL2 + 11) + lo2 ≤ lo) (hW : (st.map fun v => v.category).sum ≤ 8) (hdg : decode cc pc = .ok (.invokevirtual idx, 3)) (hp : pc + 3 = pc') (kk : AW X G pc' lv (v.toList ++ st) Z Y) : AW X G pc lv (w4 :: w3 :: w2 :: w1 :: w0 :: .ref (G.1 k) :: st) Z Y :=
  a_callVG hX (As := [w0, w1, w2, w3, w4]) hc hS2 hsh hk rfl rfl hro hW hdg hp (fun r Z' Y' h => by obtain ⟨rfl, rfl, rfl⟩ := h; exact kk)

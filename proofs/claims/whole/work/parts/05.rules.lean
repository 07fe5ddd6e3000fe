theorem aLoc_mono {ls : Array Slot} {n : Nat} {lv lv' : List (Option Value)} (h : aLoc ls n lv) (hs : ∀ (i : Nat) (v : Value), lv'[i]? = some (some v) → lv[i]? = some (some v)) : aLoc ls n lv' := ⟨h.1, h.2.1, fun i v hv => h.2.2 i v (hs i v hv)⟩
/-- lv' knows no more than lv -/
def aLe : List (Option Value) → List (Option Value) → Prop
  | [], _ => True
  | none :: t, [] => aLe t []
  | none :: t, _ :: u => aLe t u
  | some _ :: _, [] => False
  | some v :: t, x :: u => x = some v ∧ aLe t u
theorem aLe_at : ∀ (a b : List (Option Value)), aLe a b → ∀ (i : Nat) (v : Value), a[i]? = some (some v) → b[i]? = some (some v)
  | [], _, _, i, v, h => by simp at h
  | none :: t, [], hl, i, v, h => by
    match i, h with
    | 0, h => simp at h
    | i + 1, h =>
      have := aLe_at t [] hl i v (by simpa using h)
      simp at this
  | none :: t, _ :: u, hl, i, v, h => by
    match i, h with
    | 0, h => simp at h
    | i + 1, h =>
      have := aLe_at t u hl i v (by simpa using h)
      simpa using this
  | some _ :: _, [], hl, _, _, _ => hl.elim
  | some x :: t, y :: u, hl, i, v, h => by
    match i, h with
    | 0, h =>
      simp at h
      subst h
      simpa using hl.1
    | i + 1, h =>
      have := aLe_at t u hl.2 i v (by simpa using h)
      simpa using this
theorem AW.le {X : aX} {G : aG} {pc : Nat} {lv lv' : List (Option Value)} {st : List Value} {Z : aZ} {Y : aY} (hl : aLe lv' lv) (k : AW X G pc lv' st Z Y) : AW X G pc lv st Z Y := by
  obtain ⟨p, l, e, R, s, m, args, below, meth, c, A, cs, sl, Q⟩ := X
  intro H locs ls hL hP hD hS
  exact k H locs ls (aLoc_mono hL (aLe_at _ _ hl)) hP hD hS
def aPr (lv : List (Option Value)) : List (Nat × Value) := (List.range lv.length).filterMap (fun i => match lv[i]? with | some (some v) => some (i, v) | _ => none)
theorem aPr_mem {lv : List (Option Value)} {i : Nat} {v : Value} : (i, v) ∈ aPr lv ↔ lv[i]? = some (some v) := by
  unfold aPr
  rw [List.mem_filterMap]
  constructor
  · rintro ⟨a, -, h⟩
    split at h
    · rename_i w hw
      simp at h
      rw [← h.1, hw, h.2]
    · simp at h
  · intro h
    refine ⟨i, List.mem_range.mpr (List.getElem?_eq_some_iff.mp h).1, ?_⟩
    rw [h]
theorem aLoc_has {ls : Array Slot} {n : Nat} {lv : List (Option Value)} (h : aLoc ls n lv) : lv_has ls n (aPr lv) := ⟨h.1, h.2.1, fun q hq => h.2.2 q.1 q.2 (aPr_mem.mp hq)⟩
def aC1 : Option Value → Bool
  | none => true
  | some v => v.category == 1
theorem aLoc_put {ls' : Array Slot} {n i : Nat} {lv : List (Option Value)} {v : Value} (h : lv_has ls' n ((i, v) :: (aPr lv).filter (fun q => !(q.1 == i) && !(q.1 + 1 == i && q.2.category == 2)))) (hp : ∀ j w, i = j + 1 → lv[j]? = some (some w) → w.category = 1) : aLoc ls' n (lv.set i (some v)) := by
  refine ⟨h.1, h.2.1, fun j x hj => ?_⟩
  by_cases e : j = i
  · subst e
    by_cases hl : j < lv.length
    · rw [List.getElem?_set_self hl] at hj
      cases hj
      exact h.2.2 _ List.mem_cons_self
    · rw [List.getElem?_eq_none (by simp; omega)] at hj
      simp at hj
  · rw [List.getElem?_set_ne (fun q => e q.symm)] at hj
    refine h.2.2 (j, x) (List.mem_cons_of_mem _ (List.mem_filter.mpr ⟨aPr_mem.mpr hj, ?_⟩))
    by_cases e2 : j + 1 = i
    · have := hp j x e2.symm hj
      simp [e, this]
    · simp [e, e2]
theorem aLoc_put2 {ls' : Array Slot} {n i : Nat} {lv : List (Option Value)} {v : Value} (h : lv_has ls' n ((i, v) :: (aPr lv).filter (fun q => !(q.1 == i) && (!(q.1 == i + 1) && !(q.1 + 1 == i && q.2.category == 2))))) (hp : ∀ j w, i = j + 1 → lv[j]? = some (some w) → w.category = 1) : aLoc ls' n ((lv.set i (some v)).set (i + 1) none) := by
  refine ⟨h.1, h.2.1, fun j x hj => ?_⟩
  by_cases e1 : j = i + 1
  · subst e1
    by_cases hl : i + 1 < (lv.set i (some v)).length
    · rw [List.getElem?_set_self hl] at hj
      cases hj
    · rw [List.getElem?_eq_none (by simp at hl ⊢; omega)] at hj
      simp at hj
  rw [List.getElem?_set_ne (fun q => e1 q.symm)] at hj
  by_cases e : j = i
  · subst e
    by_cases hl : j < lv.length
    · rw [List.getElem?_set_self hl] at hj
      cases hj
      exact h.2.2 _ List.mem_cons_self
    · rw [List.getElem?_eq_none (by simp; omega)] at hj
      simp at hj
  · rw [List.getElem?_set_ne (fun q => e q.symm)] at hj
    refine h.2.2 (j, x) (List.mem_cons_of_mem _ (List.mem_filter.mpr ⟨aPr_mem.mpr hj, ?_⟩))
    by_cases e2 : j + 1 = i
    · have := hp j x e2.symm hj
      simp [e, e1, this]
    · simp [e, e1, e2]
theorem aC1_of {lv : List (Option Value)} {i : Nat} (h : ∀ j, i = j + 1 → aC1 (lv.getD j none) = true) : ∀ j w, i = j + 1 → lv[j]? = some (some w) → w.category = 1 := by
  intro j w e hw
  have := h j e
  rw [List.getD_eq_getElem?_getD, hw] at this
  simpa [aC1] using this
theorem a_iconst {X : aX} {G : aG} {own : String} {cc : ByteArray} {nL : Nat} {ret : Option FieldType} {fr lo : Nat} (hX : aOK X G own cc nL ret fr lo) {pc pc' : Nat} {lv : List (Option Value)} {st : List Value} {Z : aZ} {Y : aY} {n : Int} (hdg : decode cc pc = .ok (.iconst n, 1)) (hp : pc + 1 = pc') (k : AW X G pc' lv (.int (aI n) :: st) Z Y) : AW X G pc lv (st) Z Y := by
  obtain ⟨p, l, e, R, s, m, args, below, meth, c, A, cs, sl, Q⟩ := X
  obtain ⟨hx, hb, hml, hown, hts, hK, hA, hlk, hr, hR, hSt⟩ := hX
  subst hp
  intro H locs ls hL hP hD hS
  refine lv_iconst hx hb hdg rfl ?_
  exact k H locs ls hL hP hD hS

theorem a_bipush {X : aX} {G : aG} {own : String} {cc : ByteArray} {nL : Nat} {ret : Option FieldType} {fr lo : Nat} (hX : aOK X G own cc nL ret fr lo) {pc pc' : Nat} {lv : List (Option Value)} {st : List Value} {Z : aZ} {Y : aY} {n : Int} (hn : (Int8.ofInt n).toInt32 = aI n) (hdg : decode cc pc = .ok (.bipush n, 2)) (hp : pc + 2 = pc') (k : AW X G pc' lv (.int (aI n) :: st) Z Y) : AW X G pc lv (st) Z Y := by
  obtain ⟨p, l, e, R, s, m, args, below, meth, c, A, cs, sl, Q⟩ := X
  obtain ⟨hx, hb, hml, hown, hts, hK, hA, hlk, hr, hR, hSt⟩ := hX
  subst hp
  intro H locs ls hL hP hD hS
  refine lv_bipush hx hb hdg hn ?_
  exact k H locs ls hL hP hD hS

theorem a_sipush {X : aX} {G : aG} {own : String} {cc : ByteArray} {nL : Nat} {ret : Option FieldType} {fr lo : Nat} (hX : aOK X G own cc nL ret fr lo) {pc pc' : Nat} {lv : List (Option Value)} {st : List Value} {Z : aZ} {Y : aY} {n : Int} (hn : (Int16.ofInt n).toInt32 = aI n) (hdg : decode cc pc = .ok (.sipush n, 3)) (hp : pc + 3 = pc') (k : AW X G pc' lv (.int (aI n) :: st) Z Y) : AW X G pc lv (st) Z Y := by
  obtain ⟨p, l, e, R, s, m, args, below, meth, c, A, cs, sl, Q⟩ := X
  obtain ⟨hx, hb, hml, hown, hts, hK, hA, hlk, hr, hR, hSt⟩ := hX
  subst hp
  intro H locs ls hL hP hD hS
  refine lv_sipush hx hb hdg hn ?_
  exact k H locs ls hL hP hD hS

theorem a_lconst {X : aX} {G : aG} {own : String} {cc : ByteArray} {nL : Nat} {ret : Option FieldType} {fr lo : Nat} (hX : aOK X G own cc nL ret fr lo) {pc pc' : Nat} {lv : List (Option Value)} {st : List Value} {Z : aZ} {Y : aY} {n : Fin 2} {v : Int} (hv : ((n : Nat) : Int) = v) (hdg : decode cc pc = .ok (.lconst n, 1)) (hp : pc + 1 = pc') (k : AW X G pc' lv (.long (aJ v) :: st) Z Y) : AW X G pc lv (st) Z Y := by
  obtain ⟨p, l, e, R, s, m, args, below, meth, c, A, cs, sl, Q⟩ := X
  obtain ⟨hx, hb, hml, hown, hts, hK, hA, hlk, hr, hR, hSt⟩ := hX
  subst hp
  intro H locs ls hL hP hD hS
  refine lv_lconst hx hb hdg rfl ?_
  rw [show Int64.ofNat (n : Nat) = aJ v by rw [← hv]; rfl]
  exact k H locs ls hL hP hD hS

theorem a_ldc2 {X : aX} {G : aG} {own : String} {cc : ByteArray} {nL : Nat} {ret : Option FieldType} {fr lo : Nat} (hX : aOK X G own cc nL ret fr lo) {pc pc' : Nat} {lv : List (Option Value)} {st : List Value} {Z : aZ} {Y : aY} {idx : Nat} {v : Int64} (hw : Cond.constantLong own idx v ∈ aT) (hdg : decode cc pc = .ok (.ldc2_w idx, 3)) (hp : pc + 3 = pc') (k : AW X G pc' lv (.long v :: st) Z Y) : AW X G pc lv (st) Z Y := by
  obtain ⟨p, l, e, R, s, m, args, below, meth, c, A, cs, sl, Q⟩ := X
  obtain ⟨hx, hb, hml, hown, hts, hK, hA, hlk, hr, hR, hSt⟩ := hX
  subst hp
  intro H locs ls hL hP hD hS
  refine lv_ldc2 hx hb hown (hts _ hw) hdg ?_
  exact k H locs ls hL hP hD hS

theorem a_iload_n {X : aX} {G : aG} {own : String} {cc : ByteArray} {nL : Nat} {ret : Option FieldType} {fr lo : Nat} (hX : aOK X G own cc nL ret fr lo) {pc pc' : Nat} {lv : List (Option Value)} {st : List Value} {Z : aZ} {Y : aY} {q : Fin 4} {i : Nat} {x : Int32} (hi : (q : Nat) = i) (hl : lv[i]? = some (some (.int x))) (hdg : decode cc pc = .ok (.iload_n q, 1)) (hp : pc + 1 = pc') (k : AW X G pc' lv (.int x :: st) Z Y) : AW X G pc lv (st) Z Y := by
  obtain ⟨p, l, e, R, s, m, args, below, meth, c, A, cs, sl, Q⟩ := X
  obtain ⟨hx, hb, hml, hown, hts, hK, hA, hlk, hr, hR, hSt⟩ := hX
  subst hp
  intro H locs ls hL hP hD hS
  refine lv_iload_n hx hb hdg hi (hL.2.2 i _ hl) ?_
  exact k H locs ls hL hP hD hS

theorem a_iload {X : aX} {G : aG} {own : String} {cc : ByteArray} {nL : Nat} {ret : Option FieldType} {fr lo : Nat} (hX : aOK X G own cc nL ret fr lo) {pc pc' : Nat} {lv : List (Option Value)} {st : List Value} {Z : aZ} {Y : aY} {i : Nat} {x : Int32} (hl : lv[i]? = some (some (.int x))) (hdg : decode cc pc = .ok (.iload i, 2)) (hp : pc + 2 = pc') (k : AW X G pc' lv (.int x :: st) Z Y) : AW X G pc lv (st) Z Y := by
  obtain ⟨p, l, e, R, s, m, args, below, meth, c, A, cs, sl, Q⟩ := X
  obtain ⟨hx, hb, hml, hown, hts, hK, hA, hlk, hr, hR, hSt⟩ := hX
  subst hp
  intro H locs ls hL hP hD hS
  refine lv_iload hx hb hdg (hL.2.2 i _ hl) ?_
  exact k H locs ls hL hP hD hS

theorem a_lload_n {X : aX} {G : aG} {own : String} {cc : ByteArray} {nL : Nat} {ret : Option FieldType} {fr lo : Nat} (hX : aOK X G own cc nL ret fr lo) {pc pc' : Nat} {lv : List (Option Value)} {st : List Value} {Z : aZ} {Y : aY} {q : Fin 4} {i : Nat} {x : Int64} (hi : (q : Nat) = i) (hl : lv[i]? = some (some (.long x))) (hdg : decode cc pc = .ok (.lload_n q, 1)) (hp : pc + 1 = pc') (k : AW X G pc' lv (.long x :: st) Z Y) : AW X G pc lv (st) Z Y := by
  obtain ⟨p, l, e, R, s, m, args, below, meth, c, A, cs, sl, Q⟩ := X
  obtain ⟨hx, hb, hml, hown, hts, hK, hA, hlk, hr, hR, hSt⟩ := hX
  subst hp
  intro H locs ls hL hP hD hS
  refine lv_lload_n hx hb hdg hi (hL.2.2 i _ hl) ?_
  exact k H locs ls hL hP hD hS

theorem a_lload {X : aX} {G : aG} {own : String} {cc : ByteArray} {nL : Nat} {ret : Option FieldType} {fr lo : Nat} (hX : aOK X G own cc nL ret fr lo) {pc pc' : Nat} {lv : List (Option Value)} {st : List Value} {Z : aZ} {Y : aY} {i : Nat} {x : Int64} (hl : lv[i]? = some (some (.long x))) (hdg : decode cc pc = .ok (.lload i, 2)) (hp : pc + 2 = pc') (k : AW X G pc' lv (.long x :: st) Z Y) : AW X G pc lv (st) Z Y := by
  obtain ⟨p, l, e, R, s, m, args, below, meth, c, A, cs, sl, Q⟩ := X
  obtain ⟨hx, hb, hml, hown, hts, hK, hA, hlk, hr, hR, hSt⟩ := hX
  subst hp
  intro H locs ls hL hP hD hS
  refine lv_lload hx hb hdg (hL.2.2 i _ hl) ?_
  exact k H locs ls hL hP hD hS

theorem a_aload_n {X : aX} {G : aG} {own : String} {cc : ByteArray} {nL : Nat} {ret : Option FieldType} {fr lo : Nat} (hX : aOK X G own cc nL ret fr lo) {pc pc' : Nat} {lv : List (Option Value)} {st : List Value} {Z : aZ} {Y : aY} {q : Fin 4} {i : Nat} {x : Nat} (hi : (q : Nat) = i) (hl : lv[i]? = some (some (.ref x))) (hdg : decode cc pc = .ok (.aload_n q, 1)) (hp : pc + 1 = pc') (k : AW X G pc' lv (.ref x :: st) Z Y) : AW X G pc lv (st) Z Y := by
  obtain ⟨p, l, e, R, s, m, args, below, meth, c, A, cs, sl, Q⟩ := X
  obtain ⟨hx, hb, hml, hown, hts, hK, hA, hlk, hr, hR, hSt⟩ := hX
  subst hp
  intro H locs ls hL hP hD hS
  refine lv_aload_n hx hb hdg hi (hL.2.2 i _ hl) ?_
  exact k H locs ls hL hP hD hS

theorem a_aload {X : aX} {G : aG} {own : String} {cc : ByteArray} {nL : Nat} {ret : Option FieldType} {fr lo : Nat} (hX : aOK X G own cc nL ret fr lo) {pc pc' : Nat} {lv : List (Option Value)} {st : List Value} {Z : aZ} {Y : aY} {i : Nat} {x : Nat} (hl : lv[i]? = some (some (.ref x))) (hdg : decode cc pc = .ok (.aload i, 2)) (hp : pc + 2 = pc') (k : AW X G pc' lv (.ref x :: st) Z Y) : AW X G pc lv (st) Z Y := by
  obtain ⟨p, l, e, R, s, m, args, below, meth, c, A, cs, sl, Q⟩ := X
  obtain ⟨hx, hb, hml, hown, hts, hK, hA, hlk, hr, hR, hSt⟩ := hX
  subst hp
  intro H locs ls hL hP hD hS
  refine lv_aload hx hb hdg (hL.2.2 i _ hl) ?_
  exact k H locs ls hL hP hD hS

theorem a_istoreG_n {X : aX} {G : aG} {own : String} {cc : ByteArray} {nL : Nat} {ret : Option FieldType} {fr lo : Nat} (hX : aOK X G own cc nL ret fr lo) {pc pc' : Nat} {lv : List (Option Value)} {st : List Value} {Z : aZ} {Y : aY} {q : Fin 4} {i : Nat} (hi : (q : Nat) = i) {x : Int32} (hn : i < nL) (h1 : ∀ j, i = j + 1 → aC1 (lv.getD j none) = true) (hdg : decode cc pc = .ok (.istore_n q, 1)) (hp : pc + 1 = pc') (k : AW X G pc' (lv.set i (some (.int x))) st Z Y) : AW X G pc lv (.int x :: st) Z Y := by
  obtain ⟨p, l, e, R, s, m, args, below, meth, c, A, cs, sl, Q⟩ := X
  obtain ⟨hx, hb, hml, hown, hts, hK, hA, hlk, hr, hR, hSt⟩ := hX
  subst hp
  intro H locs ls hL hP hD hS
  refine lv_istore_n hx hb hdg hi (aLoc_has hL) (by rw [hml]; exact hn) rfl (fun ls' h' => ?_)
  exact k H locs ls' (aLoc_put h' (aC1_of h1)) hP hD hS
theorem a_istore0 {X : aX} {G : aG} {own : String} {cc : ByteArray} {nL : Nat} {ret : Option FieldType} {fr lo : Nat} (hX : aOK X G own cc nL ret fr lo) {pc pc' : Nat} {st : List Value} {Z : aZ} {Y : aY} {u : Option Value} {t : List (Option Value)} {q : Fin 4} (hi : (q : Nat) = 0) {x : Int32} (hn : 0 < nL)  (hdg : decode cc pc = .ok (.istore_n q, 1)) (hp : pc + 1 = pc') (k : AW X G pc' (some (.int x) :: t) st Z Y) : AW X G pc (u :: t) (.int x :: st) Z Y :=
  a_istoreG_n hX (lv := u :: t) hi hn (by intro j hj; omega) hdg hp k
theorem a_istore1 {X : aX} {G : aG} {own : String} {cc : ByteArray} {nL : Nat} {ret : Option FieldType} {fr lo : Nat} (hX : aOK X G own cc nL ret fr lo) {pc pc' : Nat} {st : List Value} {Z : aZ} {Y : aY} {v0 u : Option Value} {t : List (Option Value)} {q : Fin 4} (hi : (q : Nat) = 1) {x : Int32} (hn : 1 < nL) (hc : aC1 v0 = true) (hdg : decode cc pc = .ok (.istore_n q, 1)) (hp : pc + 1 = pc') (k : AW X G pc' (v0 :: some (.int x) :: t) st Z Y) : AW X G pc (v0 :: u :: t) (.int x :: st) Z Y :=
  a_istoreG_n hX (lv := v0 :: u :: t) hi hn (by intro j hj; have e : j = 0 := (by omega); subst e; exact hc) hdg hp k
theorem a_istore2 {X : aX} {G : aG} {own : String} {cc : ByteArray} {nL : Nat} {ret : Option FieldType} {fr lo : Nat} (hX : aOK X G own cc nL ret fr lo) {pc pc' : Nat} {st : List Value} {Z : aZ} {Y : aY} {v0 v1 u : Option Value} {t : List (Option Value)} {q : Fin 4} (hi : (q : Nat) = 2) {x : Int32} (hn : 2 < nL) (hc : aC1 v1 = true) (hdg : decode cc pc = .ok (.istore_n q, 1)) (hp : pc + 1 = pc') (k : AW X G pc' (v0 :: v1 :: some (.int x) :: t) st Z Y) : AW X G pc (v0 :: v1 :: u :: t) (.int x :: st) Z Y :=
  a_istoreG_n hX (lv := v0 :: v1 :: u :: t) hi hn (by intro j hj; have e : j = 1 := (by omega); subst e; exact hc) hdg hp k
theorem a_istore3 {X : aX} {G : aG} {own : String} {cc : ByteArray} {nL : Nat} {ret : Option FieldType} {fr lo : Nat} (hX : aOK X G own cc nL ret fr lo) {pc pc' : Nat} {st : List Value} {Z : aZ} {Y : aY} {v0 v1 v2 u : Option Value} {t : List (Option Value)} {q : Fin 4} (hi : (q : Nat) = 3) {x : Int32} (hn : 3 < nL) (hc : aC1 v2 = true) (hdg : decode cc pc = .ok (.istore_n q, 1)) (hp : pc + 1 = pc') (k : AW X G pc' (v0 :: v1 :: v2 :: some (.int x) :: t) st Z Y) : AW X G pc (v0 :: v1 :: v2 :: u :: t) (.int x :: st) Z Y :=
  a_istoreG_n hX (lv := v0 :: v1 :: v2 :: u :: t) hi hn (by intro j hj; have e : j = 2 := (by omega); subst e; exact hc) hdg hp k
theorem a_istoreG {X : aX} {G : aG} {own : String} {cc : ByteArray} {nL : Nat} {ret : Option FieldType} {fr lo : Nat} (hX : aOK X G own cc nL ret fr lo) {pc pc' : Nat} {lv : List (Option Value)} {st : List Value} {Z : aZ} {Y : aY} {i : Nat} {x : Int32} (hn : i < nL) (h1 : ∀ j, i = j + 1 → aC1 (lv.getD j none) = true) (hdg : decode cc pc = .ok (.istore i, 2)) (hp : pc + 2 = pc') (k : AW X G pc' (lv.set i (some (.int x))) st Z Y) : AW X G pc lv (.int x :: st) Z Y := by
  obtain ⟨p, l, e, R, s, m, args, below, meth, c, A, cs, sl, Q⟩ := X
  obtain ⟨hx, hb, hml, hown, hts, hK, hA, hlk, hr, hR, hSt⟩ := hX
  subst hp
  intro H locs ls hL hP hD hS
  refine lv_istore hx hb hdg (aLoc_has hL) (by rw [hml]; exact hn) rfl (fun ls' h' => ?_)
  exact k H locs ls' (aLoc_put h' (aC1_of h1)) hP hD hS
theorem a_istore4 {X : aX} {G : aG} {own : String} {cc : ByteArray} {nL : Nat} {ret : Option FieldType} {fr lo : Nat} (hX : aOK X G own cc nL ret fr lo) {pc pc' : Nat} {st : List Value} {Z : aZ} {Y : aY} {v0 v1 v2 v3 u : Option Value} {t : List (Option Value)}  {x : Int32} (hn : 4 < nL) (hc : aC1 v3 = true) (hdg : decode cc pc = .ok (.istore 4, 2)) (hp : pc + 2 = pc') (k : AW X G pc' (v0 :: v1 :: v2 :: v3 :: some (.int x) :: t) st Z Y) : AW X G pc (v0 :: v1 :: v2 :: v3 :: u :: t) (.int x :: st) Z Y :=
  a_istoreG hX (lv := v0 :: v1 :: v2 :: v3 :: u :: t)  hn (by intro j hj; have e : j = 3 := (by omega); subst e; exact hc) hdg hp k
theorem a_istore5 {X : aX} {G : aG} {own : String} {cc : ByteArray} {nL : Nat} {ret : Option FieldType} {fr lo : Nat} (hX : aOK X G own cc nL ret fr lo) {pc pc' : Nat} {st : List Value} {Z : aZ} {Y : aY} {v0 v1 v2 v3 v4 u : Option Value} {t : List (Option Value)}  {x : Int32} (hn : 5 < nL) (hc : aC1 v4 = true) (hdg : decode cc pc = .ok (.istore 5, 2)) (hp : pc + 2 = pc') (k : AW X G pc' (v0 :: v1 :: v2 :: v3 :: v4 :: some (.int x) :: t) st Z Y) : AW X G pc (v0 :: v1 :: v2 :: v3 :: v4 :: u :: t) (.int x :: st) Z Y :=
  a_istoreG hX (lv := v0 :: v1 :: v2 :: v3 :: v4 :: u :: t)  hn (by intro j hj; have e : j = 4 := (by omega); subst e; exact hc) hdg hp k
theorem a_istore6 {X : aX} {G : aG} {own : String} {cc : ByteArray} {nL : Nat} {ret : Option FieldType} {fr lo : Nat} (hX : aOK X G own cc nL ret fr lo) {pc pc' : Nat} {st : List Value} {Z : aZ} {Y : aY} {v0 v1 v2 v3 v4 v5 u : Option Value} {t : List (Option Value)}  {x : Int32} (hn : 6 < nL) (hc : aC1 v5 = true) (hdg : decode cc pc = .ok (.istore 6, 2)) (hp : pc + 2 = pc') (k : AW X G pc' (v0 :: v1 :: v2 :: v3 :: v4 :: v5 :: some (.int x) :: t) st Z Y) : AW X G pc (v0 :: v1 :: v2 :: v3 :: v4 :: v5 :: u :: t) (.int x :: st) Z Y :=
  a_istoreG hX (lv := v0 :: v1 :: v2 :: v3 :: v4 :: v5 :: u :: t)  hn (by intro j hj; have e : j = 5 := (by omega); subst e; exact hc) hdg hp k
theorem a_istore7 {X : aX} {G : aG} {own : String} {cc : ByteArray} {nL : Nat} {ret : Option FieldType} {fr lo : Nat} (hX : aOK X G own cc nL ret fr lo) {pc pc' : Nat} {st : List Value} {Z : aZ} {Y : aY} {v0 v1 v2 v3 v4 v5 v6 u : Option Value} {t : List (Option Value)}  {x : Int32} (hn : 7 < nL) (hc : aC1 v6 = true) (hdg : decode cc pc = .ok (.istore 7, 2)) (hp : pc + 2 = pc') (k : AW X G pc' (v0 :: v1 :: v2 :: v3 :: v4 :: v5 :: v6 :: some (.int x) :: t) st Z Y) : AW X G pc (v0 :: v1 :: v2 :: v3 :: v4 :: v5 :: v6 :: u :: t) (.int x :: st) Z Y :=
  a_istoreG hX (lv := v0 :: v1 :: v2 :: v3 :: v4 :: v5 :: v6 :: u :: t)  hn (by intro j hj; have e : j = 6 := (by omega); subst e; exact hc) hdg hp k
theorem a_istore8 {X : aX} {G : aG} {own : String} {cc : ByteArray} {nL : Nat} {ret : Option FieldType} {fr lo : Nat} (hX : aOK X G own cc nL ret fr lo) {pc pc' : Nat} {st : List Value} {Z : aZ} {Y : aY} {v0 v1 v2 v3 v4 v5 v6 v7 u : Option Value} {t : List (Option Value)}  {x : Int32} (hn : 8 < nL) (hc : aC1 v7 = true) (hdg : decode cc pc = .ok (.istore 8, 2)) (hp : pc + 2 = pc') (k : AW X G pc' (v0 :: v1 :: v2 :: v3 :: v4 :: v5 :: v6 :: v7 :: some (.int x) :: t) st Z Y) : AW X G pc (v0 :: v1 :: v2 :: v3 :: v4 :: v5 :: v6 :: v7 :: u :: t) (.int x :: st) Z Y :=
  a_istoreG hX (lv := v0 :: v1 :: v2 :: v3 :: v4 :: v5 :: v6 :: v7 :: u :: t)  hn (by intro j hj; have e : j = 7 := (by omega); subst e; exact hc) hdg hp k
theorem a_istore9 {X : aX} {G : aG} {own : String} {cc : ByteArray} {nL : Nat} {ret : Option FieldType} {fr lo : Nat} (hX : aOK X G own cc nL ret fr lo) {pc pc' : Nat} {st : List Value} {Z : aZ} {Y : aY} {v0 v1 v2 v3 v4 v5 v6 v7 v8 u : Option Value} {t : List (Option Value)}  {x : Int32} (hn : 9 < nL) (hc : aC1 v8 = true) (hdg : decode cc pc = .ok (.istore 9, 2)) (hp : pc + 2 = pc') (k : AW X G pc' (v0 :: v1 :: v2 :: v3 :: v4 :: v5 :: v6 :: v7 :: v8 :: some (.int x) :: t) st Z Y) : AW X G pc (v0 :: v1 :: v2 :: v3 :: v4 :: v5 :: v6 :: v7 :: v8 :: u :: t) (.int x :: st) Z Y :=
  a_istoreG hX (lv := v0 :: v1 :: v2 :: v3 :: v4 :: v5 :: v6 :: v7 :: v8 :: u :: t)  hn (by intro j hj; have e : j = 8 := (by omega); subst e; exact hc) hdg hp k
theorem a_istore10 {X : aX} {G : aG} {own : String} {cc : ByteArray} {nL : Nat} {ret : Option FieldType} {fr lo : Nat} (hX : aOK X G own cc nL ret fr lo) {pc pc' : Nat} {st : List Value} {Z : aZ} {Y : aY} {v0 v1 v2 v3 v4 v5 v6 v7 v8 v9 u : Option Value} {t : List (Option Value)}  {x : Int32} (hn : 10 < nL) (hc : aC1 v9 = true) (hdg : decode cc pc = .ok (.istore 10, 2)) (hp : pc + 2 = pc') (k : AW X G pc' (v0 :: v1 :: v2 :: v3 :: v4 :: v5 :: v6 :: v7 :: v8 :: v9 :: some (.int x) :: t) st Z Y) : AW X G pc (v0 :: v1 :: v2 :: v3 :: v4 :: v5 :: v6 :: v7 :: v8 :: v9 :: u :: t) (.int x :: st) Z Y :=
  a_istoreG hX (lv := v0 :: v1 :: v2 :: v3 :: v4 :: v5 :: v6 :: v7 :: v8 :: v9 :: u :: t)  hn (by intro j hj; have e : j = 9 := (by omega); subst e; exact hc) hdg hp k
theorem a_istore11 {X : aX} {G : aG} {own : String} {cc : ByteArray} {nL : Nat} {ret : Option FieldType} {fr lo : Nat} (hX : aOK X G own cc nL ret fr lo) {pc pc' : Nat} {st : List Value} {Z : aZ} {Y : aY} {v0 v1 v2 v3 v4 v5 v6 v7 v8 v9 v10 u : Option Value} {t : List (Option Value)}  {x : Int32} (hn : 11 < nL) (hc : aC1 v10 = true) (hdg : decode cc pc = .ok (.istore 11, 2)) (hp : pc + 2 = pc') (k : AW X G pc' (v0 :: v1 :: v2 :: v3 :: v4 :: v5 :: v6 :: v7 :: v8 :: v9 :: v10 :: some (.int x) :: t) st Z Y) : AW X G pc (v0 :: v1 :: v2 :: v3 :: v4 :: v5 :: v6 :: v7 :: v8 :: v9 :: v10 :: u :: t) (.int x :: st) Z Y :=
  a_istoreG hX (lv := v0 :: v1 :: v2 :: v3 :: v4 :: v5 :: v6 :: v7 :: v8 :: v9 :: v10 :: u :: t)  hn (by intro j hj; have e : j = 10 := (by omega); subst e; exact hc) hdg hp k
theorem a_istore12 {X : aX} {G : aG} {own : String} {cc : ByteArray} {nL : Nat} {ret : Option FieldType} {fr lo : Nat} (hX : aOK X G own cc nL ret fr lo) {pc pc' : Nat} {st : List Value} {Z : aZ} {Y : aY} {v0 v1 v2 v3 v4 v5 v6 v7 v8 v9 v10 v11 u : Option Value} {t : List (Option Value)}  {x : Int32} (hn : 12 < nL) (hc : aC1 v11 = true) (hdg : decode cc pc = .ok (.istore 12, 2)) (hp : pc + 2 = pc') (k : AW X G pc' (v0 :: v1 :: v2 :: v3 :: v4 :: v5 :: v6 :: v7 :: v8 :: v9 :: v10 :: v11 :: some (.int x) :: t) st Z Y) : AW X G pc (v0 :: v1 :: v2 :: v3 :: v4 :: v5 :: v6 :: v7 :: v8 :: v9 :: v10 :: v11 :: u :: t) (.int x :: st) Z Y :=
  a_istoreG hX (lv := v0 :: v1 :: v2 :: v3 :: v4 :: v5 :: v6 :: v7 :: v8 :: v9 :: v10 :: v11 :: u :: t)  hn (by intro j hj; have e : j = 11 := (by omega); subst e; exact hc) hdg hp k
theorem a_istore13 {X : aX} {G : aG} {own : String} {cc : ByteArray} {nL : Nat} {ret : Option FieldType} {fr lo : Nat} (hX : aOK X G own cc nL ret fr lo) {pc pc' : Nat} {st : List Value} {Z : aZ} {Y : aY} {v0 v1 v2 v3 v4 v5 v6 v7 v8 v9 v10 v11 v12 u : Option Value} {t : List (Option Value)}  {x : Int32} (hn : 13 < nL) (hc : aC1 v12 = true) (hdg : decode cc pc = .ok (.istore 13, 2)) (hp : pc + 2 = pc') (k : AW X G pc' (v0 :: v1 :: v2 :: v3 :: v4 :: v5 :: v6 :: v7 :: v8 :: v9 :: v10 :: v11 :: v12 :: some (.int x) :: t) st Z Y) : AW X G pc (v0 :: v1 :: v2 :: v3 :: v4 :: v5 :: v6 :: v7 :: v8 :: v9 :: v10 :: v11 :: v12 :: u :: t) (.int x :: st) Z Y :=
  a_istoreG hX (lv := v0 :: v1 :: v2 :: v3 :: v4 :: v5 :: v6 :: v7 :: v8 :: v9 :: v10 :: v11 :: v12 :: u :: t)  hn (by intro j hj; have e : j = 12 := (by omega); subst e; exact hc) hdg hp k
theorem a_astoreG_n {X : aX} {G : aG} {own : String} {cc : ByteArray} {nL : Nat} {ret : Option FieldType} {fr lo : Nat} (hX : aOK X G own cc nL ret fr lo) {pc pc' : Nat} {lv : List (Option Value)} {st : List Value} {Z : aZ} {Y : aY} {q : Fin 4} {i : Nat} (hi : (q : Nat) = i) {x : Nat} (hn : i < nL) (h1 : ∀ j, i = j + 1 → aC1 (lv.getD j none) = true) (hdg : decode cc pc = .ok (.astore_n q, 1)) (hp : pc + 1 = pc') (k : AW X G pc' (lv.set i (some (.ref x))) st Z Y) : AW X G pc lv (.ref x :: st) Z Y := by
  obtain ⟨p, l, e, R, s, m, args, below, meth, c, A, cs, sl, Q⟩ := X
  obtain ⟨hx, hb, hml, hown, hts, hK, hA, hlk, hr, hR, hSt⟩ := hX
  subst hp
  intro H locs ls hL hP hD hS
  refine lv_astore_n hx hb hdg hi (aLoc_has hL) (by rw [hml]; exact hn) rfl (fun ls' h' => ?_)
  exact k H locs ls' (aLoc_put h' (aC1_of h1)) hP hD hS
theorem a_astore0 {X : aX} {G : aG} {own : String} {cc : ByteArray} {nL : Nat} {ret : Option FieldType} {fr lo : Nat} (hX : aOK X G own cc nL ret fr lo) {pc pc' : Nat} {st : List Value} {Z : aZ} {Y : aY} {u : Option Value} {t : List (Option Value)} {q : Fin 4} (hi : (q : Nat) = 0) {x : Nat} (hn : 0 < nL)  (hdg : decode cc pc = .ok (.astore_n q, 1)) (hp : pc + 1 = pc') (k : AW X G pc' (some (.ref x) :: t) st Z Y) : AW X G pc (u :: t) (.ref x :: st) Z Y :=
  a_astoreG_n hX (lv := u :: t) hi hn (by intro j hj; omega) hdg hp k
theorem a_astore1 {X : aX} {G : aG} {own : String} {cc : ByteArray} {nL : Nat} {ret : Option FieldType} {fr lo : Nat} (hX : aOK X G own cc nL ret fr lo) {pc pc' : Nat} {st : List Value} {Z : aZ} {Y : aY} {v0 u : Option Value} {t : List (Option Value)} {q : Fin 4} (hi : (q : Nat) = 1) {x : Nat} (hn : 1 < nL) (hc : aC1 v0 = true) (hdg : decode cc pc = .ok (.astore_n q, 1)) (hp : pc + 1 = pc') (k : AW X G pc' (v0 :: some (.ref x) :: t) st Z Y) : AW X G pc (v0 :: u :: t) (.ref x :: st) Z Y :=
  a_astoreG_n hX (lv := v0 :: u :: t) hi hn (by intro j hj; have e : j = 0 := (by omega); subst e; exact hc) hdg hp k
theorem a_astore2 {X : aX} {G : aG} {own : String} {cc : ByteArray} {nL : Nat} {ret : Option FieldType} {fr lo : Nat} (hX : aOK X G own cc nL ret fr lo) {pc pc' : Nat} {st : List Value} {Z : aZ} {Y : aY} {v0 v1 u : Option Value} {t : List (Option Value)} {q : Fin 4} (hi : (q : Nat) = 2) {x : Nat} (hn : 2 < nL) (hc : aC1 v1 = true) (hdg : decode cc pc = .ok (.astore_n q, 1)) (hp : pc + 1 = pc') (k : AW X G pc' (v0 :: v1 :: some (.ref x) :: t) st Z Y) : AW X G pc (v0 :: v1 :: u :: t) (.ref x :: st) Z Y :=
  a_astoreG_n hX (lv := v0 :: v1 :: u :: t) hi hn (by intro j hj; have e : j = 1 := (by omega); subst e; exact hc) hdg hp k
theorem a_astore3 {X : aX} {G : aG} {own : String} {cc : ByteArray} {nL : Nat} {ret : Option FieldType} {fr lo : Nat} (hX : aOK X G own cc nL ret fr lo) {pc pc' : Nat} {st : List Value} {Z : aZ} {Y : aY} {v0 v1 v2 u : Option Value} {t : List (Option Value)} {q : Fin 4} (hi : (q : Nat) = 3) {x : Nat} (hn : 3 < nL) (hc : aC1 v2 = true) (hdg : decode cc pc = .ok (.astore_n q, 1)) (hp : pc + 1 = pc') (k : AW X G pc' (v0 :: v1 :: v2 :: some (.ref x) :: t) st Z Y) : AW X G pc (v0 :: v1 :: v2 :: u :: t) (.ref x :: st) Z Y :=
  a_astoreG_n hX (lv := v0 :: v1 :: v2 :: u :: t) hi hn (by intro j hj; have e : j = 2 := (by omega); subst e; exact hc) hdg hp k
theorem a_astoreG {X : aX} {G : aG} {own : String} {cc : ByteArray} {nL : Nat} {ret : Option FieldType} {fr lo : Nat} (hX : aOK X G own cc nL ret fr lo) {pc pc' : Nat} {lv : List (Option Value)} {st : List Value} {Z : aZ} {Y : aY} {i : Nat} {x : Nat} (hn : i < nL) (h1 : ∀ j, i = j + 1 → aC1 (lv.getD j none) = true) (hdg : decode cc pc = .ok (.astore i, 2)) (hp : pc + 2 = pc') (k : AW X G pc' (lv.set i (some (.ref x))) st Z Y) : AW X G pc lv (.ref x :: st) Z Y := by
  obtain ⟨p, l, e, R, s, m, args, below, meth, c, A, cs, sl, Q⟩ := X
  obtain ⟨hx, hb, hml, hown, hts, hK, hA, hlk, hr, hR, hSt⟩ := hX
  subst hp
  intro H locs ls hL hP hD hS
  refine lv_astore hx hb hdg (aLoc_has hL) (by rw [hml]; exact hn) rfl (fun ls' h' => ?_)
  exact k H locs ls' (aLoc_put h' (aC1_of h1)) hP hD hS
theorem a_astore4 {X : aX} {G : aG} {own : String} {cc : ByteArray} {nL : Nat} {ret : Option FieldType} {fr lo : Nat} (hX : aOK X G own cc nL ret fr lo) {pc pc' : Nat} {st : List Value} {Z : aZ} {Y : aY} {v0 v1 v2 v3 u : Option Value} {t : List (Option Value)}  {x : Nat} (hn : 4 < nL) (hc : aC1 v3 = true) (hdg : decode cc pc = .ok (.astore 4, 2)) (hp : pc + 2 = pc') (k : AW X G pc' (v0 :: v1 :: v2 :: v3 :: some (.ref x) :: t) st Z Y) : AW X G pc (v0 :: v1 :: v2 :: v3 :: u :: t) (.ref x :: st) Z Y :=
  a_astoreG hX (lv := v0 :: v1 :: v2 :: v3 :: u :: t)  hn (by intro j hj; have e : j = 3 := (by omega); subst e; exact hc) hdg hp k
theorem a_astore5 {X : aX} {G : aG} {own : String} {cc : ByteArray} {nL : Nat} {ret : Option FieldType} {fr lo : Nat} (hX : aOK X G own cc nL ret fr lo) {pc pc' : Nat} {st : List Value} {Z : aZ} {Y : aY} {v0 v1 v2 v3 v4 u : Option Value} {t : List (Option Value)}  {x : Nat} (hn : 5 < nL) (hc : aC1 v4 = true) (hdg : decode cc pc = .ok (.astore 5, 2)) (hp : pc + 2 = pc') (k : AW X G pc' (v0 :: v1 :: v2 :: v3 :: v4 :: some (.ref x) :: t) st Z Y) : AW X G pc (v0 :: v1 :: v2 :: v3 :: v4 :: u :: t) (.ref x :: st) Z Y :=
  a_astoreG hX (lv := v0 :: v1 :: v2 :: v3 :: v4 :: u :: t)  hn (by intro j hj; have e : j = 4 := (by omega); subst e; exact hc) hdg hp k
theorem a_astore6 {X : aX} {G : aG} {own : String} {cc : ByteArray} {nL : Nat} {ret : Option FieldType} {fr lo : Nat} (hX : aOK X G own cc nL ret fr lo) {pc pc' : Nat} {st : List Value} {Z : aZ} {Y : aY} {v0 v1 v2 v3 v4 v5 u : Option Value} {t : List (Option Value)}  {x : Nat} (hn : 6 < nL) (hc : aC1 v5 = true) (hdg : decode cc pc = .ok (.astore 6, 2)) (hp : pc + 2 = pc') (k : AW X G pc' (v0 :: v1 :: v2 :: v3 :: v4 :: v5 :: some (.ref x) :: t) st Z Y) : AW X G pc (v0 :: v1 :: v2 :: v3 :: v4 :: v5 :: u :: t) (.ref x :: st) Z Y :=
  a_astoreG hX (lv := v0 :: v1 :: v2 :: v3 :: v4 :: v5 :: u :: t)  hn (by intro j hj; have e : j = 5 := (by omega); subst e; exact hc) hdg hp k
theorem a_astore7 {X : aX} {G : aG} {own : String} {cc : ByteArray} {nL : Nat} {ret : Option FieldType} {fr lo : Nat} (hX : aOK X G own cc nL ret fr lo) {pc pc' : Nat} {st : List Value} {Z : aZ} {Y : aY} {v0 v1 v2 v3 v4 v5 v6 u : Option Value} {t : List (Option Value)}  {x : Nat} (hn : 7 < nL) (hc : aC1 v6 = true) (hdg : decode cc pc = .ok (.astore 7, 2)) (hp : pc + 2 = pc') (k : AW X G pc' (v0 :: v1 :: v2 :: v3 :: v4 :: v5 :: v6 :: some (.ref x) :: t) st Z Y) : AW X G pc (v0 :: v1 :: v2 :: v3 :: v4 :: v5 :: v6 :: u :: t) (.ref x :: st) Z Y :=
  a_astoreG hX (lv := v0 :: v1 :: v2 :: v3 :: v4 :: v5 :: v6 :: u :: t)  hn (by intro j hj; have e : j = 6 := (by omega); subst e; exact hc) hdg hp k
theorem a_astore8 {X : aX} {G : aG} {own : String} {cc : ByteArray} {nL : Nat} {ret : Option FieldType} {fr lo : Nat} (hX : aOK X G own cc nL ret fr lo) {pc pc' : Nat} {st : List Value} {Z : aZ} {Y : aY} {v0 v1 v2 v3 v4 v5 v6 v7 u : Option Value} {t : List (Option Value)}  {x : Nat} (hn : 8 < nL) (hc : aC1 v7 = true) (hdg : decode cc pc = .ok (.astore 8, 2)) (hp : pc + 2 = pc') (k : AW X G pc' (v0 :: v1 :: v2 :: v3 :: v4 :: v5 :: v6 :: v7 :: some (.ref x) :: t) st Z Y) : AW X G pc (v0 :: v1 :: v2 :: v3 :: v4 :: v5 :: v6 :: v7 :: u :: t) (.ref x :: st) Z Y :=
  a_astoreG hX (lv := v0 :: v1 :: v2 :: v3 :: v4 :: v5 :: v6 :: v7 :: u :: t)  hn (by intro j hj; have e : j = 7 := (by omega); subst e; exact hc) hdg hp k
theorem a_astore9 {X : aX} {G : aG} {own : String} {cc : ByteArray} {nL : Nat} {ret : Option FieldType} {fr lo : Nat} (hX : aOK X G own cc nL ret fr lo) {pc pc' : Nat} {st : List Value} {Z : aZ} {Y : aY} {v0 v1 v2 v3 v4 v5 v6 v7 v8 u : Option Value} {t : List (Option Value)}  {x : Nat} (hn : 9 < nL) (hc : aC1 v8 = true) (hdg : decode cc pc = .ok (.astore 9, 2)) (hp : pc + 2 = pc') (k : AW X G pc' (v0 :: v1 :: v2 :: v3 :: v4 :: v5 :: v6 :: v7 :: v8 :: some (.ref x) :: t) st Z Y) : AW X G pc (v0 :: v1 :: v2 :: v3 :: v4 :: v5 :: v6 :: v7 :: v8 :: u :: t) (.ref x :: st) Z Y :=
  a_astoreG hX (lv := v0 :: v1 :: v2 :: v3 :: v4 :: v5 :: v6 :: v7 :: v8 :: u :: t)  hn (by intro j hj; have e : j = 8 := (by omega); subst e; exact hc) hdg hp k
theorem a_astore10 {X : aX} {G : aG} {own : String} {cc : ByteArray} {nL : Nat} {ret : Option FieldType} {fr lo : Nat} (hX : aOK X G own cc nL ret fr lo) {pc pc' : Nat} {st : List Value} {Z : aZ} {Y : aY} {v0 v1 v2 v3 v4 v5 v6 v7 v8 v9 u : Option Value} {t : List (Option Value)}  {x : Nat} (hn : 10 < nL) (hc : aC1 v9 = true) (hdg : decode cc pc = .ok (.astore 10, 2)) (hp : pc + 2 = pc') (k : AW X G pc' (v0 :: v1 :: v2 :: v3 :: v4 :: v5 :: v6 :: v7 :: v8 :: v9 :: some (.ref x) :: t) st Z Y) : AW X G pc (v0 :: v1 :: v2 :: v3 :: v4 :: v5 :: v6 :: v7 :: v8 :: v9 :: u :: t) (.ref x :: st) Z Y :=
  a_astoreG hX (lv := v0 :: v1 :: v2 :: v3 :: v4 :: v5 :: v6 :: v7 :: v8 :: v9 :: u :: t)  hn (by intro j hj; have e : j = 9 := (by omega); subst e; exact hc) hdg hp k
theorem a_astore11 {X : aX} {G : aG} {own : String} {cc : ByteArray} {nL : Nat} {ret : Option FieldType} {fr lo : Nat} (hX : aOK X G own cc nL ret fr lo) {pc pc' : Nat} {st : List Value} {Z : aZ} {Y : aY} {v0 v1 v2 v3 v4 v5 v6 v7 v8 v9 v10 u : Option Value} {t : List (Option Value)}  {x : Nat} (hn : 11 < nL) (hc : aC1 v10 = true) (hdg : decode cc pc = .ok (.astore 11, 2)) (hp : pc + 2 = pc') (k : AW X G pc' (v0 :: v1 :: v2 :: v3 :: v4 :: v5 :: v6 :: v7 :: v8 :: v9 :: v10 :: some (.ref x) :: t) st Z Y) : AW X G pc (v0 :: v1 :: v2 :: v3 :: v4 :: v5 :: v6 :: v7 :: v8 :: v9 :: v10 :: u :: t) (.ref x :: st) Z Y :=
  a_astoreG hX (lv := v0 :: v1 :: v2 :: v3 :: v4 :: v5 :: v6 :: v7 :: v8 :: v9 :: v10 :: u :: t)  hn (by intro j hj; have e : j = 10 := (by omega); subst e; exact hc) hdg hp k
theorem a_astore12 {X : aX} {G : aG} {own : String} {cc : ByteArray} {nL : Nat} {ret : Option FieldType} {fr lo : Nat} (hX : aOK X G own cc nL ret fr lo) {pc pc' : Nat} {st : List Value} {Z : aZ} {Y : aY} {v0 v1 v2 v3 v4 v5 v6 v7 v8 v9 v10 v11 u : Option Value} {t : List (Option Value)}  {x : Nat} (hn : 12 < nL) (hc : aC1 v11 = true) (hdg : decode cc pc = .ok (.astore 12, 2)) (hp : pc + 2 = pc') (k : AW X G pc' (v0 :: v1 :: v2 :: v3 :: v4 :: v5 :: v6 :: v7 :: v8 :: v9 :: v10 :: v11 :: some (.ref x) :: t) st Z Y) : AW X G pc (v0 :: v1 :: v2 :: v3 :: v4 :: v5 :: v6 :: v7 :: v8 :: v9 :: v10 :: v11 :: u :: t) (.ref x :: st) Z Y :=
  a_astoreG hX (lv := v0 :: v1 :: v2 :: v3 :: v4 :: v5 :: v6 :: v7 :: v8 :: v9 :: v10 :: v11 :: u :: t)  hn (by intro j hj; have e : j = 11 := (by omega); subst e; exact hc) hdg hp k
theorem a_astore13 {X : aX} {G : aG} {own : String} {cc : ByteArray} {nL : Nat} {ret : Option FieldType} {fr lo : Nat} (hX : aOK X G own cc nL ret fr lo) {pc pc' : Nat} {st : List Value} {Z : aZ} {Y : aY} {v0 v1 v2 v3 v4 v5 v6 v7 v8 v9 v10 v11 v12 u : Option Value} {t : List (Option Value)}  {x : Nat} (hn : 13 < nL) (hc : aC1 v12 = true) (hdg : decode cc pc = .ok (.astore 13, 2)) (hp : pc + 2 = pc') (k : AW X G pc' (v0 :: v1 :: v2 :: v3 :: v4 :: v5 :: v6 :: v7 :: v8 :: v9 :: v10 :: v11 :: v12 :: some (.ref x) :: t) st Z Y) : AW X G pc (v0 :: v1 :: v2 :: v3 :: v4 :: v5 :: v6 :: v7 :: v8 :: v9 :: v10 :: v11 :: v12 :: u :: t) (.ref x :: st) Z Y :=
  a_astoreG hX (lv := v0 :: v1 :: v2 :: v3 :: v4 :: v5 :: v6 :: v7 :: v8 :: v9 :: v10 :: v11 :: v12 :: u :: t)  hn (by intro j hj; have e : j = 12 := (by omega); subst e; exact hc) hdg hp k
theorem a_lstoreG_n {X : aX} {G : aG} {own : String} {cc : ByteArray} {nL : Nat} {ret : Option FieldType} {fr lo : Nat} (hX : aOK X G own cc nL ret fr lo) {pc pc' : Nat} {lv : List (Option Value)} {st : List Value} {Z : aZ} {Y : aY} {q : Fin 4} {i : Nat} (hi : (q : Nat) = i) {x : Int64} (hn : i + 1 < nL) (h1 : ∀ j, i = j + 1 → aC1 (lv.getD j none) = true) (hdg : decode cc pc = .ok (.lstore_n q, 1)) (hp : pc + 1 = pc') (k : AW X G pc' ((lv.set i (some (.long x))).set (i + 1) none) st Z Y) : AW X G pc lv (.long x :: st) Z Y := by
  obtain ⟨p, l, e, R, s, m, args, below, meth, c, A, cs, sl, Q⟩ := X
  obtain ⟨hx, hb, hml, hown, hts, hK, hA, hlk, hr, hR, hSt⟩ := hX
  subst hp
  intro H locs ls hL hP hD hS
  refine lv_lstore_n hx hb hdg hi (aLoc_has hL) (by rw [hml]; exact hn) rfl (fun ls' h' => ?_)
  exact k H locs ls' (aLoc_put2 h' (aC1_of h1)) hP hD hS
theorem a_lstore0 {X : aX} {G : aG} {own : String} {cc : ByteArray} {nL : Nat} {ret : Option FieldType} {fr lo : Nat} (hX : aOK X G own cc nL ret fr lo) {pc pc' : Nat} {st : List Value} {Z : aZ} {Y : aY} {u u2 : Option Value} {t : List (Option Value)} {q : Fin 4} (hi : (q : Nat) = 0) {x : Int64} (hn : 0 + 1 < nL)  (hdg : decode cc pc = .ok (.lstore_n q, 1)) (hp : pc + 1 = pc') (k : AW X G pc' (some (.long x) :: none :: t) st Z Y) : AW X G pc (u :: u2 :: t) (.long x :: st) Z Y :=
  a_lstoreG_n hX (lv := u :: u2 :: t) hi hn (by intro j hj; omega) hdg hp k
theorem a_lstore1 {X : aX} {G : aG} {own : String} {cc : ByteArray} {nL : Nat} {ret : Option FieldType} {fr lo : Nat} (hX : aOK X G own cc nL ret fr lo) {pc pc' : Nat} {st : List Value} {Z : aZ} {Y : aY} {v0 u u2 : Option Value} {t : List (Option Value)} {q : Fin 4} (hi : (q : Nat) = 1) {x : Int64} (hn : 1 + 1 < nL) (hc : aC1 v0 = true) (hdg : decode cc pc = .ok (.lstore_n q, 1)) (hp : pc + 1 = pc') (k : AW X G pc' (v0 :: some (.long x) :: none :: t) st Z Y) : AW X G pc (v0 :: u :: u2 :: t) (.long x :: st) Z Y :=
  a_lstoreG_n hX (lv := v0 :: u :: u2 :: t) hi hn (by intro j hj; have e : j = 0 := (by omega); subst e; exact hc) hdg hp k
theorem a_lstore2 {X : aX} {G : aG} {own : String} {cc : ByteArray} {nL : Nat} {ret : Option FieldType} {fr lo : Nat} (hX : aOK X G own cc nL ret fr lo) {pc pc' : Nat} {st : List Value} {Z : aZ} {Y : aY} {v0 v1 u u2 : Option Value} {t : List (Option Value)} {q : Fin 4} (hi : (q : Nat) = 2) {x : Int64} (hn : 2 + 1 < nL) (hc : aC1 v1 = true) (hdg : decode cc pc = .ok (.lstore_n q, 1)) (hp : pc + 1 = pc') (k : AW X G pc' (v0 :: v1 :: some (.long x) :: none :: t) st Z Y) : AW X G pc (v0 :: v1 :: u :: u2 :: t) (.long x :: st) Z Y :=
  a_lstoreG_n hX (lv := v0 :: v1 :: u :: u2 :: t) hi hn (by intro j hj; have e : j = 1 := (by omega); subst e; exact hc) hdg hp k
theorem a_lstore3 {X : aX} {G : aG} {own : String} {cc : ByteArray} {nL : Nat} {ret : Option FieldType} {fr lo : Nat} (hX : aOK X G own cc nL ret fr lo) {pc pc' : Nat} {st : List Value} {Z : aZ} {Y : aY} {v0 v1 v2 u u2 : Option Value} {t : List (Option Value)} {q : Fin 4} (hi : (q : Nat) = 3) {x : Int64} (hn : 3 + 1 < nL) (hc : aC1 v2 = true) (hdg : decode cc pc = .ok (.lstore_n q, 1)) (hp : pc + 1 = pc') (k : AW X G pc' (v0 :: v1 :: v2 :: some (.long x) :: none :: t) st Z Y) : AW X G pc (v0 :: v1 :: v2 :: u :: u2 :: t) (.long x :: st) Z Y :=
  a_lstoreG_n hX (lv := v0 :: v1 :: v2 :: u :: u2 :: t) hi hn (by intro j hj; have e : j = 2 := (by omega); subst e; exact hc) hdg hp k
theorem a_lstoreG {X : aX} {G : aG} {own : String} {cc : ByteArray} {nL : Nat} {ret : Option FieldType} {fr lo : Nat} (hX : aOK X G own cc nL ret fr lo) {pc pc' : Nat} {lv : List (Option Value)} {st : List Value} {Z : aZ} {Y : aY} {i : Nat} {x : Int64} (hn : i + 1 < nL) (h1 : ∀ j, i = j + 1 → aC1 (lv.getD j none) = true) (hdg : decode cc pc = .ok (.lstore i, 2)) (hp : pc + 2 = pc') (k : AW X G pc' ((lv.set i (some (.long x))).set (i + 1) none) st Z Y) : AW X G pc lv (.long x :: st) Z Y := by
  obtain ⟨p, l, e, R, s, m, args, below, meth, c, A, cs, sl, Q⟩ := X
  obtain ⟨hx, hb, hml, hown, hts, hK, hA, hlk, hr, hR, hSt⟩ := hX
  subst hp
  intro H locs ls hL hP hD hS
  refine lv_lstore hx hb hdg (aLoc_has hL) (by rw [hml]; exact hn) rfl (fun ls' h' => ?_)
  exact k H locs ls' (aLoc_put2 h' (aC1_of h1)) hP hD hS
theorem a_lstore4 {X : aX} {G : aG} {own : String} {cc : ByteArray} {nL : Nat} {ret : Option FieldType} {fr lo : Nat} (hX : aOK X G own cc nL ret fr lo) {pc pc' : Nat} {st : List Value} {Z : aZ} {Y : aY} {v0 v1 v2 v3 u u2 : Option Value} {t : List (Option Value)}  {x : Int64} (hn : 4 + 1 < nL) (hc : aC1 v3 = true) (hdg : decode cc pc = .ok (.lstore 4, 2)) (hp : pc + 2 = pc') (k : AW X G pc' (v0 :: v1 :: v2 :: v3 :: some (.long x) :: none :: t) st Z Y) : AW X G pc (v0 :: v1 :: v2 :: v3 :: u :: u2 :: t) (.long x :: st) Z Y :=
  a_lstoreG hX (lv := v0 :: v1 :: v2 :: v3 :: u :: u2 :: t)  hn (by intro j hj; have e : j = 3 := (by omega); subst e; exact hc) hdg hp k
theorem a_lstore5 {X : aX} {G : aG} {own : String} {cc : ByteArray} {nL : Nat} {ret : Option FieldType} {fr lo : Nat} (hX : aOK X G own cc nL ret fr lo) {pc pc' : Nat} {st : List Value} {Z : aZ} {Y : aY} {v0 v1 v2 v3 v4 u u2 : Option Value} {t : List (Option Value)}  {x : Int64} (hn : 5 + 1 < nL) (hc : aC1 v4 = true) (hdg : decode cc pc = .ok (.lstore 5, 2)) (hp : pc + 2 = pc') (k : AW X G pc' (v0 :: v1 :: v2 :: v3 :: v4 :: some (.long x) :: none :: t) st Z Y) : AW X G pc (v0 :: v1 :: v2 :: v3 :: v4 :: u :: u2 :: t) (.long x :: st) Z Y :=
  a_lstoreG hX (lv := v0 :: v1 :: v2 :: v3 :: v4 :: u :: u2 :: t)  hn (by intro j hj; have e : j = 4 := (by omega); subst e; exact hc) hdg hp k
theorem a_lstore6 {X : aX} {G : aG} {own : String} {cc : ByteArray} {nL : Nat} {ret : Option FieldType} {fr lo : Nat} (hX : aOK X G own cc nL ret fr lo) {pc pc' : Nat} {st : List Value} {Z : aZ} {Y : aY} {v0 v1 v2 v3 v4 v5 u u2 : Option Value} {t : List (Option Value)}  {x : Int64} (hn : 6 + 1 < nL) (hc : aC1 v5 = true) (hdg : decode cc pc = .ok (.lstore 6, 2)) (hp : pc + 2 = pc') (k : AW X G pc' (v0 :: v1 :: v2 :: v3 :: v4 :: v5 :: some (.long x) :: none :: t) st Z Y) : AW X G pc (v0 :: v1 :: v2 :: v3 :: v4 :: v5 :: u :: u2 :: t) (.long x :: st) Z Y :=
  a_lstoreG hX (lv := v0 :: v1 :: v2 :: v3 :: v4 :: v5 :: u :: u2 :: t)  hn (by intro j hj; have e : j = 5 := (by omega); subst e; exact hc) hdg hp k
theorem a_lstore7 {X : aX} {G : aG} {own : String} {cc : ByteArray} {nL : Nat} {ret : Option FieldType} {fr lo : Nat} (hX : aOK X G own cc nL ret fr lo) {pc pc' : Nat} {st : List Value} {Z : aZ} {Y : aY} {v0 v1 v2 v3 v4 v5 v6 u u2 : Option Value} {t : List (Option Value)}  {x : Int64} (hn : 7 + 1 < nL) (hc : aC1 v6 = true) (hdg : decode cc pc = .ok (.lstore 7, 2)) (hp : pc + 2 = pc') (k : AW X G pc' (v0 :: v1 :: v2 :: v3 :: v4 :: v5 :: v6 :: some (.long x) :: none :: t) st Z Y) : AW X G pc (v0 :: v1 :: v2 :: v3 :: v4 :: v5 :: v6 :: u :: u2 :: t) (.long x :: st) Z Y :=
  a_lstoreG hX (lv := v0 :: v1 :: v2 :: v3 :: v4 :: v5 :: v6 :: u :: u2 :: t)  hn (by intro j hj; have e : j = 6 := (by omega); subst e; exact hc) hdg hp k
theorem a_lstore8 {X : aX} {G : aG} {own : String} {cc : ByteArray} {nL : Nat} {ret : Option FieldType} {fr lo : Nat} (hX : aOK X G own cc nL ret fr lo) {pc pc' : Nat} {st : List Value} {Z : aZ} {Y : aY} {v0 v1 v2 v3 v4 v5 v6 v7 u u2 : Option Value} {t : List (Option Value)}  {x : Int64} (hn : 8 + 1 < nL) (hc : aC1 v7 = true) (hdg : decode cc pc = .ok (.lstore 8, 2)) (hp : pc + 2 = pc') (k : AW X G pc' (v0 :: v1 :: v2 :: v3 :: v4 :: v5 :: v6 :: v7 :: some (.long x) :: none :: t) st Z Y) : AW X G pc (v0 :: v1 :: v2 :: v3 :: v4 :: v5 :: v6 :: v7 :: u :: u2 :: t) (.long x :: st) Z Y :=
  a_lstoreG hX (lv := v0 :: v1 :: v2 :: v3 :: v4 :: v5 :: v6 :: v7 :: u :: u2 :: t)  hn (by intro j hj; have e : j = 7 := (by omega); subst e; exact hc) hdg hp k
theorem a_lstore9 {X : aX} {G : aG} {own : String} {cc : ByteArray} {nL : Nat} {ret : Option FieldType} {fr lo : Nat} (hX : aOK X G own cc nL ret fr lo) {pc pc' : Nat} {st : List Value} {Z : aZ} {Y : aY} {v0 v1 v2 v3 v4 v5 v6 v7 v8 u u2 : Option Value} {t : List (Option Value)}  {x : Int64} (hn : 9 + 1 < nL) (hc : aC1 v8 = true) (hdg : decode cc pc = .ok (.lstore 9, 2)) (hp : pc + 2 = pc') (k : AW X G pc' (v0 :: v1 :: v2 :: v3 :: v4 :: v5 :: v6 :: v7 :: v8 :: some (.long x) :: none :: t) st Z Y) : AW X G pc (v0 :: v1 :: v2 :: v3 :: v4 :: v5 :: v6 :: v7 :: v8 :: u :: u2 :: t) (.long x :: st) Z Y :=
  a_lstoreG hX (lv := v0 :: v1 :: v2 :: v3 :: v4 :: v5 :: v6 :: v7 :: v8 :: u :: u2 :: t)  hn (by intro j hj; have e : j = 8 := (by omega); subst e; exact hc) hdg hp k
theorem a_lstore10 {X : aX} {G : aG} {own : String} {cc : ByteArray} {nL : Nat} {ret : Option FieldType} {fr lo : Nat} (hX : aOK X G own cc nL ret fr lo) {pc pc' : Nat} {st : List Value} {Z : aZ} {Y : aY} {v0 v1 v2 v3 v4 v5 v6 v7 v8 v9 u u2 : Option Value} {t : List (Option Value)}  {x : Int64} (hn : 10 + 1 < nL) (hc : aC1 v9 = true) (hdg : decode cc pc = .ok (.lstore 10, 2)) (hp : pc + 2 = pc') (k : AW X G pc' (v0 :: v1 :: v2 :: v3 :: v4 :: v5 :: v6 :: v7 :: v8 :: v9 :: some (.long x) :: none :: t) st Z Y) : AW X G pc (v0 :: v1 :: v2 :: v3 :: v4 :: v5 :: v6 :: v7 :: v8 :: v9 :: u :: u2 :: t) (.long x :: st) Z Y :=
  a_lstoreG hX (lv := v0 :: v1 :: v2 :: v3 :: v4 :: v5 :: v6 :: v7 :: v8 :: v9 :: u :: u2 :: t)  hn (by intro j hj; have e : j = 9 := (by omega); subst e; exact hc) hdg hp k
theorem a_lstore11 {X : aX} {G : aG} {own : String} {cc : ByteArray} {nL : Nat} {ret : Option FieldType} {fr lo : Nat} (hX : aOK X G own cc nL ret fr lo) {pc pc' : Nat} {st : List Value} {Z : aZ} {Y : aY} {v0 v1 v2 v3 v4 v5 v6 v7 v8 v9 v10 u u2 : Option Value} {t : List (Option Value)}  {x : Int64} (hn : 11 + 1 < nL) (hc : aC1 v10 = true) (hdg : decode cc pc = .ok (.lstore 11, 2)) (hp : pc + 2 = pc') (k : AW X G pc' (v0 :: v1 :: v2 :: v3 :: v4 :: v5 :: v6 :: v7 :: v8 :: v9 :: v10 :: some (.long x) :: none :: t) st Z Y) : AW X G pc (v0 :: v1 :: v2 :: v3 :: v4 :: v5 :: v6 :: v7 :: v8 :: v9 :: v10 :: u :: u2 :: t) (.long x :: st) Z Y :=
  a_lstoreG hX (lv := v0 :: v1 :: v2 :: v3 :: v4 :: v5 :: v6 :: v7 :: v8 :: v9 :: v10 :: u :: u2 :: t)  hn (by intro j hj; have e : j = 10 := (by omega); subst e; exact hc) hdg hp k
theorem a_lstore12 {X : aX} {G : aG} {own : String} {cc : ByteArray} {nL : Nat} {ret : Option FieldType} {fr lo : Nat} (hX : aOK X G own cc nL ret fr lo) {pc pc' : Nat} {st : List Value} {Z : aZ} {Y : aY} {v0 v1 v2 v3 v4 v5 v6 v7 v8 v9 v10 v11 u u2 : Option Value} {t : List (Option Value)}  {x : Int64} (hn : 12 + 1 < nL) (hc : aC1 v11 = true) (hdg : decode cc pc = .ok (.lstore 12, 2)) (hp : pc + 2 = pc') (k : AW X G pc' (v0 :: v1 :: v2 :: v3 :: v4 :: v5 :: v6 :: v7 :: v8 :: v9 :: v10 :: v11 :: some (.long x) :: none :: t) st Z Y) : AW X G pc (v0 :: v1 :: v2 :: v3 :: v4 :: v5 :: v6 :: v7 :: v8 :: v9 :: v10 :: v11 :: u :: u2 :: t) (.long x :: st) Z Y :=
  a_lstoreG hX (lv := v0 :: v1 :: v2 :: v3 :: v4 :: v5 :: v6 :: v7 :: v8 :: v9 :: v10 :: v11 :: u :: u2 :: t)  hn (by intro j hj; have e : j = 11 := (by omega); subst e; exact hc) hdg hp k
theorem a_lstore13 {X : aX} {G : aG} {own : String} {cc : ByteArray} {nL : Nat} {ret : Option FieldType} {fr lo : Nat} (hX : aOK X G own cc nL ret fr lo) {pc pc' : Nat} {st : List Value} {Z : aZ} {Y : aY} {v0 v1 v2 v3 v4 v5 v6 v7 v8 v9 v10 v11 v12 u u2 : Option Value} {t : List (Option Value)}  {x : Int64} (hn : 13 + 1 < nL) (hc : aC1 v12 = true) (hdg : decode cc pc = .ok (.lstore 13, 2)) (hp : pc + 2 = pc') (k : AW X G pc' (v0 :: v1 :: v2 :: v3 :: v4 :: v5 :: v6 :: v7 :: v8 :: v9 :: v10 :: v11 :: v12 :: some (.long x) :: none :: t) st Z Y) : AW X G pc (v0 :: v1 :: v2 :: v3 :: v4 :: v5 :: v6 :: v7 :: v8 :: v9 :: v10 :: v11 :: v12 :: u :: u2 :: t) (.long x :: st) Z Y :=
  a_lstoreG hX (lv := v0 :: v1 :: v2 :: v3 :: v4 :: v5 :: v6 :: v7 :: v8 :: v9 :: v10 :: v11 :: v12 :: u :: u2 :: t)  hn (by intro j hj; have e : j = 12 := (by omega); subst e; exact hc) hdg hp k
theorem a_iincG {X : aX} {G : aG} {own : String} {cc : ByteArray} {nL : Nat} {ret : Option FieldType} {fr lo : Nat} (hX : aOK X G own cc nL ret fr lo) {pc pc' : Nat} {lv : List (Option Value)} {st : List Value} {Z : aZ} {Y : aY} {i : Nat} {n x : Int} (hl : lv[i]? = some (some (.int (aI x)))) (hn : i < nL) (hdg : decode cc pc = .ok (.iinc i n, 3)) (hp : pc + 3 = pc') (h1 : ∀ j, i = j + 1 → aC1 (lv.getD j none) = true) (k : AW X G pc' (lv.set i (some (.int (aI (x + n))))) st Z Y) : AW X G pc lv st Z Y := by
  obtain ⟨p, l, e, R, s, m, args, below, meth, c, A, cs, sl, Q⟩ := X
  obtain ⟨hx, hb, hml, hown, hts, hK, hA, hlk, hr, hR, hSt⟩ := hX
  subst hp
  intro H locs ls hL hP hD hS
  have hh : lv_has ls c.maxLocals ((i, Value.int (aI x)) :: aPr lv) := ⟨hL.1, hL.2.1, fun q hq => by
    rcases List.mem_cons.mp hq with rfl | hq
    · exact hL.2.2 _ _ hl
    · exact hL.2.2 q.1 q.2 (aPr_mem.mp hq)⟩
  refine lv_iinc (v := aI (x + n)) hx hb hdg hh (k := 0) rfl (by rw [← aI_add]; rfl) (by rw [hml]; exact hn) rfl (fun ls' h' => ?_)
  refine k H locs ls' (aLoc_put (lv := lv) (lv_sub h' [0] rfl |> fun _ => ⟨h'.1, h'.2.1, fun q hq => h'.2.2 q ?_⟩) (aC1_of h1)) hP hD hS
  rcases List.mem_cons.mp hq with rfl | hq
  · exact List.mem_cons_self
  · exact List.mem_cons_of_mem _ (List.mem_filter.mpr ⟨List.mem_cons_of_mem _ (List.mem_filter.mp hq).1, (List.mem_filter.mp hq).2⟩)
theorem a_iinc0 {X : aX} {G : aG} {own : String} {cc : ByteArray} {nL : Nat} {ret : Option FieldType} {fr lo : Nat} (hX : aOK X G own cc nL ret fr lo) {pc pc' : Nat} {st : List Value} {Z : aZ} {Y : aY} {t : List (Option Value)} {n x : Int} (hn : 0 < nL)  (hdg : decode cc pc = .ok (.iinc 0 n, 3)) (hp : pc + 3 = pc') (k : AW X G pc' (some (.int (aI (x + n))) :: t) st Z Y) : AW X G pc (some (.int (aI x)) :: t) st Z Y :=
  a_iincG hX (lv := some (.int (aI x)) :: t) (x := x) rfl hn hdg hp (by intro j hj; omega) k
theorem a_iinc1 {X : aX} {G : aG} {own : String} {cc : ByteArray} {nL : Nat} {ret : Option FieldType} {fr lo : Nat} (hX : aOK X G own cc nL ret fr lo) {pc pc' : Nat} {st : List Value} {Z : aZ} {Y : aY} {v0 : Option Value} {t : List (Option Value)} {n x : Int} (hn : 1 < nL) (hc : aC1 v0 = true) (hdg : decode cc pc = .ok (.iinc 1 n, 3)) (hp : pc + 3 = pc') (k : AW X G pc' (v0 :: some (.int (aI (x + n))) :: t) st Z Y) : AW X G pc (v0 :: some (.int (aI x)) :: t) st Z Y :=
  a_iincG hX (lv := v0 :: some (.int (aI x)) :: t) (x := x) rfl hn hdg hp (by intro j hj; have e : j = 0 := (by omega); subst e; exact hc) k
theorem a_iinc2 {X : aX} {G : aG} {own : String} {cc : ByteArray} {nL : Nat} {ret : Option FieldType} {fr lo : Nat} (hX : aOK X G own cc nL ret fr lo) {pc pc' : Nat} {st : List Value} {Z : aZ} {Y : aY} {v0 v1 : Option Value} {t : List (Option Value)} {n x : Int} (hn : 2 < nL) (hc : aC1 v1 = true) (hdg : decode cc pc = .ok (.iinc 2 n, 3)) (hp : pc + 3 = pc') (k : AW X G pc' (v0 :: v1 :: some (.int (aI (x + n))) :: t) st Z Y) : AW X G pc (v0 :: v1 :: some (.int (aI x)) :: t) st Z Y :=
  a_iincG hX (lv := v0 :: v1 :: some (.int (aI x)) :: t) (x := x) rfl hn hdg hp (by intro j hj; have e : j = 1 := (by omega); subst e; exact hc) k
theorem a_iinc3 {X : aX} {G : aG} {own : String} {cc : ByteArray} {nL : Nat} {ret : Option FieldType} {fr lo : Nat} (hX : aOK X G own cc nL ret fr lo) {pc pc' : Nat} {st : List Value} {Z : aZ} {Y : aY} {v0 v1 v2 : Option Value} {t : List (Option Value)} {n x : Int} (hn : 3 < nL) (hc : aC1 v2 = true) (hdg : decode cc pc = .ok (.iinc 3 n, 3)) (hp : pc + 3 = pc') (k : AW X G pc' (v0 :: v1 :: v2 :: some (.int (aI (x + n))) :: t) st Z Y) : AW X G pc (v0 :: v1 :: v2 :: some (.int (aI x)) :: t) st Z Y :=
  a_iincG hX (lv := v0 :: v1 :: v2 :: some (.int (aI x)) :: t) (x := x) rfl hn hdg hp (by intro j hj; have e : j = 2 := (by omega); subst e; exact hc) k
theorem a_iinc4 {X : aX} {G : aG} {own : String} {cc : ByteArray} {nL : Nat} {ret : Option FieldType} {fr lo : Nat} (hX : aOK X G own cc nL ret fr lo) {pc pc' : Nat} {st : List Value} {Z : aZ} {Y : aY} {v0 v1 v2 v3 : Option Value} {t : List (Option Value)} {n x : Int} (hn : 4 < nL) (hc : aC1 v3 = true) (hdg : decode cc pc = .ok (.iinc 4 n, 3)) (hp : pc + 3 = pc') (k : AW X G pc' (v0 :: v1 :: v2 :: v3 :: some (.int (aI (x + n))) :: t) st Z Y) : AW X G pc (v0 :: v1 :: v2 :: v3 :: some (.int (aI x)) :: t) st Z Y :=
  a_iincG hX (lv := v0 :: v1 :: v2 :: v3 :: some (.int (aI x)) :: t) (x := x) rfl hn hdg hp (by intro j hj; have e : j = 3 := (by omega); subst e; exact hc) k
theorem a_iinc5 {X : aX} {G : aG} {own : String} {cc : ByteArray} {nL : Nat} {ret : Option FieldType} {fr lo : Nat} (hX : aOK X G own cc nL ret fr lo) {pc pc' : Nat} {st : List Value} {Z : aZ} {Y : aY} {v0 v1 v2 v3 v4 : Option Value} {t : List (Option Value)} {n x : Int} (hn : 5 < nL) (hc : aC1 v4 = true) (hdg : decode cc pc = .ok (.iinc 5 n, 3)) (hp : pc + 3 = pc') (k : AW X G pc' (v0 :: v1 :: v2 :: v3 :: v4 :: some (.int (aI (x + n))) :: t) st Z Y) : AW X G pc (v0 :: v1 :: v2 :: v3 :: v4 :: some (.int (aI x)) :: t) st Z Y :=
  a_iincG hX (lv := v0 :: v1 :: v2 :: v3 :: v4 :: some (.int (aI x)) :: t) (x := x) rfl hn hdg hp (by intro j hj; have e : j = 4 := (by omega); subst e; exact hc) k
theorem a_iinc6 {X : aX} {G : aG} {own : String} {cc : ByteArray} {nL : Nat} {ret : Option FieldType} {fr lo : Nat} (hX : aOK X G own cc nL ret fr lo) {pc pc' : Nat} {st : List Value} {Z : aZ} {Y : aY} {v0 v1 v2 v3 v4 v5 : Option Value} {t : List (Option Value)} {n x : Int} (hn : 6 < nL) (hc : aC1 v5 = true) (hdg : decode cc pc = .ok (.iinc 6 n, 3)) (hp : pc + 3 = pc') (k : AW X G pc' (v0 :: v1 :: v2 :: v3 :: v4 :: v5 :: some (.int (aI (x + n))) :: t) st Z Y) : AW X G pc (v0 :: v1 :: v2 :: v3 :: v4 :: v5 :: some (.int (aI x)) :: t) st Z Y :=
  a_iincG hX (lv := v0 :: v1 :: v2 :: v3 :: v4 :: v5 :: some (.int (aI x)) :: t) (x := x) rfl hn hdg hp (by intro j hj; have e : j = 5 := (by omega); subst e; exact hc) k
theorem a_iinc7 {X : aX} {G : aG} {own : String} {cc : ByteArray} {nL : Nat} {ret : Option FieldType} {fr lo : Nat} (hX : aOK X G own cc nL ret fr lo) {pc pc' : Nat} {st : List Value} {Z : aZ} {Y : aY} {v0 v1 v2 v3 v4 v5 v6 : Option Value} {t : List (Option Value)} {n x : Int} (hn : 7 < nL) (hc : aC1 v6 = true) (hdg : decode cc pc = .ok (.iinc 7 n, 3)) (hp : pc + 3 = pc') (k : AW X G pc' (v0 :: v1 :: v2 :: v3 :: v4 :: v5 :: v6 :: some (.int (aI (x + n))) :: t) st Z Y) : AW X G pc (v0 :: v1 :: v2 :: v3 :: v4 :: v5 :: v6 :: some (.int (aI x)) :: t) st Z Y :=
  a_iincG hX (lv := v0 :: v1 :: v2 :: v3 :: v4 :: v5 :: v6 :: some (.int (aI x)) :: t) (x := x) rfl hn hdg hp (by intro j hj; have e : j = 6 := (by omega); subst e; exact hc) k
theorem a_iinc8 {X : aX} {G : aG} {own : String} {cc : ByteArray} {nL : Nat} {ret : Option FieldType} {fr lo : Nat} (hX : aOK X G own cc nL ret fr lo) {pc pc' : Nat} {st : List Value} {Z : aZ} {Y : aY} {v0 v1 v2 v3 v4 v5 v6 v7 : Option Value} {t : List (Option Value)} {n x : Int} (hn : 8 < nL) (hc : aC1 v7 = true) (hdg : decode cc pc = .ok (.iinc 8 n, 3)) (hp : pc + 3 = pc') (k : AW X G pc' (v0 :: v1 :: v2 :: v3 :: v4 :: v5 :: v6 :: v7 :: some (.int (aI (x + n))) :: t) st Z Y) : AW X G pc (v0 :: v1 :: v2 :: v3 :: v4 :: v5 :: v6 :: v7 :: some (.int (aI x)) :: t) st Z Y :=
  a_iincG hX (lv := v0 :: v1 :: v2 :: v3 :: v4 :: v5 :: v6 :: v7 :: some (.int (aI x)) :: t) (x := x) rfl hn hdg hp (by intro j hj; have e : j = 7 := (by omega); subst e; exact hc) k
theorem a_iinc9 {X : aX} {G : aG} {own : String} {cc : ByteArray} {nL : Nat} {ret : Option FieldType} {fr lo : Nat} (hX : aOK X G own cc nL ret fr lo) {pc pc' : Nat} {st : List Value} {Z : aZ} {Y : aY} {v0 v1 v2 v3 v4 v5 v6 v7 v8 : Option Value} {t : List (Option Value)} {n x : Int} (hn : 9 < nL) (hc : aC1 v8 = true) (hdg : decode cc pc = .ok (.iinc 9 n, 3)) (hp : pc + 3 = pc') (k : AW X G pc' (v0 :: v1 :: v2 :: v3 :: v4 :: v5 :: v6 :: v7 :: v8 :: some (.int (aI (x + n))) :: t) st Z Y) : AW X G pc (v0 :: v1 :: v2 :: v3 :: v4 :: v5 :: v6 :: v7 :: v8 :: some (.int (aI x)) :: t) st Z Y :=
  a_iincG hX (lv := v0 :: v1 :: v2 :: v3 :: v4 :: v5 :: v6 :: v7 :: v8 :: some (.int (aI x)) :: t) (x := x) rfl hn hdg hp (by intro j hj; have e : j = 8 := (by omega); subst e; exact hc) k
theorem a_iinc10 {X : aX} {G : aG} {own : String} {cc : ByteArray} {nL : Nat} {ret : Option FieldType} {fr lo : Nat} (hX : aOK X G own cc nL ret fr lo) {pc pc' : Nat} {st : List Value} {Z : aZ} {Y : aY} {v0 v1 v2 v3 v4 v5 v6 v7 v8 v9 : Option Value} {t : List (Option Value)} {n x : Int} (hn : 10 < nL) (hc : aC1 v9 = true) (hdg : decode cc pc = .ok (.iinc 10 n, 3)) (hp : pc + 3 = pc') (k : AW X G pc' (v0 :: v1 :: v2 :: v3 :: v4 :: v5 :: v6 :: v7 :: v8 :: v9 :: some (.int (aI (x + n))) :: t) st Z Y) : AW X G pc (v0 :: v1 :: v2 :: v3 :: v4 :: v5 :: v6 :: v7 :: v8 :: v9 :: some (.int (aI x)) :: t) st Z Y :=
  a_iincG hX (lv := v0 :: v1 :: v2 :: v3 :: v4 :: v5 :: v6 :: v7 :: v8 :: v9 :: some (.int (aI x)) :: t) (x := x) rfl hn hdg hp (by intro j hj; have e : j = 9 := (by omega); subst e; exact hc) k
theorem a_iinc11 {X : aX} {G : aG} {own : String} {cc : ByteArray} {nL : Nat} {ret : Option FieldType} {fr lo : Nat} (hX : aOK X G own cc nL ret fr lo) {pc pc' : Nat} {st : List Value} {Z : aZ} {Y : aY} {v0 v1 v2 v3 v4 v5 v6 v7 v8 v9 v10 : Option Value} {t : List (Option Value)} {n x : Int} (hn : 11 < nL) (hc : aC1 v10 = true) (hdg : decode cc pc = .ok (.iinc 11 n, 3)) (hp : pc + 3 = pc') (k : AW X G pc' (v0 :: v1 :: v2 :: v3 :: v4 :: v5 :: v6 :: v7 :: v8 :: v9 :: v10 :: some (.int (aI (x + n))) :: t) st Z Y) : AW X G pc (v0 :: v1 :: v2 :: v3 :: v4 :: v5 :: v6 :: v7 :: v8 :: v9 :: v10 :: some (.int (aI x)) :: t) st Z Y :=
  a_iincG hX (lv := v0 :: v1 :: v2 :: v3 :: v4 :: v5 :: v6 :: v7 :: v8 :: v9 :: v10 :: some (.int (aI x)) :: t) (x := x) rfl hn hdg hp (by intro j hj; have e : j = 10 := (by omega); subst e; exact hc) k
theorem a_iinc12 {X : aX} {G : aG} {own : String} {cc : ByteArray} {nL : Nat} {ret : Option FieldType} {fr lo : Nat} (hX : aOK X G own cc nL ret fr lo) {pc pc' : Nat} {st : List Value} {Z : aZ} {Y : aY} {v0 v1 v2 v3 v4 v5 v6 v7 v8 v9 v10 v11 : Option Value} {t : List (Option Value)} {n x : Int} (hn : 12 < nL) (hc : aC1 v11 = true) (hdg : decode cc pc = .ok (.iinc 12 n, 3)) (hp : pc + 3 = pc') (k : AW X G pc' (v0 :: v1 :: v2 :: v3 :: v4 :: v5 :: v6 :: v7 :: v8 :: v9 :: v10 :: v11 :: some (.int (aI (x + n))) :: t) st Z Y) : AW X G pc (v0 :: v1 :: v2 :: v3 :: v4 :: v5 :: v6 :: v7 :: v8 :: v9 :: v10 :: v11 :: some (.int (aI x)) :: t) st Z Y :=
  a_iincG hX (lv := v0 :: v1 :: v2 :: v3 :: v4 :: v5 :: v6 :: v7 :: v8 :: v9 :: v10 :: v11 :: some (.int (aI x)) :: t) (x := x) rfl hn hdg hp (by intro j hj; have e : j = 11 := (by omega); subst e; exact hc) k
theorem a_iinc13 {X : aX} {G : aG} {own : String} {cc : ByteArray} {nL : Nat} {ret : Option FieldType} {fr lo : Nat} (hX : aOK X G own cc nL ret fr lo) {pc pc' : Nat} {st : List Value} {Z : aZ} {Y : aY} {v0 v1 v2 v3 v4 v5 v6 v7 v8 v9 v10 v11 v12 : Option Value} {t : List (Option Value)} {n x : Int} (hn : 13 < nL) (hc : aC1 v12 = true) (hdg : decode cc pc = .ok (.iinc 13 n, 3)) (hp : pc + 3 = pc') (k : AW X G pc' (v0 :: v1 :: v2 :: v3 :: v4 :: v5 :: v6 :: v7 :: v8 :: v9 :: v10 :: v11 :: v12 :: some (.int (aI (x + n))) :: t) st Z Y) : AW X G pc (v0 :: v1 :: v2 :: v3 :: v4 :: v5 :: v6 :: v7 :: v8 :: v9 :: v10 :: v11 :: v12 :: some (.int (aI x)) :: t) st Z Y :=
  a_iincG hX (lv := v0 :: v1 :: v2 :: v3 :: v4 :: v5 :: v6 :: v7 :: v8 :: v9 :: v10 :: v11 :: v12 :: some (.int (aI x)) :: t) (x := x) rfl hn hdg hp (by intro j hj; have e : j = 12 := (by omega); subst e; exact hc) k
theorem a_iadd {X : aX} {G : aG} {own : String} {cc : ByteArray} {nL : Nat} {ret : Option FieldType} {fr lo : Nat} (hX : aOK X G own cc nL ret fr lo) {pc pc' : Nat} {lv : List (Option Value)} {st : List Value} {Z : aZ} {Y : aY} {x y : Int} (hdg : decode cc pc = .ok (.iadd, 1)) (hp : pc + 1 = pc') (k : AW X G pc' lv (.int (aI (x + y)) :: st) Z Y) : AW X G pc lv (.int (aI y) :: .int (aI x) :: st) Z Y := by
  obtain ⟨p, l, e, R, s, m, args, below, meth, c, A, cs, sl, Q⟩ := X
  obtain ⟨hx, hb, hml, hown, hts, hK, hA, hlk, hr, hR, hSt⟩ := hX
  subst hp
  intro H locs ls hL hP hD hS
  refine lv_iadd hx hb hdg ?_
  rw [aI_add]
  exact k H locs ls hL hP hD hS

theorem a_isub {X : aX} {G : aG} {own : String} {cc : ByteArray} {nL : Nat} {ret : Option FieldType} {fr lo : Nat} (hX : aOK X G own cc nL ret fr lo) {pc pc' : Nat} {lv : List (Option Value)} {st : List Value} {Z : aZ} {Y : aY} {x y : Int} (hdg : decode cc pc = .ok (.isub, 1)) (hp : pc + 1 = pc') (k : AW X G pc' lv (.int (aI (x - y)) :: st) Z Y) : AW X G pc lv (.int (aI y) :: .int (aI x) :: st) Z Y := by
  obtain ⟨p, l, e, R, s, m, args, below, meth, c, A, cs, sl, Q⟩ := X
  obtain ⟨hx, hb, hml, hown, hts, hK, hA, hlk, hr, hR, hSt⟩ := hX
  subst hp
  intro H locs ls hL hP hD hS
  refine lv_isub hx hb hdg ?_
  rw [aI_sub]
  exact k H locs ls hL hP hD hS

theorem a_imul {X : aX} {G : aG} {own : String} {cc : ByteArray} {nL : Nat} {ret : Option FieldType} {fr lo : Nat} (hX : aOK X G own cc nL ret fr lo) {pc pc' : Nat} {lv : List (Option Value)} {st : List Value} {Z : aZ} {Y : aY} {x y : Int} (hdg : decode cc pc = .ok (.imul, 1)) (hp : pc + 1 = pc') (k : AW X G pc' lv (.int (aI (x * y)) :: st) Z Y) : AW X G pc lv (.int (aI y) :: .int (aI x) :: st) Z Y := by
  obtain ⟨p, l, e, R, s, m, args, below, meth, c, A, cs, sl, Q⟩ := X
  obtain ⟨hx, hb, hml, hown, hts, hK, hA, hlk, hr, hR, hSt⟩ := hX
  subst hp
  intro H locs ls hL hP hD hS
  refine lv_imul hx hb hdg ?_
  rw [aI_mul]
  exact k H locs ls hL hP hD hS

theorem a_ineg {X : aX} {G : aG} {own : String} {cc : ByteArray} {nL : Nat} {ret : Option FieldType} {fr lo : Nat} (hX : aOK X G own cc nL ret fr lo) {pc pc' : Nat} {lv : List (Option Value)} {st : List Value} {Z : aZ} {Y : aY} {x : Int} (hdg : decode cc pc = .ok (.ineg, 1)) (hp : pc + 1 = pc') (k : AW X G pc' lv (.int (aI (-x)) :: st) Z Y) : AW X G pc lv (.int (aI x) :: st) Z Y := by
  obtain ⟨p, l, e, R, s, m, args, below, meth, c, A, cs, sl, Q⟩ := X
  obtain ⟨hx, hb, hml, hown, hts, hK, hA, hlk, hr, hR, hSt⟩ := hX
  subst hp
  intro H locs ls hL hP hD hS
  refine lv_ineg hx hb hdg ?_
  rw [aI_neg]
  exact k H locs ls hL hP hD hS

theorem a_idiv {X : aX} {G : aG} {own : String} {cc : ByteArray} {nL : Nat} {ret : Option FieldType} {fr lo : Nat} (hX : aOK X G own cc nL ret fr lo) {pc pc' : Nat} {lv : List (Option Value)} {st : List Value} {Z : aZ} {Y : aY} {x y : Int} (h1 : 0 ≤ x ∧ x < 2147483648) (h2 : 0 < y ∧ y < 2147483648) (hdg : decode cc pc = .ok (.idiv, 1)) (hp : pc + 1 = pc') (k : AW X G pc' lv (.int (aI (x / y)) :: st) Z Y) : AW X G pc lv (.int (aI y) :: .int (aI x) :: st) Z Y := by
  obtain ⟨p, l, e, R, s, m, args, below, meth, c, A, cs, sl, Q⟩ := X
  obtain ⟨hx, hb, hml, hown, hts, hK, hA, hlk, hr, hR, hSt⟩ := hX
  subst hp
  intro H locs ls hL hP hD hS
  refine lv_idiv hx hb hdg (aI_ne0 (by omega)) ?_
  rw [aI_div h1 h2]
  exact k H locs ls hL hP hD hS

theorem a_irem {X : aX} {G : aG} {own : String} {cc : ByteArray} {nL : Nat} {ret : Option FieldType} {fr lo : Nat} (hX : aOK X G own cc nL ret fr lo) {pc pc' : Nat} {lv : List (Option Value)} {st : List Value} {Z : aZ} {Y : aY} {x y : Int} (h1 : 0 ≤ x ∧ x < 2147483648) (h2 : 0 < y ∧ y < 2147483648) (hdg : decode cc pc = .ok (.irem, 1)) (hp : pc + 1 = pc') (k : AW X G pc' lv (.int (aI (x % y)) :: st) Z Y) : AW X G pc lv (.int (aI y) :: .int (aI x) :: st) Z Y := by
  obtain ⟨p, l, e, R, s, m, args, below, meth, c, A, cs, sl, Q⟩ := X
  obtain ⟨hx, hb, hml, hown, hts, hK, hA, hlk, hr, hR, hSt⟩ := hX
  subst hp
  intro H locs ls hL hP hD hS
  refine lv_irem hx hb hdg (aI_ne0 (by omega)) ?_
  rw [aI_rem h1 h2]
  exact k H locs ls hL hP hD hS

theorem a_ishl {X : aX} {G : aG} {own : String} {cc : ByteArray} {nL : Nat} {ret : Option FieldType} {fr lo : Nat} (hX : aOK X G own cc nL ret fr lo) {pc pc' : Nat} {lv : List (Option Value)} {st : List Value} {Z : aZ} {Y : aY} {x y : Int} (h1 : 0 ≤ x) (h2 : 0 ≤ y ∧ y < 31) (h3 : x * 2 ^ y.toNat < 2147483648) (hdg : decode cc pc = .ok (.ishl, 1)) (hp : pc + 1 = pc') (k : AW X G pc' lv (.int (aI (x * 2 ^ y.toNat)) :: st) Z Y) : AW X G pc lv (.int (aI y) :: .int (aI x) :: st) Z Y := by
  obtain ⟨p, l, e, R, s, m, args, below, meth, c, A, cs, sl, Q⟩ := X
  obtain ⟨hx, hb, hml, hown, hts, hK, hA, hlk, hr, hR, hSt⟩ := hX
  subst hp
  intro H locs ls hL hP hD hS
  refine lv_ishl hx hb hdg ?_
  rw [aI_shl h1 h2 h3]
  exact k H locs ls hL hP hD hS

theorem a_ishr {X : aX} {G : aG} {own : String} {cc : ByteArray} {nL : Nat} {ret : Option FieldType} {fr lo : Nat} (hX : aOK X G own cc nL ret fr lo) {pc pc' : Nat} {lv : List (Option Value)} {st : List Value} {Z : aZ} {Y : aY} {x y : Int} (h1 : 0 ≤ x ∧ x < 2147483648) (h2 : 0 ≤ y ∧ y < 32) (hdg : decode cc pc = .ok (.ishr, 1)) (hp : pc + 1 = pc') (k : AW X G pc' lv (.int (aI (x / 2 ^ y.toNat)) :: st) Z Y) : AW X G pc lv (.int (aI y) :: .int (aI x) :: st) Z Y := by
  obtain ⟨p, l, e, R, s, m, args, below, meth, c, A, cs, sl, Q⟩ := X
  obtain ⟨hx, hb, hml, hown, hts, hK, hA, hlk, hr, hR, hSt⟩ := hX
  subst hp
  intro H locs ls hL hP hD hS
  refine lv_ishr hx hb hdg ?_
  rw [aI_shr h1 h2]
  exact k H locs ls hL hP hD hS

theorem a_iand {X : aX} {G : aG} {own : String} {cc : ByteArray} {nL : Nat} {ret : Option FieldType} {fr lo : Nat} (hX : aOK X G own cc nL ret fr lo) {pc pc' : Nat} {lv : List (Option Value)} {st : List Value} {Z : aZ} {Y : aY} {x y : Int} (h1 : 0 ≤ x) (h2 : 0 ≤ y) (hdg : decode cc pc = .ok (.iand, 1)) (hp : pc + 1 = pc') (k : AW X G pc' lv (.int (aI (aAnd x y)) :: st) Z Y) : AW X G pc lv (.int (aI y) :: .int (aI x) :: st) Z Y := by
  obtain ⟨p, l, e, R, s, m, args, below, meth, c, A, cs, sl, Q⟩ := X
  obtain ⟨hx, hb, hml, hown, hts, hK, hA, hlk, hr, hR, hSt⟩ := hX
  subst hp
  intro H locs ls hL hP hD hS
  refine lv_iand hx hb hdg ?_
  rw [aI_and h1 h2]
  exact k H locs ls hL hP hD hS

theorem a_ior {X : aX} {G : aG} {own : String} {cc : ByteArray} {nL : Nat} {ret : Option FieldType} {fr lo : Nat} (hX : aOK X G own cc nL ret fr lo) {pc pc' : Nat} {lv : List (Option Value)} {st : List Value} {Z : aZ} {Y : aY} {x y : Int} (h1 : 0 ≤ x) (h2 : 0 ≤ y) (hdg : decode cc pc = .ok (.ior, 1)) (hp : pc + 1 = pc') (k : AW X G pc' lv (.int (aI (aOr x y)) :: st) Z Y) : AW X G pc lv (.int (aI y) :: .int (aI x) :: st) Z Y := by
  obtain ⟨p, l, e, R, s, m, args, below, meth, c, A, cs, sl, Q⟩ := X
  obtain ⟨hx, hb, hml, hown, hts, hK, hA, hlk, hr, hR, hSt⟩ := hX
  subst hp
  intro H locs ls hL hP hD hS
  refine lv_ior hx hb hdg ?_
  rw [aI_or h1 h2]
  exact k H locs ls hL hP hD hS

theorem a_iand32 {X : aX} {G : aG} {own : String} {cc : ByteArray} {nL : Nat} {ret : Option FieldType} {fr lo : Nat} (hX : aOK X G own cc nL ret fr lo) {pc pc' : Nat} {lv : List (Option Value)} {st : List Value} {Z : aZ} {Y : aY} {x y : Int32} (hdg : decode cc pc = .ok (.iand, 1)) (hp : pc + 1 = pc') (k : AW X G pc' lv (.int (x &&& y) :: st) Z Y) : AW X G pc lv (.int y :: .int x :: st) Z Y := by
  obtain ⟨p, l, e, R, s, m, args, below, meth, c, A, cs, sl, Q⟩ := X
  obtain ⟨hx, hb, hml, hown, hts, hK, hA, hlk, hr, hR, hSt⟩ := hX
  subst hp
  intro H locs ls hL hP hD hS
  refine lv_iand hx hb hdg ?_
  exact k H locs ls hL hP hD hS

theorem a_ior32 {X : aX} {G : aG} {own : String} {cc : ByteArray} {nL : Nat} {ret : Option FieldType} {fr lo : Nat} (hX : aOK X G own cc nL ret fr lo) {pc pc' : Nat} {lv : List (Option Value)} {st : List Value} {Z : aZ} {Y : aY} {x y : Int32} (hdg : decode cc pc = .ok (.ior, 1)) (hp : pc + 1 = pc') (k : AW X G pc' lv (.int (x ||| y) :: st) Z Y) : AW X G pc lv (.int y :: .int x :: st) Z Y := by
  obtain ⟨p, l, e, R, s, m, args, below, meth, c, A, cs, sl, Q⟩ := X
  obtain ⟨hx, hb, hml, hown, hts, hK, hA, hlk, hr, hR, hSt⟩ := hX
  subst hp
  intro H locs ls hL hP hD hS
  refine lv_ior hx hb hdg ?_
  exact k H locs ls hL hP hD hS

theorem a_ixor32 {X : aX} {G : aG} {own : String} {cc : ByteArray} {nL : Nat} {ret : Option FieldType} {fr lo : Nat} (hX : aOK X G own cc nL ret fr lo) {pc pc' : Nat} {lv : List (Option Value)} {st : List Value} {Z : aZ} {Y : aY} {x y : Int32} (hdg : decode cc pc = .ok (.ixor, 1)) (hp : pc + 1 = pc') (k : AW X G pc' lv (.int (x ^^^ y) :: st) Z Y) : AW X G pc lv (.int y :: .int x :: st) Z Y := by
  obtain ⟨p, l, e, R, s, m, args, below, meth, c, A, cs, sl, Q⟩ := X
  obtain ⟨hx, hb, hml, hown, hts, hK, hA, hlk, hr, hR, hSt⟩ := hX
  subst hp
  intro H locs ls hL hP hD hS
  refine lv_ixor hx hb hdg ?_
  exact k H locs ls hL hP hD hS

theorem a_dup {X : aX} {G : aG} {own : String} {cc : ByteArray} {nL : Nat} {ret : Option FieldType} {fr lo : Nat} (hX : aOK X G own cc nL ret fr lo) {pc pc' : Nat} {lv : List (Option Value)} {st : List Value} {Z : aZ} {Y : aY} {v : Value} (hv : v.category = 1) (hdg : decode cc pc = .ok (.dup, 1)) (hp : pc + 1 = pc') (k : AW X G pc' lv (v :: v :: st) Z Y) : AW X G pc lv (v :: st) Z Y := by
  obtain ⟨p, l, e, R, s, m, args, below, meth, c, A, cs, sl, Q⟩ := X
  obtain ⟨hx, hb, hml, hown, hts, hK, hA, hlk, hr, hR, hSt⟩ := hX
  subst hp
  intro H locs ls hL hP hD hS
  refine lv_dup hx hb hdg hv ?_
  exact k H locs ls hL hP hD hS

theorem a_pop {X : aX} {G : aG} {own : String} {cc : ByteArray} {nL : Nat} {ret : Option FieldType} {fr lo : Nat} (hX : aOK X G own cc nL ret fr lo) {pc pc' : Nat} {lv : List (Option Value)} {st : List Value} {Z : aZ} {Y : aY} {v : Value} (hv : v.category = 1) (hdg : decode cc pc = .ok (.pop, 1)) (hp : pc + 1 = pc') (k : AW X G pc' lv (st) Z Y) : AW X G pc lv (v :: st) Z Y := by
  obtain ⟨p, l, e, R, s, m, args, below, meth, c, A, cs, sl, Q⟩ := X
  obtain ⟨hx, hb, hml, hown, hts, hK, hA, hlk, hr, hR, hSt⟩ := hX
  subst hp
  intro H locs ls hL hP hD hS
  refine lv_pop hx hb hdg hv ?_
  exact k H locs ls hL hP hD hS

theorem a_dup2 {X : aX} {G : aG} {own : String} {cc : ByteArray} {nL : Nat} {ret : Option FieldType} {fr lo : Nat} (hX : aOK X G own cc nL ret fr lo) {pc pc' : Nat} {lv : List (Option Value)} {st : List Value} {Z : aZ} {Y : aY} {v u : Value} (hv : v.category = 1) (hu : u.category = 1) (hdg : decode cc pc = .ok (.dup2, 1)) (hp : pc + 1 = pc') (k : AW X G pc' lv (v :: u :: v :: u :: st) Z Y) : AW X G pc lv (v :: u :: st) Z Y := by
  obtain ⟨p, l, e, R, s, m, args, below, meth, c, A, cs, sl, Q⟩ := X
  obtain ⟨hx, hb, hml, hown, hts, hK, hA, hlk, hr, hR, hSt⟩ := hX
  subst hp
  intro H locs ls hL hP hD hS
  refine lv_dup2_11 hx hb hdg hv hu ?_
  exact k H locs ls hL hP hD hS

theorem a_dup_x1 {X : aX} {G : aG} {own : String} {cc : ByteArray} {nL : Nat} {ret : Option FieldType} {fr lo : Nat} (hX : aOK X G own cc nL ret fr lo) {pc pc' : Nat} {lv : List (Option Value)} {st : List Value} {Z : aZ} {Y : aY} {v u : Value} (hv : v.category = 1) (hu : u.category = 1) (hdg : decode cc pc = .ok (.dup_x1, 1)) (hp : pc + 1 = pc') (k : AW X G pc' lv (v :: u :: v :: st) Z Y) : AW X G pc lv (v :: u :: st) Z Y := by
  obtain ⟨p, l, e, R, s, m, args, below, meth, c, A, cs, sl, Q⟩ := X
  obtain ⟨hx, hb, hml, hown, hts, hK, hA, hlk, hr, hR, hSt⟩ := hX
  subst hp
  intro H locs ls hL hP hD hS
  refine lv_dup_x1 hx hb hdg hv hu ?_
  exact k H locs ls hL hP hD hS

theorem a_icmp_eq {X : aX} {G : aG} {own : String} {cc : ByteArray} {nL : Nat} {ret : Option FieldType} {fr lo : Nat} (hX : aOK X G own cc nL ret fr lo) {pc pc' : Nat} {lv : List (Option Value)} {st : List Value} {Z : aZ} {Y : aY} {x y off : Int} {tgt : Nat} (hrx : -2147483648 ≤ x ∧ x < 2147483648) (hry : -2147483648 ≤ y ∧ y < 2147483648) (hdg : decode cc pc = .ok (.if_icmp .eq off, 3)) (hp : pc + 3 = pc') (ht : (pc : Int) + off = (tgt : Int)) (kt : x = y → AW X G tgt lv st Z Y) (kf : x ≠ y → AW X G pc' lv st Z Y) : AW X G pc lv (.int (aI y) :: .int (aI x) :: st) Z Y := by
  obtain ⟨p, l, e, R, s, m, args, below, meth, c, A, cs, sl, Q⟩ := X
  obtain ⟨hx, hb, hml, hown, hts, hK, hA, hlk, hr, hR, hSt⟩ := hX
  subst hp
  intro H locs ls hL hP hD hS
  have e0 : (0 : Int32) = aI 0 := rfl
  refine lv_icmp_eq hx hb hdg ht (fun h => ?_) (fun h => ?_)
  · refine kt ?_ H locs ls hL hP hD hS
    simp only [e0, ne_eq, ge_iff_le, gt_iff_lt, aI_lt hrx hry, aI_le hrx hry, aI_inj hrx hry, aI_lt hry hrx, aI_le hry hrx, Int.not_lt, Int.not_le, Decidable.not_not] at h ⊢
    first | exact h | omega
  · refine kf ?_ H locs ls hL hP hD hS
    simp only [e0, ne_eq, ge_iff_le, gt_iff_lt, aI_lt hrx hry, aI_le hrx hry, aI_inj hrx hry, aI_lt hry hrx, aI_le hry hrx, Int.not_lt, Int.not_le, Decidable.not_not] at h ⊢
    first | exact h | omega
theorem a_if_eq {X : aX} {G : aG} {own : String} {cc : ByteArray} {nL : Nat} {ret : Option FieldType} {fr lo : Nat} (hX : aOK X G own cc nL ret fr lo) {pc pc' : Nat} {lv : List (Option Value)} {st : List Value} {Z : aZ} {Y : aY} {x off : Int} {tgt : Nat} (hrx : -2147483648 ≤ x ∧ x < 2147483648) (hdg : decode cc pc = .ok (.ifCond .eq off, 3)) (hp : pc + 3 = pc') (ht : (pc : Int) + off = (tgt : Int)) (kt : x = 0 → AW X G tgt lv st Z Y) (kf : x ≠ 0 → AW X G pc' lv st Z Y) : AW X G pc lv (.int (aI x) :: st) Z Y := by
  obtain ⟨p, l, e, R, s, m, args, below, meth, c, A, cs, sl, Q⟩ := X
  obtain ⟨hx, hb, hml, hown, hts, hK, hA, hlk, hr, hR, hSt⟩ := hX
  subst hp
  intro H locs ls hL hP hD hS
  have e0 : (0 : Int32) = aI 0 := rfl
  refine lv_if_eq hx hb hdg ht (fun h => ?_) (fun h => ?_)
  · refine kt ?_ H locs ls hL hP hD hS
    simp only [e0, ne_eq, ge_iff_le, gt_iff_lt, aI_lt hrx (show -2147483648 ≤ (0 : Int) ∧ (0 : Int) < 2147483648 by omega), aI_le hrx (show -2147483648 ≤ (0 : Int) ∧ (0 : Int) < 2147483648 by omega), aI_inj hrx (show -2147483648 ≤ (0 : Int) ∧ (0 : Int) < 2147483648 by omega), aI_lt (show -2147483648 ≤ (0 : Int) ∧ (0 : Int) < 2147483648 by omega) hrx, aI_le (show -2147483648 ≤ (0 : Int) ∧ (0 : Int) < 2147483648 by omega) hrx, Int.not_lt, Int.not_le, Decidable.not_not] at h ⊢
    first | exact h | omega
  · refine kf ?_ H locs ls hL hP hD hS
    simp only [e0, ne_eq, ge_iff_le, gt_iff_lt, aI_lt hrx (show -2147483648 ≤ (0 : Int) ∧ (0 : Int) < 2147483648 by omega), aI_le hrx (show -2147483648 ≤ (0 : Int) ∧ (0 : Int) < 2147483648 by omega), aI_inj hrx (show -2147483648 ≤ (0 : Int) ∧ (0 : Int) < 2147483648 by omega), aI_lt (show -2147483648 ≤ (0 : Int) ∧ (0 : Int) < 2147483648 by omega) hrx, aI_le (show -2147483648 ≤ (0 : Int) ∧ (0 : Int) < 2147483648 by omega) hrx, Int.not_lt, Int.not_le, Decidable.not_not] at h ⊢
    first | exact h | omega
theorem a_icmp_ne {X : aX} {G : aG} {own : String} {cc : ByteArray} {nL : Nat} {ret : Option FieldType} {fr lo : Nat} (hX : aOK X G own cc nL ret fr lo) {pc pc' : Nat} {lv : List (Option Value)} {st : List Value} {Z : aZ} {Y : aY} {x y off : Int} {tgt : Nat} (hrx : -2147483648 ≤ x ∧ x < 2147483648) (hry : -2147483648 ≤ y ∧ y < 2147483648) (hdg : decode cc pc = .ok (.if_icmp .ne off, 3)) (hp : pc + 3 = pc') (ht : (pc : Int) + off = (tgt : Int)) (kt : x ≠ y → AW X G tgt lv st Z Y) (kf : x = y → AW X G pc' lv st Z Y) : AW X G pc lv (.int (aI y) :: .int (aI x) :: st) Z Y := by
  obtain ⟨p, l, e, R, s, m, args, below, meth, c, A, cs, sl, Q⟩ := X
  obtain ⟨hx, hb, hml, hown, hts, hK, hA, hlk, hr, hR, hSt⟩ := hX
  subst hp
  intro H locs ls hL hP hD hS
  have e0 : (0 : Int32) = aI 0 := rfl
  refine lv_icmp_ne hx hb hdg ht (fun h => ?_) (fun h => ?_)
  · refine kt ?_ H locs ls hL hP hD hS
    simp only [e0, ne_eq, ge_iff_le, gt_iff_lt, aI_lt hrx hry, aI_le hrx hry, aI_inj hrx hry, aI_lt hry hrx, aI_le hry hrx, Int.not_lt, Int.not_le, Decidable.not_not] at h ⊢
    first | exact h | omega
  · refine kf ?_ H locs ls hL hP hD hS
    simp only [e0, ne_eq, ge_iff_le, gt_iff_lt, aI_lt hrx hry, aI_le hrx hry, aI_inj hrx hry, aI_lt hry hrx, aI_le hry hrx, Int.not_lt, Int.not_le, Decidable.not_not] at h ⊢
    first | exact h | omega
theorem a_if_ne {X : aX} {G : aG} {own : String} {cc : ByteArray} {nL : Nat} {ret : Option FieldType} {fr lo : Nat} (hX : aOK X G own cc nL ret fr lo) {pc pc' : Nat} {lv : List (Option Value)} {st : List Value} {Z : aZ} {Y : aY} {x off : Int} {tgt : Nat} (hrx : -2147483648 ≤ x ∧ x < 2147483648) (hdg : decode cc pc = .ok (.ifCond .ne off, 3)) (hp : pc + 3 = pc') (ht : (pc : Int) + off = (tgt : Int)) (kt : x ≠ 0 → AW X G tgt lv st Z Y) (kf : x = 0 → AW X G pc' lv st Z Y) : AW X G pc lv (.int (aI x) :: st) Z Y := by
  obtain ⟨p, l, e, R, s, m, args, below, meth, c, A, cs, sl, Q⟩ := X
  obtain ⟨hx, hb, hml, hown, hts, hK, hA, hlk, hr, hR, hSt⟩ := hX
  subst hp
  intro H locs ls hL hP hD hS
  have e0 : (0 : Int32) = aI 0 := rfl
  refine lv_if_ne hx hb hdg ht (fun h => ?_) (fun h => ?_)
  · refine kt ?_ H locs ls hL hP hD hS
    simp only [e0, ne_eq, ge_iff_le, gt_iff_lt, aI_lt hrx (show -2147483648 ≤ (0 : Int) ∧ (0 : Int) < 2147483648 by omega), aI_le hrx (show -2147483648 ≤ (0 : Int) ∧ (0 : Int) < 2147483648 by omega), aI_inj hrx (show -2147483648 ≤ (0 : Int) ∧ (0 : Int) < 2147483648 by omega), aI_lt (show -2147483648 ≤ (0 : Int) ∧ (0 : Int) < 2147483648 by omega) hrx, aI_le (show -2147483648 ≤ (0 : Int) ∧ (0 : Int) < 2147483648 by omega) hrx, Int.not_lt, Int.not_le, Decidable.not_not] at h ⊢
    first | exact h | omega
  · refine kf ?_ H locs ls hL hP hD hS
    simp only [e0, ne_eq, ge_iff_le, gt_iff_lt, aI_lt hrx (show -2147483648 ≤ (0 : Int) ∧ (0 : Int) < 2147483648 by omega), aI_le hrx (show -2147483648 ≤ (0 : Int) ∧ (0 : Int) < 2147483648 by omega), aI_inj hrx (show -2147483648 ≤ (0 : Int) ∧ (0 : Int) < 2147483648 by omega), aI_lt (show -2147483648 ≤ (0 : Int) ∧ (0 : Int) < 2147483648 by omega) hrx, aI_le (show -2147483648 ≤ (0 : Int) ∧ (0 : Int) < 2147483648 by omega) hrx, Int.not_lt, Int.not_le, Decidable.not_not] at h ⊢
    first | exact h | omega
theorem a_icmp_lt {X : aX} {G : aG} {own : String} {cc : ByteArray} {nL : Nat} {ret : Option FieldType} {fr lo : Nat} (hX : aOK X G own cc nL ret fr lo) {pc pc' : Nat} {lv : List (Option Value)} {st : List Value} {Z : aZ} {Y : aY} {x y off : Int} {tgt : Nat} (hrx : -2147483648 ≤ x ∧ x < 2147483648) (hry : -2147483648 ≤ y ∧ y < 2147483648) (hdg : decode cc pc = .ok (.if_icmp .lt off, 3)) (hp : pc + 3 = pc') (ht : (pc : Int) + off = (tgt : Int)) (kt : x < y → AW X G tgt lv st Z Y) (kf : y ≤ x → AW X G pc' lv st Z Y) : AW X G pc lv (.int (aI y) :: .int (aI x) :: st) Z Y := by
  obtain ⟨p, l, e, R, s, m, args, below, meth, c, A, cs, sl, Q⟩ := X
  obtain ⟨hx, hb, hml, hown, hts, hK, hA, hlk, hr, hR, hSt⟩ := hX
  subst hp
  intro H locs ls hL hP hD hS
  have e0 : (0 : Int32) = aI 0 := rfl
  refine lv_icmp_lt hx hb hdg ht (fun h => ?_) (fun h => ?_)
  · refine kt ?_ H locs ls hL hP hD hS
    simp only [e0, ne_eq, ge_iff_le, gt_iff_lt, aI_lt hrx hry, aI_le hrx hry, aI_inj hrx hry, aI_lt hry hrx, aI_le hry hrx, Int.not_lt, Int.not_le, Decidable.not_not] at h ⊢
    first | exact h | omega
  · refine kf ?_ H locs ls hL hP hD hS
    simp only [e0, ne_eq, ge_iff_le, gt_iff_lt, aI_lt hrx hry, aI_le hrx hry, aI_inj hrx hry, aI_lt hry hrx, aI_le hry hrx, Int.not_lt, Int.not_le, Decidable.not_not] at h ⊢
    first | exact h | omega
theorem a_if_lt {X : aX} {G : aG} {own : String} {cc : ByteArray} {nL : Nat} {ret : Option FieldType} {fr lo : Nat} (hX : aOK X G own cc nL ret fr lo) {pc pc' : Nat} {lv : List (Option Value)} {st : List Value} {Z : aZ} {Y : aY} {x off : Int} {tgt : Nat} (hrx : -2147483648 ≤ x ∧ x < 2147483648) (hdg : decode cc pc = .ok (.ifCond .lt off, 3)) (hp : pc + 3 = pc') (ht : (pc : Int) + off = (tgt : Int)) (kt : x < 0 → AW X G tgt lv st Z Y) (kf : 0 ≤ x → AW X G pc' lv st Z Y) : AW X G pc lv (.int (aI x) :: st) Z Y := by
  obtain ⟨p, l, e, R, s, m, args, below, meth, c, A, cs, sl, Q⟩ := X
  obtain ⟨hx, hb, hml, hown, hts, hK, hA, hlk, hr, hR, hSt⟩ := hX
  subst hp
  intro H locs ls hL hP hD hS
  have e0 : (0 : Int32) = aI 0 := rfl
  refine lv_if_lt hx hb hdg ht (fun h => ?_) (fun h => ?_)
  · refine kt ?_ H locs ls hL hP hD hS
    simp only [e0, ne_eq, ge_iff_le, gt_iff_lt, aI_lt hrx (show -2147483648 ≤ (0 : Int) ∧ (0 : Int) < 2147483648 by omega), aI_le hrx (show -2147483648 ≤ (0 : Int) ∧ (0 : Int) < 2147483648 by omega), aI_inj hrx (show -2147483648 ≤ (0 : Int) ∧ (0 : Int) < 2147483648 by omega), aI_lt (show -2147483648 ≤ (0 : Int) ∧ (0 : Int) < 2147483648 by omega) hrx, aI_le (show -2147483648 ≤ (0 : Int) ∧ (0 : Int) < 2147483648 by omega) hrx, Int.not_lt, Int.not_le, Decidable.not_not] at h ⊢
    first | exact h | omega
  · refine kf ?_ H locs ls hL hP hD hS
    simp only [e0, ne_eq, ge_iff_le, gt_iff_lt, aI_lt hrx (show -2147483648 ≤ (0 : Int) ∧ (0 : Int) < 2147483648 by omega), aI_le hrx (show -2147483648 ≤ (0 : Int) ∧ (0 : Int) < 2147483648 by omega), aI_inj hrx (show -2147483648 ≤ (0 : Int) ∧ (0 : Int) < 2147483648 by omega), aI_lt (show -2147483648 ≤ (0 : Int) ∧ (0 : Int) < 2147483648 by omega) hrx, aI_le (show -2147483648 ≤ (0 : Int) ∧ (0 : Int) < 2147483648 by omega) hrx, Int.not_lt, Int.not_le, Decidable.not_not] at h ⊢
    first | exact h | omega
theorem a_icmp_ge {X : aX} {G : aG} {own : String} {cc : ByteArray} {nL : Nat} {ret : Option FieldType} {fr lo : Nat} (hX : aOK X G own cc nL ret fr lo) {pc pc' : Nat} {lv : List (Option Value)} {st : List Value} {Z : aZ} {Y : aY} {x y off : Int} {tgt : Nat} (hrx : -2147483648 ≤ x ∧ x < 2147483648) (hry : -2147483648 ≤ y ∧ y < 2147483648) (hdg : decode cc pc = .ok (.if_icmp .ge off, 3)) (hp : pc + 3 = pc') (ht : (pc : Int) + off = (tgt : Int)) (kt : y ≤ x → AW X G tgt lv st Z Y) (kf : x < y → AW X G pc' lv st Z Y) : AW X G pc lv (.int (aI y) :: .int (aI x) :: st) Z Y := by
  obtain ⟨p, l, e, R, s, m, args, below, meth, c, A, cs, sl, Q⟩ := X
  obtain ⟨hx, hb, hml, hown, hts, hK, hA, hlk, hr, hR, hSt⟩ := hX
  subst hp
  intro H locs ls hL hP hD hS
  have e0 : (0 : Int32) = aI 0 := rfl
  refine lv_icmp_ge hx hb hdg ht (fun h => ?_) (fun h => ?_)
  · refine kt ?_ H locs ls hL hP hD hS
    simp only [e0, ne_eq, ge_iff_le, gt_iff_lt, aI_lt hrx hry, aI_le hrx hry, aI_inj hrx hry, aI_lt hry hrx, aI_le hry hrx, Int.not_lt, Int.not_le, Decidable.not_not] at h ⊢
    first | exact h | omega
  · refine kf ?_ H locs ls hL hP hD hS
    simp only [e0, ne_eq, ge_iff_le, gt_iff_lt, aI_lt hrx hry, aI_le hrx hry, aI_inj hrx hry, aI_lt hry hrx, aI_le hry hrx, Int.not_lt, Int.not_le, Decidable.not_not] at h ⊢
    first | exact h | omega
theorem a_if_ge {X : aX} {G : aG} {own : String} {cc : ByteArray} {nL : Nat} {ret : Option FieldType} {fr lo : Nat} (hX : aOK X G own cc nL ret fr lo) {pc pc' : Nat} {lv : List (Option Value)} {st : List Value} {Z : aZ} {Y : aY} {x off : Int} {tgt : Nat} (hrx : -2147483648 ≤ x ∧ x < 2147483648) (hdg : decode cc pc = .ok (.ifCond .ge off, 3)) (hp : pc + 3 = pc') (ht : (pc : Int) + off = (tgt : Int)) (kt : 0 ≤ x → AW X G tgt lv st Z Y) (kf : x < 0 → AW X G pc' lv st Z Y) : AW X G pc lv (.int (aI x) :: st) Z Y := by
  obtain ⟨p, l, e, R, s, m, args, below, meth, c, A, cs, sl, Q⟩ := X
  obtain ⟨hx, hb, hml, hown, hts, hK, hA, hlk, hr, hR, hSt⟩ := hX
  subst hp
  intro H locs ls hL hP hD hS
  have e0 : (0 : Int32) = aI 0 := rfl
  refine lv_if_ge hx hb hdg ht (fun h => ?_) (fun h => ?_)
  · refine kt ?_ H locs ls hL hP hD hS
    simp only [e0, ne_eq, ge_iff_le, gt_iff_lt, aI_lt hrx (show -2147483648 ≤ (0 : Int) ∧ (0 : Int) < 2147483648 by omega), aI_le hrx (show -2147483648 ≤ (0 : Int) ∧ (0 : Int) < 2147483648 by omega), aI_inj hrx (show -2147483648 ≤ (0 : Int) ∧ (0 : Int) < 2147483648 by omega), aI_lt (show -2147483648 ≤ (0 : Int) ∧ (0 : Int) < 2147483648 by omega) hrx, aI_le (show -2147483648 ≤ (0 : Int) ∧ (0 : Int) < 2147483648 by omega) hrx, Int.not_lt, Int.not_le, Decidable.not_not] at h ⊢
    first | exact h | omega
  · refine kf ?_ H locs ls hL hP hD hS
    simp only [e0, ne_eq, ge_iff_le, gt_iff_lt, aI_lt hrx (show -2147483648 ≤ (0 : Int) ∧ (0 : Int) < 2147483648 by omega), aI_le hrx (show -2147483648 ≤ (0 : Int) ∧ (0 : Int) < 2147483648 by omega), aI_inj hrx (show -2147483648 ≤ (0 : Int) ∧ (0 : Int) < 2147483648 by omega), aI_lt (show -2147483648 ≤ (0 : Int) ∧ (0 : Int) < 2147483648 by omega) hrx, aI_le (show -2147483648 ≤ (0 : Int) ∧ (0 : Int) < 2147483648 by omega) hrx, Int.not_lt, Int.not_le, Decidable.not_not] at h ⊢
    first | exact h | omega
theorem a_icmp_gt {X : aX} {G : aG} {own : String} {cc : ByteArray} {nL : Nat} {ret : Option FieldType} {fr lo : Nat} (hX : aOK X G own cc nL ret fr lo) {pc pc' : Nat} {lv : List (Option Value)} {st : List Value} {Z : aZ} {Y : aY} {x y off : Int} {tgt : Nat} (hrx : -2147483648 ≤ x ∧ x < 2147483648) (hry : -2147483648 ≤ y ∧ y < 2147483648) (hdg : decode cc pc = .ok (.if_icmp .gt off, 3)) (hp : pc + 3 = pc') (ht : (pc : Int) + off = (tgt : Int)) (kt : y < x → AW X G tgt lv st Z Y) (kf : x ≤ y → AW X G pc' lv st Z Y) : AW X G pc lv (.int (aI y) :: .int (aI x) :: st) Z Y := by
  obtain ⟨p, l, e, R, s, m, args, below, meth, c, A, cs, sl, Q⟩ := X
  obtain ⟨hx, hb, hml, hown, hts, hK, hA, hlk, hr, hR, hSt⟩ := hX
  subst hp
  intro H locs ls hL hP hD hS
  have e0 : (0 : Int32) = aI 0 := rfl
  refine lv_icmp_gt hx hb hdg ht (fun h => ?_) (fun h => ?_)
  · refine kt ?_ H locs ls hL hP hD hS
    simp only [e0, ne_eq, ge_iff_le, gt_iff_lt, aI_lt hrx hry, aI_le hrx hry, aI_inj hrx hry, aI_lt hry hrx, aI_le hry hrx, Int.not_lt, Int.not_le, Decidable.not_not] at h ⊢
    first | exact h | omega
  · refine kf ?_ H locs ls hL hP hD hS
    simp only [e0, ne_eq, ge_iff_le, gt_iff_lt, aI_lt hrx hry, aI_le hrx hry, aI_inj hrx hry, aI_lt hry hrx, aI_le hry hrx, Int.not_lt, Int.not_le, Decidable.not_not] at h ⊢
    first | exact h | omega
theorem a_if_gt {X : aX} {G : aG} {own : String} {cc : ByteArray} {nL : Nat} {ret : Option FieldType} {fr lo : Nat} (hX : aOK X G own cc nL ret fr lo) {pc pc' : Nat} {lv : List (Option Value)} {st : List Value} {Z : aZ} {Y : aY} {x off : Int} {tgt : Nat} (hrx : -2147483648 ≤ x ∧ x < 2147483648) (hdg : decode cc pc = .ok (.ifCond .gt off, 3)) (hp : pc + 3 = pc') (ht : (pc : Int) + off = (tgt : Int)) (kt : 0 < x → AW X G tgt lv st Z Y) (kf : x ≤ 0 → AW X G pc' lv st Z Y) : AW X G pc lv (.int (aI x) :: st) Z Y := by
  obtain ⟨p, l, e, R, s, m, args, below, meth, c, A, cs, sl, Q⟩ := X
  obtain ⟨hx, hb, hml, hown, hts, hK, hA, hlk, hr, hR, hSt⟩ := hX
  subst hp
  intro H locs ls hL hP hD hS
  have e0 : (0 : Int32) = aI 0 := rfl
  refine lv_if_gt hx hb hdg ht (fun h => ?_) (fun h => ?_)
  · refine kt ?_ H locs ls hL hP hD hS
    simp only [e0, ne_eq, ge_iff_le, gt_iff_lt, aI_lt hrx (show -2147483648 ≤ (0 : Int) ∧ (0 : Int) < 2147483648 by omega), aI_le hrx (show -2147483648 ≤ (0 : Int) ∧ (0 : Int) < 2147483648 by omega), aI_inj hrx (show -2147483648 ≤ (0 : Int) ∧ (0 : Int) < 2147483648 by omega), aI_lt (show -2147483648 ≤ (0 : Int) ∧ (0 : Int) < 2147483648 by omega) hrx, aI_le (show -2147483648 ≤ (0 : Int) ∧ (0 : Int) < 2147483648 by omega) hrx, Int.not_lt, Int.not_le, Decidable.not_not] at h ⊢
    first | exact h | omega
  · refine kf ?_ H locs ls hL hP hD hS
    simp only [e0, ne_eq, ge_iff_le, gt_iff_lt, aI_lt hrx (show -2147483648 ≤ (0 : Int) ∧ (0 : Int) < 2147483648 by omega), aI_le hrx (show -2147483648 ≤ (0 : Int) ∧ (0 : Int) < 2147483648 by omega), aI_inj hrx (show -2147483648 ≤ (0 : Int) ∧ (0 : Int) < 2147483648 by omega), aI_lt (show -2147483648 ≤ (0 : Int) ∧ (0 : Int) < 2147483648 by omega) hrx, aI_le (show -2147483648 ≤ (0 : Int) ∧ (0 : Int) < 2147483648 by omega) hrx, Int.not_lt, Int.not_le, Decidable.not_not] at h ⊢
    first | exact h | omega
theorem a_icmp_le {X : aX} {G : aG} {own : String} {cc : ByteArray} {nL : Nat} {ret : Option FieldType} {fr lo : Nat} (hX : aOK X G own cc nL ret fr lo) {pc pc' : Nat} {lv : List (Option Value)} {st : List Value} {Z : aZ} {Y : aY} {x y off : Int} {tgt : Nat} (hrx : -2147483648 ≤ x ∧ x < 2147483648) (hry : -2147483648 ≤ y ∧ y < 2147483648) (hdg : decode cc pc = .ok (.if_icmp .le off, 3)) (hp : pc + 3 = pc') (ht : (pc : Int) + off = (tgt : Int)) (kt : x ≤ y → AW X G tgt lv st Z Y) (kf : y < x → AW X G pc' lv st Z Y) : AW X G pc lv (.int (aI y) :: .int (aI x) :: st) Z Y := by
  obtain ⟨p, l, e, R, s, m, args, below, meth, c, A, cs, sl, Q⟩ := X
  obtain ⟨hx, hb, hml, hown, hts, hK, hA, hlk, hr, hR, hSt⟩ := hX
  subst hp
  intro H locs ls hL hP hD hS
  have e0 : (0 : Int32) = aI 0 := rfl
  refine lv_icmp_le hx hb hdg ht (fun h => ?_) (fun h => ?_)
  · refine kt ?_ H locs ls hL hP hD hS
    simp only [e0, ne_eq, ge_iff_le, gt_iff_lt, aI_lt hrx hry, aI_le hrx hry, aI_inj hrx hry, aI_lt hry hrx, aI_le hry hrx, Int.not_lt, Int.not_le, Decidable.not_not] at h ⊢
    first | exact h | omega
  · refine kf ?_ H locs ls hL hP hD hS
    simp only [e0, ne_eq, ge_iff_le, gt_iff_lt, aI_lt hrx hry, aI_le hrx hry, aI_inj hrx hry, aI_lt hry hrx, aI_le hry hrx, Int.not_lt, Int.not_le, Decidable.not_not] at h ⊢
    first | exact h | omega
theorem a_if_le {X : aX} {G : aG} {own : String} {cc : ByteArray} {nL : Nat} {ret : Option FieldType} {fr lo : Nat} (hX : aOK X G own cc nL ret fr lo) {pc pc' : Nat} {lv : List (Option Value)} {st : List Value} {Z : aZ} {Y : aY} {x off : Int} {tgt : Nat} (hrx : -2147483648 ≤ x ∧ x < 2147483648) (hdg : decode cc pc = .ok (.ifCond .le off, 3)) (hp : pc + 3 = pc') (ht : (pc : Int) + off = (tgt : Int)) (kt : x ≤ 0 → AW X G tgt lv st Z Y) (kf : 0 < x → AW X G pc' lv st Z Y) : AW X G pc lv (.int (aI x) :: st) Z Y := by
  obtain ⟨p, l, e, R, s, m, args, below, meth, c, A, cs, sl, Q⟩ := X
  obtain ⟨hx, hb, hml, hown, hts, hK, hA, hlk, hr, hR, hSt⟩ := hX
  subst hp
  intro H locs ls hL hP hD hS
  have e0 : (0 : Int32) = aI 0 := rfl
  refine lv_if_le hx hb hdg ht (fun h => ?_) (fun h => ?_)
  · refine kt ?_ H locs ls hL hP hD hS
    simp only [e0, ne_eq, ge_iff_le, gt_iff_lt, aI_lt hrx (show -2147483648 ≤ (0 : Int) ∧ (0 : Int) < 2147483648 by omega), aI_le hrx (show -2147483648 ≤ (0 : Int) ∧ (0 : Int) < 2147483648 by omega), aI_inj hrx (show -2147483648 ≤ (0 : Int) ∧ (0 : Int) < 2147483648 by omega), aI_lt (show -2147483648 ≤ (0 : Int) ∧ (0 : Int) < 2147483648 by omega) hrx, aI_le (show -2147483648 ≤ (0 : Int) ∧ (0 : Int) < 2147483648 by omega) hrx, Int.not_lt, Int.not_le, Decidable.not_not] at h ⊢
    first | exact h | omega
  · refine kf ?_ H locs ls hL hP hD hS
    simp only [e0, ne_eq, ge_iff_le, gt_iff_lt, aI_lt hrx (show -2147483648 ≤ (0 : Int) ∧ (0 : Int) < 2147483648 by omega), aI_le hrx (show -2147483648 ≤ (0 : Int) ∧ (0 : Int) < 2147483648 by omega), aI_inj hrx (show -2147483648 ≤ (0 : Int) ∧ (0 : Int) < 2147483648 by omega), aI_lt (show -2147483648 ≤ (0 : Int) ∧ (0 : Int) < 2147483648 by omega) hrx, aI_le (show -2147483648 ≤ (0 : Int) ∧ (0 : Int) < 2147483648 by omega) hrx, Int.not_lt, Int.not_le, Decidable.not_not] at h ⊢
    first | exact h | omega
/-- a truth value as a number -/
def aTr (b : Bool) : Int := if b then 1 else 0
theorem aTr_t : aTr true = 1 := rfl
theorem aTr_f : aTr false = 0 := rfl
theorem aTr_rng (b : Bool) : 0 ≤ aTr b ∧ aTr b ≤ 1 := by cases b <;> decide
theorem a_ifb_eq {X : aX} {G : aG} {own : String} {cc : ByteArray} {nL : Nat} {ret : Option FieldType} {fr lo : Nat} (hX : aOK X G own cc nL ret fr lo) {pc pc' : Nat} {lv : List (Option Value)} {st : List Value} {Z : aZ} {Y : aY} {b : Bool} {off : Int} {tgt : Nat} (hdg : decode cc pc = .ok (.ifCond .eq off, 3)) (hp : pc + 3 = pc') (ht : (pc : Int) + off = (tgt : Int)) (kt : b = false → AW X G tgt lv st Z Y) (kf : b = true → AW X G pc' lv st Z Y) : AW X G pc lv (.int (aI (aTr b)) :: st) Z Y := by
  refine a_if_eq hX (x := aTr b) (by cases b <;> decide) hdg hp ht (fun h => kt ?_) (fun h => kf ?_)
  · cases b <;> first | rfl | exact absurd h (by decide)
  · cases b <;> first | rfl | exact absurd h (by decide)
theorem a_ifb_ne {X : aX} {G : aG} {own : String} {cc : ByteArray} {nL : Nat} {ret : Option FieldType} {fr lo : Nat} (hX : aOK X G own cc nL ret fr lo) {pc pc' : Nat} {lv : List (Option Value)} {st : List Value} {Z : aZ} {Y : aY} {b : Bool} {off : Int} {tgt : Nat} (hdg : decode cc pc = .ok (.ifCond .ne off, 3)) (hp : pc + 3 = pc') (ht : (pc : Int) + off = (tgt : Int)) (kt : b = true → AW X G tgt lv st Z Y) (kf : b = false → AW X G pc' lv st Z Y) : AW X G pc lv (.int (aI (aTr b)) :: st) Z Y := by
  refine a_if_ne hX (x := aTr b) (by cases b <;> decide) hdg hp ht (fun h => kt ?_) (fun h => kf ?_)
  · cases b <;> first | rfl | exact absurd h (by decide)
  · cases b <;> first | rfl | exact absurd h (by decide)
theorem a_goto {X : aX} {G : aG} {own : String} {cc : ByteArray} {nL : Nat} {ret : Option FieldType} {fr lo : Nat} (hX : aOK X G own cc nL ret fr lo) {pc : Nat} {lv : List (Option Value)} {st : List Value} {Z : aZ} {Y : aY} {off : Int} {tgt : Nat} (hdg : decode cc pc = .ok (.goto off, 3)) (ht : (pc : Int) + off = (tgt : Int)) (k : AW X G tgt lv st Z Y) : AW X G pc lv st Z Y := by
  obtain ⟨p, l, e, R, s, m, args, below, meth, c, A, cs, sl, Q⟩ := X
  obtain ⟨hx, hb, hml, hown, hts, hK, hA, hlk, hr, hR, hSt⟩ := hX
  intro H locs ls hL hP hD hS
  exact lv_goto hx hb hdg ht (k H locs ls hL hP hD hS)
theorem a_ifnull {X : aX} {G : aG} {own : String} {cc : ByteArray} {nL : Nat} {ret : Option FieldType} {fr lo : Nat} (hX : aOK X G own cc nL ret fr lo) {pc pc' : Nat} {lv : List (Option Value)} {st : List Value} {Z : aZ} {Y : aY} {x : Nat} {off : Int} (hdg : decode cc pc = .ok (.ifnull off, 3)) (hp : pc + 3 = pc') (k : AW X G pc' lv st Z Y) : AW X G pc lv (.ref x :: st) Z Y := by
  obtain ⟨p, l, e, R, s, m, args, below, meth, c, A, cs, sl, Q⟩ := X
  obtain ⟨hx, hb, hml, hown, hts, hK, hA, hlk, hr, hR, hSt⟩ := hX
  subst hp
  intro H locs ls hL hP hD hS
  exact lv_ifnull hx hb hdg (k H locs ls hL hP hD hS)
theorem a_tsOut {X : aX} {G : aG} {own : String} {cc : ByteArray} {nL : Nat} {ret : Option FieldType} {fr lo : Nat} (hX : aOK X G own cc nL ret fr lo) {pc : Nat} {lv : List (Option Value)} {st : List Value} {Z : aZ} {Y : aY} {dflt lo0 hi0 : Int} {offs : Array Int} {len : Nat} {x : Int} {tgt : Nat} (hdg : decode cc pc = .ok (.tableswitch dflt lo0 hi0 offs, len)) (hrx : -2147483648 ≤ x ∧ x < 2147483648) (h : x < lo0 ∨ hi0 < x) (ht : (pc : Int) + dflt = (tgt : Int)) (k : AW X G tgt lv st Z Y) : AW X G pc lv (.int (aI x) :: st) Z Y := by
  obtain ⟨p, l, e, R, s, m, args, below, meth, c, A, cs, sl, Q⟩ := X
  obtain ⟨hx, hb, hml, hown, hts, hK, hA, hlk, hr, hR, hSt⟩ := hX
  intro H locs ls hL hP hD hS
  exact lv_tableOut hx hb hdg (by rw [aI_toInt hrx]; exact h) ht (k H locs ls hL hP hD hS)
theorem a_tsIn {X : aX} {G : aG} {own : String} {cc : ByteArray} {nL : Nat} {ret : Option FieldType} {fr lo : Nat} (hX : aOK X G own cc nL ret fr lo) {pc : Nat} {lv : List (Option Value)} {st : List Value} {Z : aZ} {Y : aY} {dflt lo0 hi0 : Int} {offs : Array Int} {len : Nat} {x off : Int} {tgt : Nat} (hdg : decode cc pc = .ok (.tableswitch dflt lo0 hi0 offs, len)) (hrx : -2147483648 ≤ x ∧ x < 2147483648) (h1 : lo0 ≤ x) (h2 : x ≤ hi0) (ho : offs[(x - lo0).toNat]? = some off) (ht : (pc : Int) + off = (tgt : Int)) (k : AW X G tgt lv st Z Y) : AW X G pc lv (.int (aI x) :: st) Z Y := by
  obtain ⟨p, l, e, R, s, m, args, below, meth, c, A, cs, sl, Q⟩ := X
  obtain ⟨hx, hb, hml, hown, hts, hK, hA, hlk, hr, hR, hSt⟩ := hX
  intro H locs ls hL hP hD hS
  exact lv_tableIn hx hb hdg (by rw [aI_toInt hrx]; omega) (by rw [aI_toInt hrx]; omega) (by rw [aI_toInt hrx]; exact ho) ht (k H locs ls hL hP hD hS)
theorem a_ls {X : aX} {G : aG} {own : String} {cc : ByteArray} {nL : Nat} {ret : Option FieldType} {fr lo : Nat} (hX : aOK X G own cc nL ret fr lo) {pc : Nat} {lv : List (Option Value)} {st : List Value} {Z : aZ} {Y : aY} {dflt : Int} {ps : Array (Int × Int)} {len : Nat} {x off : Int} {tgt : Nat} (hdg : decode cc pc = .ok (.lookupswitch dflt ps, len)) (hrx : -2147483648 ≤ x ∧ x < 2147483648) (hps : (ps.toList.zip (ps.toList.drop 1)).all (fun (a, next) => a.1 < next.1) = true) (ho : Op.lookupswitch.offset ps.toList dflt x = off) (ht : (pc : Int) + off = (tgt : Int)) (k : AW X G tgt lv st Z Y) : AW X G pc lv (.int (aI x) :: st) Z Y := by
  obtain ⟨p, l, e, R, s, m, args, below, meth, c, A, cs, sl, Q⟩ := X
  obtain ⟨hx, hb, hml, hown, hts, hK, hA, hlk, hr, hR, hSt⟩ := hX
  intro H locs ls hL hP hD hS
  exact lv_lookup hx hb hdg hps (by rw [aI_toInt hrx]; exact ho) ht (k H locs ls hL hP hD hS)

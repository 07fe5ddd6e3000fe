/-- (ours: the printed rows below use this name, the kit of this claim does not hold it) -/
def va_AOA (ty : FieldType) (U : State) : Prop := (Cond.arrayOver (.array ty)).before #[] U = true
theorem va_AOA.use {ty : FieldType} {A : Array Value} {U : State} (h : va_AOA ty U) : (Cond.arrayOver (.array ty)).before A U = true := h
/-! ===== BEGIN words of one list among another's, by their places ===== -/
theorem goodIn_r {big : List Cond} (ws : List Cond) (ps : List Nat) (hp : ws = ps.filterMap (fun i => big[i]?)) (h : ws.all goodWord = true) : GoodIn big ws := by
  intro w hw
  have h1 := List.all_eq_true.mp h w hw
  rw [hp] at hw
  obtain ⟨i, -, hi⟩ := List.mem_filterMap.mp hw
  have hm : w ∈ big := by first | exact List.mem_of_getElem? hi | exact List.getElem?_mem hi
  exact ⟨hm, good_of_word h1⟩
theorem goodIn_app {big a b : List Cond} (ha : GoodIn big a) (hb : GoodIn big b) : GoodIn big (a ++ b) := fun w h => (List.mem_append.mp h).elim (ha w) (hb w)
theorem goodIn_ca {big a b : List Cond} {c : Cond} (ha : GoodIn big (c :: a)) (hb : GoodIn big b) : GoodIn big (c :: (a ++ b)) := fun w h => (List.mem_cons.mp h).elim (fun e => ha w (List.mem_cons.mpr (Or.inl e))) (fun h => (List.mem_append.mp h).elim (fun h => ha w (List.mem_cons.mpr (Or.inr h))) (hb w))
theorem goodIn_sub {big ws : List Cond} (hm : ∀ w ∈ ws, w ∈ big) (h : ws.all goodWord = true) : GoodIn big ws := fun w hw => ⟨hm w hw, good_of_word (List.all_eq_true.mp h w hw)⟩
/-! ===== END ===== -/

/-! ===== BEGIN new T[n][m]: the outer array a place, the inner ones among the pooled ===== -/
/-- f, but v at every address of l -/
def vr_up {α : Type} (f : Nat → α) (l : List Nat) (v : α) : Nat → α := fun a => if a ∈ l then v else f a
theorem vr_up_in {α : Type} {f : Nat → α} {l : List Nat} {v : α} {a : Nat} (h : a ∈ l) : vr_up f l v a = v := if_pos h
theorem vr_up_ne {α : Type} {f : Nat → α} {l : List Nat} {v : α} {a : Nat} (h : a ∉ l) : vr_up f l v a = f a := if_neg h
theorem vr_rows {L l : List Nat} {f : Nat → va_E} {e : va_E} (h : ∀ a, a ∈ l → a ∉ L) : va_pl L f ++ l.map (fun a => (a, e)) = va_pl (L ++ l) (vr_up f l e) := by
  unfold va_pl
  rw [List.map_append]
  congr 1
  · apply List.map_congr_left
    intro a ha
    rw [vr_up_ne (fun q => h a q ha)]
  · apply List.map_congr_left
    intro a ha
    rw [vr_up_in ha]
theorem vr_lay {X rows : va_W} {x : Nat × va_E} {pl : va_W} {D : va_G} {cl : List vw_C} {H : Heap} (hP : va_P D cl (((X ++ pl) ++ [x]) ++ rows) H) : va_P D cl ((X ++ [x]) ++ (pl ++ rows)) H := by
  rw [List.append_assoc (X ++ pl)] at hP
  have h := va_P.swap hP
  rw [← List.append_assoc X] at h
  have h2 := va_P.swap h
  rw [List.append_assoc (X ++ [x])] at h2
  exact h2
theorem vr_layD {X rows : va_W} {x : Nat × va_E} {pl : va_W} {A : Nat → Prop} (hD : va_D A (((X ++ pl) ++ [x]) ++ rows)) : va_D A ((X ++ [x]) ++ (pl ++ rows)) := by
  rw [List.append_assoc (X ++ pl)] at hD
  have h := va_D.swap hD
  rw [← List.append_assoc X] at h
  have h2 := va_D.swap h
  rw [List.append_assoc (X ++ [x])] at h2
  exact h2
theorem vr_outer (c : ClassId) (N h0 : Nat) : ∀ i : Nat, Jvm.Free.Multi.outerC c N h0 i = arrV c N (fun j => va_rf (if j < i then some (h0 + 1 + j) else none))
  | 0 => by
    show ({ cls := c, slots := Array.replicate N .null, vm := .none } : Cell) = _
    rw [arrV_new]
    refine congrArg (arrV c N) (funext fun j => ?_)
    simp [va_rf]
  | i + 1 => by
    show (Jvm.Free.Multi.outerC c N h0 i).setSlot i (.ref (h0 + 1 + i)) = _
    rw [vr_outer c N h0 i, arrV_store]
    refine congrArg (arrV c N) (funext fun j => ?_)
    by_cases e : j = i
    · subst e
      simp [updV, va_rf]
    · by_cases h : j < i
      · simp [updV, e, h, Nat.lt_succ_of_lt h]
      · simp [updV, e, h, show ¬ j < i + 1 by omega]
section VGM
variable {p : Program} {l : Launch} {e : Env} {R : Room} {s : State} {m : MethodId} {args : Array Value} {below : List Frame} {meth : Method} {c : Code} {H : Heap} {locs : List Loc} {cells slots : Nat} {Q : State → Prop}
variable {cc : ByteArray} {pc : Nat} {ls : Array Slot} {rest : List Value} {D : va_G} {cl : List vw_C} {A : Nat → Prop} {a : Nat} {tys : List (ClassId × FieldType)} {ws : va_W} {H0 : Heap}
theorem va_mna {X : va_W} {L : List Nat} {f : Nat → va_E} {cc : ByteArray} (hexec : p.tables.exec = Jvm.exec) (hb : c.code = cc) {own : String} {index : Nat} {ty : FieldType} {cy : ClassId} (hown : s.vm.findClass own = some m.cls) (hclink : (Cond.classLink own index ("[" ++ (FieldType.array ty).toString)).before args s = true) (hover : va_AOA ty s) (harr : (Cond.arrayClass ty).before args s = true) (hcy : s.vm.findClass (FieldType.array ty).toString = some cy)
    (hK : va_K D cl tys s) (hP : va_P D cl (X ++ va_pl L f) H) (hD : va_D A (X ++ va_pl L f)) (hS : va_S A H0 H locs) (hA : ∀ q, H0.size ≤ q → A q) {n k : Int32} {N' K' : Nat} {z : vp_A} (hn : ¬ n < 0) (hk : ¬ k < 0) (hN : n.toNatClampNeg = N') (hM : k.toNatClampNeg = K')
    (hb1 : N' * 4 ≤ 536870912) (hb2 : K' * componentBytes ty ≤ 536870912) (hb3 : K' ≤ 536870912) (hdf : fits ty (defaultValue ty) = true) (hdd : (defaultValue ty).isDefault = true) (hcells : cells + (1 + N') ≤ R.cells) (hslots : slots + (N' + N' * K') ≤ R.slots) (hz : ∀ c : ClassId, Jvm.Free.Multi.innerC c K' (defaultValue ty) = vp_cell c z) (hdg : decode cc pc = .ok (.multianewarray index 2, 4))
    (kk : ∀ (q : Nat) (r : Nat → Nat) (cA : ClassId) (H1 : Heap), (∀ i j : Nat, i < N' → j < N' → r i = r j → i = j) → (∀ i : Nat, i < N' → r i ∉ L) → va_K D cl (tys ++ [(cA, .array ty)]) s →
      va_P D cl ((X ++ [(q, .inl (cA, N', .inr (.inr (.inr (.inr (fun i => if i < N' then some (r i) else none))))))]) ++ va_pl (L ++ (List.range N').map r) (vr_up f ((List.range N').map r) (.inl (cy, z)))) H1 → va_D A ((X ++ [(q, .inl (cA, N', .inr (.inr (.inr (.inr (fun i => if i < N' then some (r i) else none))))))]) ++ va_pl (L ++ (List.range N').map r) (vr_up f ((List.range N').map r) (.inl (cy, z)))) → va_S A H0 H1 locs →
      W p l e R s m args below meth c H1 locs (cells + 1 + N') (slots + N' + N' * K') Q (F0 m (pc + 4) ls (.ref q :: rest))) : W p l e R s m args below meth c H locs cells slots Q (F0 m pc ls (.int k :: .int n :: rest)) := by
  subst hN
  subst hM
  intro T hT Xs
  obtain ⟨vm₁, cA, comp, -, fA, fC, hO, -, X', step⟩ := Xs.multianewarray2F hexec hown hclink (va_AOA.use hover) harr (g := F0 m pc ls (.int k :: .int n :: rest)) rfl (by rw [hb]; exact hdg) rfl hn hk hb1 hb2 hb3 hdf hdd hcells hslots
  have ec : some cy = some comp := hcy.symm.trans fC
  cases ec
  generalize hF : Jvm.Free.Multi.fill (T.setVm vm₁) cA cy n.toNatClampNeg k.toNatClampNeg (defaultValue ty) n.toNatClampNeg = F at X' step
  have hTh : (T.setVm vm₁).heap = H := hT
  obtain ⟨f1, f2, -, -⟩ := Jvm.Free.Multi.fill_facts (T.setVm vm₁) cA cy n.toNatClampNeg k.toNatClampNeg (defaultValue ty) n.toNatClampNeg
  rw [hF, hTh] at f1 f2
  have hold : ∀ x : Nat, x < H.size → F.heap[x]? = H[x]? := fun x hx => by
    have := Jvm.Free.Multi.fill_old (T.setVm vm₁) cA cy n.toNatClampNeg k.toNatClampNeg (defaultValue ty) (a := x) (by rw [hTh]; exact hx) n.toNatClampNeg
    rw [hF, hTh] at this
    exact this
  have hrow : ∀ j : Nat, j < n.toNatClampNeg → F.heap[H.size + 1 + j]? = some (vp_cell cy z) := fun j hj => by
    have := Jvm.Free.Multi.fill_inner (T.setVm vm₁) cA cy n.toNatClampNeg k.toNatClampNeg (defaultValue ty) n.toNatClampNeg j hj
    rw [hF, hTh, hz] at this
    exact this
  have hout : Jvm.Free.Multi.outerC cA n.toNatClampNeg H.size n.toNatClampNeg = vp_cell cA (n.toNatClampNeg, .inr (.inr (.inr (.inr (fun i => if i < n.toNatClampNeg then some (H.size + 1 + i) else none))))) := by
    rw [vp_cell_q]
    exact vr_outer cA n.toNatClampNeg H.size n.toNatClampNeg
  rw [hout] at f2
  have hlt : ∀ a, a ∈ L → a < H.size := fun a ha => by
    obtain ⟨k9, hk9⟩ := va_pl_get (X := X) (f := f) ha
    exact (hP k9 _ hk9).lt
  have hnl : ∀ i : Nat, i < n.toNatClampNeg → H.size + 1 + i ∉ L := fun i _ h => by
    have := hlt _ h
    omega
  have hnm : ∀ a, a ∈ (List.range n.toNatClampNeg).map (fun i => H.size + 1 + i) → a ∉ L := fun a ha h => by
    obtain ⟨i, -, rfl⟩ := List.mem_map.mp ha
    have := hlt _ h
    omega
  have hP0 : va_P D cl (X ++ va_pl L f) F.heap := hP.kept (fun k9 x hx => hold x.1 ((hP k9 x hx).lt))
  have hP1 : va_P D cl ((X ++ va_pl L f) ++ [(H.size, .inl (cA, n.toNatClampNeg, .inr (.inr (.inr (.inr (fun i => if i < n.toNatClampNeg then some (H.size + 1 + i) else none))))))]) F.heap := hP0.app (fun k9 x hx => by
    have h0 : k9 < 1 := (List.getElem?_eq_some_iff.mp hx).1
    rw [show k9 = 0 by omega] at hx
    cases hx
    exact f2)
  have hP2 : va_P D cl (((X ++ va_pl L f) ++ [(H.size, .inl (cA, n.toNatClampNeg, .inr (.inr (.inr (.inr (fun i => if i < n.toNatClampNeg then some (H.size + 1 + i) else none))))))]) ++ ((List.range n.toNatClampNeg).map (fun i => H.size + 1 + i)).map (fun a => (a, .inl (cy, z)))) F.heap := hP1.app (fun k9 x hx => by
    obtain ⟨a, ha, rfl⟩ := List.mem_map.mp (List.mem_of_getElem? hx)
    obtain ⟨i, hi, rfl⟩ := List.mem_map.mp ha
    exact hrow i (List.mem_range.mp hi))
  have hD2 : va_D A (((X ++ va_pl L f) ++ [(H.size, .inl (cA, n.toNatClampNeg, .inr (.inr (.inr (.inr (fun i => if i < n.toNatClampNeg then some (H.size + 1 + i) else none))))))]) ++ ((List.range n.toNatClampNeg).map (fun i => H.size + 1 + i)).map (fun a => (a, .inl (cy, z)))) := by
    have hD1 := hD.push (e := .inl (cA, n.toNatClampNeg, .inr (.inr (.inr (.inr (fun i => if i < n.toNatClampNeg then some (H.size + 1 + i) else none)))))) hP rfl (hA _ hS.1)
    generalize hW1 : (X ++ va_pl L f) ++ [(H.size, .inl (cA, n.toNatClampNeg, .inr (.inr (.inr (.inr (fun i => if i < n.toNatClampNeg then some (H.size + 1 + i) else none))))))] = W1 at hD1 hP1 ⊢
    have hle : ∀ (k9 : Nat) (x : Nat × va_E), W1[k9]? = some x → x.1 ≤ H.size := fun k9 x hx => by
      rw [← hW1] at hx
      by_cases hl : k9 < (X ++ va_pl L f).length
      · rw [List.getElem?_append_left hl] at hx
        exact Nat.le_of_lt ((hP k9 x hx).lt)
      · rw [List.getElem?_append_right (by omega)] at hx
        have h0 : k9 - (X ++ va_pl L f).length < 1 := (List.getElem?_eq_some_iff.mp hx).1
        rw [show k9 - (X ++ va_pl L f).length = 0 by omega] at hx
        cases hx
        exact Nat.le_refl _
    have hr : ∀ (k9 : Nat) (x : Nat × va_E), (((List.range n.toNatClampNeg).map (fun i => H.size + 1 + i)).map (fun a => ((a, .inl (cy, z)) : Nat × va_E)))[k9]? = some x → x.1 = H.size + 1 + k9 := fun k9 x hx => by
      rw [List.getElem?_map, List.getElem?_map] at hx
      by_cases h9 : k9 < n.toNatClampNeg
      · rw [List.getElem?_range h9] at hx
        cases hx
        rfl
      · have hn0 : (List.range n.toNatClampNeg)[k9]? = none := List.getElem?_eq_none (by rw [List.length_range]; omega)
        rw [hn0] at hx
        cases hx
    refine ⟨fun i j x y hi hj hxy => ?_, fun k9 x hx => ?_⟩
    · by_cases h1 : i < W1.length <;> by_cases h2 : j < W1.length
      · rw [List.getElem?_append_left h1] at hi
        rw [List.getElem?_append_left h2] at hj
        exact hD1.1 i j x y hi hj hxy
      · rw [List.getElem?_append_left h1] at hi
        rw [List.getElem?_append_right (by omega)] at hj
        have := hle _ _ hi
        have := hr _ _ hj
        omega
      · rw [List.getElem?_append_right (by omega)] at hi
        rw [List.getElem?_append_left h2] at hj
        have := hle _ _ hj
        have := hr _ _ hi
        omega
      · rw [List.getElem?_append_right (by omega)] at hi hj
        have := hr _ _ hi
        have := hr _ _ hj
        omega
    · by_cases h1 : k9 < W1.length
      · rw [List.getElem?_append_left h1] at hx
        exact hD1.2 k9 x hx
      · rw [List.getElem?_append_right (by omega)] at hx
        have := hr _ _ hx
        exact hA _ (by have := hS.1; omega)
  have hAr : ArrOfT s cA (.array ty) := fun N9 z9 => by
    obtain ⟨-, k9, hk9, cm9, hkk9⟩ := (hO 0 0 0).1
    exact ⟨(fun q hq => by cases hq), k9, hk9, cm9, hkk9⟩
  have hK2 : va_K D cl (tys ++ [(cA, .array ty)]) s := ⟨hK.1, fun k9 x hx => by
    by_cases hl : k9 < tys.length
    · rw [List.getElem?_append_left hl] at hx
      exact hK.2 k9 x hx
    · rw [List.getElem?_append_right (by omega)] at hx
      have h0 : k9 - tys.length < 1 := (List.getElem?_eq_some_iff.mp hx).1
      rw [show k9 - tys.length = 0 by omega] at hx
      cases hx
      exact ⟨hAr, fA⟩⟩
  obtain ⟨t, a1, b1⟩ := kk H.size (fun i => H.size + 1 + i) cA F.heap (fun i j _ _ h => by have h9 : H.size + 1 + i = H.size + 1 + j := h; omega) hnl hK2 (by rw [← vr_rows hnm]; exact vr_lay hP2) (by rw [← vr_rows hnm]; exact vr_layD hD2) ⟨by rw [f1]; have := hS.1; omega, fun x h1 h2 => (hold x (Nat.lt_of_lt_of_le h1 hS.1)).trans (hS.2.1 x h1 h2), hS.2.2⟩ F rfl X'
  refine ⟨t, step t ?_, b1⟩
  have e : T.heap.size = H.size := by rw [hT]
  rw [e]
  exact a1
end VGM
/-! ===== END ===== -/

def RX0 : String := "PromisedSnow$Acts"
def TX0 : u_T := fun k => match k with
  | 0 => ("PromisedSnow$Acts", "before", "[[I", true)
  | 1 => ("PromisedSnow$Acts", "first", "I", false)
  | _ => ("PromisedSnow$Acts", "size", "I", false)
def tyX0 : Nat → FieldType := fun k => match k with
  | 0 => .array (.array .int)
  | 1 => .int
  | _ => .int
abbrev wsX00 : List Cond := u_ws RX0 TX0 3
theorem nmX0 : ∀ a, a < 3 → ∀ b, b < 3 → a ≠ b → (TX0 a).2.1 ≠ (TX0 b).2.1 := by decide +kernel
theorem tyX0_ok : ∀ k, k < 3 → parseFieldDescriptor (TX0 k).2.2.1 = some (tyX0 k) := by decide +kernel
abbrev cX0_init : ByteArray := prog_2_method_1_code
def yX0_init : MethodName := ⟨RX0, "<init>", "()V"⟩
abbrev cX0_remember : ByteArray := prog_2_method_2_code
def yX0_remember : MethodName := ⟨RX0, "remember", "(LPromisedSnow$Sky;)V"⟩
abbrev cX0_takeBack : ByteArray := prog_2_method_3_code
def yX0_takeBack : MethodName := ⟨RX0, "takeBack", "(LPromisedSnow$Sky;)Z"⟩
abbrev cX0_forget : ByteArray := prog_2_method_4_code
def yX0_forget : MethodName := ⟨RX0, "forget", "()V"⟩
def RX1 : String := "PromisedSnow$Chances"
def TX1 : u_T := fun k => match k with
  | 0 => ("PromisedSnow$Chances", "weight", "[I", true)
  | 1 => ("PromisedSnow$Chances", "ahead", "[I", true)
  | _ => ("PromisedSnow$Chances", "whole", "I", false)
def tyX1 : Nat → FieldType := fun k => match k with
  | 0 => .array .int
  | 1 => .array .int
  | _ => .int
abbrev wsX10 : List Cond := u_ws RX1 TX1 3
theorem nmX1 : ∀ a, a < 3 → ∀ b, b < 3 → a ≠ b → (TX1 a).2.1 ≠ (TX1 b).2.1 := by decide +kernel
theorem tyX1_ok : ∀ k, k < 3 → parseFieldDescriptor (TX1 k).2.2.1 = some (tyX1 k) := by decide +kernel
abbrev cX1_init : ByteArray := prog_3_method_1_code
def yX1_init : MethodName := ⟨RX1, "<init>", "()V"⟩
abbrev cX1_startOver : ByteArray := prog_3_method_2_code
def yX1_startOver : MethodName := ⟨RX1, "startOver", "(I)V"⟩
abbrev cX1_goDay : ByteArray := prog_3_method_3_code
def yX1_goDay : MethodName := ⟨RX1, "goDay", "(II)V"⟩
def RX2 : String := "PromisedSnow$Numbers"
def TX2 : u_T := fun k => match k with
  | _ => ("", "", "", false)
def tyX2 : Nat → FieldType := fun k => match k with
  | _ => .int
abbrev wsX20 : List Cond := u_ws RX2 TX2 0
theorem nmX2 : ∀ a, a < 0 → ∀ b, b < 0 → a ≠ b → (TX2 a).2.1 ≠ (TX2 b).2.1 := by decide +kernel
theorem tyX2_ok : ∀ k, k < 0 → parseFieldDescriptor (TX2 k).2.2.1 = some (tyX2 k) := by decide +kernel
abbrev cX2_ring : ByteArray := prog_4_method_2_code
def yX2_ring : MethodName := ⟨RX2, "ring", "(I)I"⟩
abbrev cX2_factorial : ByteArray := prog_4_method_3_code
def yX2_factorial : MethodName := ⟨RX2, "factorial", "(I)I"⟩
abbrev cX2_fractionPart : ByteArray := prog_4_method_4_code
def yX2_fractionPart : MethodName := ⟨RX2, "fractionPart", "(IIZ)I"⟩
abbrev cX2_commonDivisor : ByteArray := prog_4_method_5_code
def yX2_commonDivisor : MethodName := ⟨RX2, "commonDivisor", "(II)I"⟩
def RX3 : String := "PromisedSnow$Pass"
def TX3 : u_T := fun k => match k with
  | 0 => ("PromisedSnow$Pass", "wind", "[I", true)
  | 1 => ("PromisedSnow$Pass", "cloudYard", "[I", true)
  | 2 => ("PromisedSnow$Pass", "cloudFlakes", "[I", true)
  | 3 => ("PromisedSnow$Pass", "cloudKind", "[I", true)
  | 4 => ("PromisedSnow$Pass", "paperYard", "[I", true)
  | 5 => ("PromisedSnow$Pass", "due", "[I", true)
  | 6 => ("PromisedSnow$Pass", "paperKind", "[I", true)
  | 7 => ("PromisedSnow$Pass", "promised", "[I", true)
  | 8 => ("PromisedSnow$Pass", "winds", "I", false)
  | 9 => ("PromisedSnow$Pass", "clouds", "I", false)
  | _ => ("PromisedSnow$Pass", "papers", "I", false)
def tyX3 : Nat → FieldType := fun k => match k with
  | 0 => .array .int
  | 1 => .array .int
  | 2 => .array .int
  | 3 => .array .int
  | 4 => .array .int
  | 5 => .array .int
  | 6 => .array .int
  | 7 => .array .int
  | 8 => .int
  | 9 => .int
  | _ => .int
abbrev wsX30 : List Cond := u_ws RX3 TX3 11
theorem nmX3 : ∀ a, a < 11 → ∀ b, b < 11 → a ≠ b → (TX3 a).2.1 ≠ (TX3 b).2.1 := by decide +kernel
theorem tyX3_ok : ∀ k, k < 11 → parseFieldDescriptor (TX3 k).2.2.1 = some (tyX3 k) := by decide +kernel
abbrev cX3_init : ByteArray := prog_5_method_1_code
def yX3_init : MethodName := ⟨RX3, "<init>", "()V"⟩
abbrev cX3_read : ByteArray := prog_5_method_2_code
def yX3_read : MethodName := ⟨RX3, "read", "(LPromisedSnow$Script;)V"⟩
abbrev cX3_addWind : ByteArray := prog_5_method_3_code
def yX3_addWind : MethodName := ⟨RX3, "addWind", "(LPromisedSnow$Script;I)V"⟩
abbrev cX3_addCloud : ByteArray := prog_5_method_4_code
def yX3_addCloud : MethodName := ⟨RX3, "addCloud", "(LPromisedSnow$Script;I)V"⟩
abbrev cX3_addPaper : ByteArray := prog_5_method_5_code
def yX3_addPaper : MethodName := ⟨RX3, "addPaper", "(LPromisedSnow$Script;I)V"⟩
abbrev cX3_hasCloud : ByteArray := prog_5_method_6_code
def yX3_hasCloud : MethodName := ⟨RX3, "hasCloud", "(I)Z"⟩
abbrev cX3_hasPaper : ByteArray := prog_5_method_7_code
def yX3_hasPaper : MethodName := ⟨RX3, "hasPaper", "(I)Z"⟩
abbrev cX3_windOn : ByteArray := prog_5_method_8_code
def yX3_windOn : MethodName := ⟨RX3, "windOn", "(I)I"⟩
abbrev cX3_drift : ByteArray := prog_5_method_9_code
def yX3_drift : MethodName := ⟨RX3, "drift", "(II)I"⟩
abbrev cX3_carried : ByteArray := prog_5_method_10_code
def yX3_carried : MethodName := ⟨RX3, "carried", "(IIII)I"⟩
def RX4 : String := "PromisedSnow$Rivals"
def TX4 : u_T := fun k => match k with
  | 0 => ("PromisedSnow$Rivals", "oneAt", "[I", true)
  | 1 => ("PromisedSnow$Rivals", "otherAt", "[I", true)
  | 2 => ("PromisedSnow$Rivals", "oneAlone", "[I", true)
  | _ => ("PromisedSnow$Rivals", "otherAlone", "[I", true)
def tyX4 : Nat → FieldType := fun k => match k with
  | 0 => .array .int
  | 1 => .array .int
  | 2 => .array .int
  | _ => .array .int
abbrev wsX40 : List Cond := u_ws RX4 TX4 4
theorem nmX4 : ∀ a, a < 4 → ∀ b, b < 4 → a ≠ b → (TX4 a).2.1 ≠ (TX4 b).2.1 := by decide +kernel
theorem tyX4_ok : ∀ k, k < 4 → parseFieldDescriptor (TX4 k).2.2.1 = some (tyX4 k) := by decide +kernel
abbrev cX4_init : ByteArray := prog_6_method_1_code
def yX4_init : MethodName := ⟨RX4, "<init>", "()V"⟩
abbrev cX4_weigh : ByteArray := prog_6_method_2_code
def yX4_weigh : MethodName := ⟨RX4, "weigh", "(LPromisedSnow$Sky;I[I[I)V"⟩
abbrev cX4_apart : ByteArray := prog_6_method_3_code
def yX4_apart : MethodName := ⟨RX4, "apart", "(II)I"⟩
abbrev cX4_rest : ByteArray := prog_6_method_4_code
def yX4_rest : MethodName := ⟨RX4, "rest", "(II)Z"⟩
abbrev cX4_restingPairs : ByteArray := prog_6_method_5_code
def yX4_restingPairs : MethodName := ⟨RX4, "restingPairs", "()I"⟩
abbrev cX4_firstResting : ByteArray := prog_6_method_6_code
def yX4_firstResting : MethodName := ⟨RX4, "firstResting", "()I"⟩
def RX5 : String := "PromisedSnow$Script"
def TX5 : u_T := fun k => match k with
  | 0 => ("PromisedSnow$Script", "letters", "[I", true)
  | _ => ("PromisedSnow$Script", "length", "I", false)
def tyX5 : Nat → FieldType := fun k => match k with
  | 0 => .array .int
  | _ => .int
abbrev wsX50 : List Cond := u_ws RX5 TX5 2
theorem nmX5 : ∀ a, a < 2 → ∀ b, b < 2 → a ≠ b → (TX5 a).2.1 ≠ (TX5 b).2.1 := by decide +kernel
theorem tyX5_ok : ∀ k, k < 2 → parseFieldDescriptor (TX5 k).2.2.1 = some (tyX5 k) := by decide +kernel
abbrev cX5_init : ByteArray := prog_7_method_1_code
def yX5_init : MethodName := ⟨RX5, "<init>", "()V"⟩
abbrev cX5_append : ByteArray := prog_7_method_2_code
def yX5_append : MethodName := ⟨RX5, "append", "(I)Z"⟩
abbrev cX5_letterAt : ByteArray := prog_7_method_3_code
def yX5_letterAt : MethodName := ⟨RX5, "letterAt", "(I)I"⟩
abbrev cX5_figureAt : ByteArray := prog_7_method_4_code
def yX5_figureAt : MethodName := ⟨RX5, "figureAt", "(I)I"⟩
abbrev cX5_firstFault : ByteArray := prog_7_method_5_code
def yX5_firstFault : MethodName := ⟨RX5, "firstFault", "()I"⟩
abbrev cX5_fits : ByteArray := prog_7_method_6_code
def yX5_fits : MethodName := ⟨RX5, "fits", "(III)Z"⟩
abbrev cX5_lowest : ByteArray := prog_7_method_7_code
def yX5_lowest : MethodName := ⟨RX5, "lowest", "(I)Ljava/lang/String;"⟩
abbrev cX5_highest : ByteArray := prog_7_method_8_code
def yX5_highest : MethodName := ⟨RX5, "highest", "(I)Ljava/lang/String;"⟩
def RX6 : String := "PromisedSnow$Service"
def TX6 : u_T := fun k => match k with
  | 0 => ("PromisedSnow$Service", "has", "[I", true)
  | 1 => ("PromisedSnow$Service", "can", "[I", true)
  | 2 => ("PromisedSnow$Service", "owed", "[I", true)
  | 3 => ("PromisedSnow$Service", "canFrom", "[[I", true)
  | 4 => ("PromisedSnow$Service", "clouds", "I", false)
  | _ => ("PromisedSnow$Service", "papers", "I", false)
def tyX6 : Nat → FieldType := fun k => match k with
  | 0 => .array .int
  | 1 => .array .int
  | 2 => .array .int
  | 3 => .array (.array .int)
  | 4 => .int
  | _ => .int
abbrev wsX60 : List Cond := u_ws RX6 TX6 6
theorem nmX6 : ∀ a, a < 6 → ∀ b, b < 6 → a ≠ b → (TX6 a).2.1 ≠ (TX6 b).2.1 := by decide +kernel
theorem tyX6_ok : ∀ k, k < 6 → parseFieldDescriptor (TX6 k).2.2.1 = some (tyX6 k) := by decide +kernel
abbrev cX6_init : ByteArray := prog_8_method_1_code
def yX6_init : MethodName := ⟨RX6, "<init>", "()V"⟩
abbrev cX6_look : ByteArray := prog_8_method_2_code
def yX6_look : MethodName := ⟨RX6, "look", "(LPromisedSnow$Sky;LPromisedSnow$Pass;)V"⟩
abbrev cX6_lookAround : ByteArray := prog_8_method_3_code
def yX6_lookAround : MethodName := ⟨RX6, "lookAround", "(LPromisedSnow$Sky;)V"⟩
abbrev cX6_everyone : ByteArray := prog_8_method_4_code
def yX6_everyone : MethodName := ⟨RX6, "everyone", "()I"⟩
abbrev cX6_owedBy : ByteArray := prog_8_method_5_code
def yX6_owedBy : MethodName := ⟨RX6, "owedBy", "(I)I"⟩
abbrev cX6_fillable : ByteArray := prog_8_method_6_code
def yX6_fillable : MethodName := ⟨RX6, "fillable", "(I)I"⟩
abbrev cX6_cut : ByteArray := prog_8_method_7_code
def yX6_cut : MethodName := ⟨RX6, "cut", "(II)I"⟩
abbrev cX6_shortOf : ByteArray := prog_8_method_8_code
def yX6_shortOf : MethodName := ⟨RX6, "shortOf", "(I)I"⟩
abbrev cX6_fewestPuffs : ByteArray := prog_8_method_9_code
def yX6_fewestPuffs : MethodName := ⟨RX6, "fewestPuffs", "(LPromisedSnow$Sky;)I"⟩
abbrev cX6_place : ByteArray := prog_8_method_10_code
def yX6_place : MethodName := ⟨RX6, "place", "(LPromisedSnow$Sky;I)I"⟩
abbrev cX6_gainInOrders : ByteArray := prog_8_method_11_code
def yX6_gainInOrders : MethodName := ⟨RX6, "gainInOrders", "(I)I"⟩
def RX7 : String := "PromisedSnow$Sightings"
def TX7 : u_T := fun k => match k with
  | 0 => ("PromisedSnow$Sightings", "yard", "[I", true)
  | 1 => ("PromisedSnow$Sightings", "behind", "[I", true)
  | _ => ("PromisedSnow$Sightings", "size", "I", false)
def tyX7 : Nat → FieldType := fun k => match k with
  | 0 => .array .int
  | 1 => .array .int
  | _ => .int
abbrev wsX70 : List Cond := u_ws RX7 TX7 3
theorem nmX7 : ∀ a, a < 3 → ∀ b, b < 3 → a ≠ b → (TX7 a).2.1 ≠ (TX7 b).2.1 := by decide +kernel
theorem tyX7_ok : ∀ k, k < 3 → parseFieldDescriptor (TX7 k).2.2.1 = some (tyX7 k) := by decide +kernel
abbrev cX7_init : ByteArray := prog_9_method_1_code
def yX7_init : MethodName := ⟨RX7, "<init>", "()V"⟩
abbrev cX7_add : ByteArray := prog_9_method_2_code
def yX7_add : MethodName := ⟨RX7, "add", "(II)Z"⟩
abbrev cX7_beginnings : ByteArray := prog_9_method_3_code
def yX7_beginnings : MethodName := ⟨RX7, "beginnings", "(ILPromisedSnow$Pass;)I"⟩
abbrev cX7_agrees : ByteArray := prog_9_method_4_code
def yX7_agrees : MethodName := ⟨RX7, "agrees", "(IILPromisedSnow$Pass;)Z"⟩
def RX8 : String := "PromisedSnow$Sky"
def TX8 : u_T := fun k => match k with
  | 0 => ("PromisedSnow$Sky", "told", "LPromisedSnow$Pass;", true)
  | 1 => ("PromisedSnow$Sky", "yard", "[I", true)
  | 2 => ("PromisedSnow$Sky", "flakes", "[I", true)
  | 3 => ("PromisedSnow$Sky", "filled", "[I", true)
  | 4 => ("PromisedSnow$Sky", "torn", "I", false)
  | 5 => ("PromisedSnow$Sky", "umbrellas", "I", false)
  | _ => ("PromisedSnow$Sky", "today", "I", false)
def tyX8 : Nat → FieldType := fun k => match k with
  | 0 => .object "PromisedSnow$Pass"
  | 1 => .array .int
  | 2 => .array .int
  | 3 => .array .int
  | 4 => .int
  | 5 => .int
  | _ => .int
abbrev wsX80 : List Cond := u_ws RX8 TX8 7
theorem nmX8 : ∀ a, a < 7 → ∀ b, b < 7 → a ≠ b → (TX8 a).2.1 ≠ (TX8 b).2.1 := by decide +kernel
theorem tyX8_ok : ∀ k, k < 7 → parseFieldDescriptor (TX8 k).2.2.1 = some (tyX8 k) := by decide +kernel
abbrev cX8_init : ByteArray := prog_10_method_1_code
def yX8_init : MethodName := ⟨RX8, "<init>", "(LPromisedSnow$Pass;)V"⟩
abbrev cX8_begin : ByteArray := prog_10_method_2_code
def yX8_begin : MethodName := ⟨RX8, "begin", "()V"⟩
abbrev cX8_store : ByteArray := prog_10_method_3_code
def yX8_store : MethodName := ⟨RX8, "store", "([I)V"⟩
abbrev cX8_load : ByteArray := prog_10_method_4_code
def yX8_load : MethodName := ⟨RX8, "load", "([I)V"⟩
abbrev cX8_isTorn : ByteArray := prog_10_method_5_code
def yX8_isTorn : MethodName := ⟨RX8, "isTorn", "(I)Z"⟩
abbrev cX8_owed : ByteArray := prog_10_method_6_code
def yX8_owed : MethodName := ⟨RX8, "owed", "(I)I"⟩
abbrev cX8_owedInAll : ByteArray := prog_10_method_7_code
def yX8_owedInAll : MethodName := ⟨RX8, "owedInAll", "()I"⟩
abbrev cX8_owedBy : ByteArray := prog_10_method_8_code
def yX8_owedBy : MethodName := ⟨RX8, "owedBy", "(I)I"⟩
abbrev cX8_filledInAll : ByteArray := prog_10_method_9_code
def yX8_filledInAll : MethodName := ⟨RX8, "filledInAll", "()I"⟩
abbrev cX8_has : ByteArray := prog_10_method_10_code
def yX8_has : MethodName := ⟨RX8, "has", "(I)I"⟩
abbrev cX8_takes : ByteArray := prog_10_method_11_code
def yX8_takes : MethodName := ⟨RX8, "takes", "(III)Z"⟩
abbrev cX8_canDrop : ByteArray := prog_10_method_12_code
def yX8_canDrop : MethodName := ⟨RX8, "canDrop", "(II)Z"⟩
abbrev cX8_droppable : ByteArray := prog_10_method_13_code
def yX8_droppable : MethodName := ⟨RX8, "droppable", "(I)I"⟩
abbrev cX8_servable : ByteArray := prog_10_method_14_code
def yX8_servable : MethodName := ⟨RX8, "servable", "(II)I"⟩
abbrev cX8_drop : ByteArray := prog_10_method_15_code
def yX8_drop : MethodName := ⟨RX8, "drop", "(II)V"⟩
abbrev cX8_tryDrop : ByteArray := prog_10_method_16_code
def yX8_tryDrop : MethodName := ⟨RX8, "tryDrop", "(II)Z"⟩
abbrev cX8_push : ByteArray := prog_10_method_17_code
def yX8_push : MethodName := ⟨RX8, "push", "(IZ)V"⟩
abbrev cX8_rip : ByteArray := prog_10_method_18_code
def yX8_rip : MethodName := ⟨RX8, "rip", "(I)V"⟩
abbrev cX8_goDay : ByteArray := prog_10_method_19_code
def yX8_goDay : MethodName := ⟨RX8, "goDay", "()I"⟩
abbrev cX8_umbrellasBy : ByteArray := prog_10_method_20_code
def yX8_umbrellasBy : MethodName := ⟨RX8, "umbrellasBy", "(I)I"⟩
abbrev cX8_does : ByteArray := prog_10_method_21_code
def yX8_does : MethodName := ⟨RX8, "does", "(I)Z"⟩
def RX9 : String := "PromisedSnow"
def TX9 : u_T := fun k => match k with
  | 0 => ("PromisedSnow", "script", "LPromisedSnow$Script;", true)
  | 1 => ("PromisedSnow", "told", "LPromisedSnow$Pass;", true)
  | 2 => ("PromisedSnow", "sky", "LPromisedSnow$Sky;", true)
  | 3 => ("PromisedSnow", "trial", "LPromisedSnow$Sky;", true)
  | 4 => ("PromisedSnow", "acts", "LPromisedSnow$Acts;", true)
  | 5 => ("PromisedSnow", "sightings", "LPromisedSnow$Sightings;", true)
  | 6 => ("PromisedSnow", "service", "LPromisedSnow$Service;", true)
  | 7 => ("PromisedSnow", "chances", "LPromisedSnow$Chances;", true)
  | 8 => ("PromisedSnow", "rivals", "LPromisedSnow$Rivals;", true)
  | 9 => ("PromisedSnow", "slots", "[[I", true)
  | 10 => ("PromisedSnow", "kept", "[Z", true)
  | 11 => ("PromisedSnow", "spare", "[I", true)
  | 12 => ("PromisedSnow", "doings", "[I", true)
  | _ => ("PromisedSnow", "lot", "J", false)
def tyX9 : Nat → FieldType := fun k => match k with
  | 0 => .object "PromisedSnow$Script"
  | 1 => .object "PromisedSnow$Pass"
  | 2 => .object "PromisedSnow$Sky"
  | 3 => .object "PromisedSnow$Sky"
  | 4 => .object "PromisedSnow$Acts"
  | 5 => .object "PromisedSnow$Sightings"
  | 6 => .object "PromisedSnow$Service"
  | 7 => .object "PromisedSnow$Chances"
  | 8 => .object "PromisedSnow$Rivals"
  | 9 => .array (.array .int)
  | 10 => .array .boolean
  | 11 => .array .int
  | 12 => .array .int
  | _ => .long
abbrev wsX90 : List Cond := u_ws RX9 TX9 14
theorem nmX9 : ∀ a, a < 14 → ∀ b, b < 14 → a ≠ b → (TX9 a).2.1 ≠ (TX9 b).2.1 := by decide +kernel
theorem tyX9_ok : ∀ k, k < 14 → parseFieldDescriptor (TX9 k).2.2.1 = some (tyX9 k) := by decide +kernel
abbrev cX9_init : ByteArray := prog_1_method_1_code
def yX9_init : MethodName := ⟨RX9, "<init>", "()V"⟩
abbrev cX9_write : ByteArray := prog_1_method_2_code
def yX9_write : MethodName := ⟨RX9, "write", "(I)I"⟩
abbrev cX9_wipe : ByteArray := prog_1_method_3_code
def yX9_wipe : MethodName := ⟨RX9, "wipe", "()I"⟩
abbrev cX9_fault : ByteArray := prog_1_method_4_code
def yX9_fault : MethodName := ⟨RX9, "fault", "()I"⟩
abbrev cX9_pass : ByteArray := prog_1_method_5_code
def yX9_pass : MethodName := ⟨RX9, "pass", "()I"⟩
abbrev cX9_cloud : ByteArray := prog_1_method_6_code
def yX9_cloud : MethodName := ⟨RX9, "cloud", "(II)I"⟩
abbrev cX9_paper : ByteArray := prog_1_method_7_code
def yX9_paper : MethodName := ⟨RX9, "paper", "(II)I"⟩
abbrev cX9_day : ByteArray := prog_1_method_8_code
def yX9_day : MethodName := ⟨RX9, "day", "()I"⟩
abbrev cX9_fall : ByteArray := prog_1_method_9_code
def yX9_fall : MethodName := ⟨RX9, "fall", "(II)I"⟩
abbrev cX9_puff : ByteArray := prog_1_method_10_code
def yX9_puff : MethodName := ⟨RX9, "puff", "(IZ)I"⟩
abbrev cX9_tear : ByteArray := prog_1_method_11_code
def yX9_tear : MethodName := ⟨RX9, "tear", "(I)I"⟩
abbrev cX9_undo : ByteArray := prog_1_method_12_code
def yX9_undo : MethodName := ⟨RX9, "undo", "()I"⟩
abbrev cX9_where : ByteArray := prog_1_method_13_code
def yX9_where : MethodName := ⟨RX9, "where", "(II)I"⟩
abbrev cX9_umbrellas : ByteArray := prog_1_method_14_code
def yX9_umbrellas : MethodName := ⟨RX9, "umbrellas", "(I)I"⟩
abbrev cX9_most : ByteArray := prog_1_method_15_code
def yX9_most : MethodName := ⟨RX9, "most", "()I"⟩
abbrev cX9_lacks : ByteArray := prog_1_method_16_code
def yX9_lacks : MethodName := ⟨RX9, "lacks", "(I)I"⟩
abbrev cX9_puffs : ByteArray := prog_1_method_17_code
def yX9_puffs : MethodName := ⟨RX9, "puffs", "()I"⟩
abbrev cX9_judge : ByteArray := prog_1_method_18_code
def yX9_judge : MethodName := ⟨RX9, "judge", "(IJ)I"⟩
abbrev cX9_see : ByteArray := prog_1_method_19_code
def yX9_see : MethodName := ⟨RX9, "see", "(II)I"⟩
abbrev cX9_unsee : ByteArray := prog_1_method_20_code
def yX9_unsee : MethodName := ⟨RX9, "unsee", "()I"⟩
abbrev cX9_began : ByteArray := prog_1_method_21_code
def yX9_began : MethodName := ⟨RX9, "began", "(I)I"⟩
abbrev cX9_share : ByteArray := prog_1_method_22_code
def yX9_share : MethodName := ⟨RX9, "share", "(IZ)I"⟩
abbrev cX9_rests : ByteArray := prog_1_method_23_code
def yX9_rests : MethodName := ⟨RX9, "rests", "(III)I"⟩
abbrev cX9_fails : ByteArray := prog_1_method_24_code
def yX9_fails : MethodName := ⟨RX9, "fails", "(IIIIZ)I"⟩
abbrev cX9_seed : ByteArray := prog_1_method_25_code
def yX9_seed : MethodName := ⟨RX9, "seed", "(J)J"⟩
abbrev cX9_seasons : ByteArray := prog_1_method_26_code
def yX9_seasons : MethodName := ⟨RX9, "seasons", "(I)I"⟩
abbrev cX9_keep : ByteArray := prog_1_method_27_code
def yX9_keep : MethodName := ⟨RX9, "keep", "(I)I"⟩
abbrev cX9_again : ByteArray := prog_1_method_28_code
def yX9_again : MethodName := ⟨RX9, "again", "(I)I"⟩
abbrev cX9_count : ByteArray := prog_1_method_29_code
def yX9_count : MethodName := ⟨RX9, "count", "(I)I"⟩
abbrev cX9_copyToTrial : ByteArray := prog_1_method_30_code
def yX9_copyToTrial : MethodName := ⟨RX9, "copyToTrial", "()V"⟩
abbrev cX9_playSeason : ByteArray := prog_1_method_31_code
def yX9_playSeason : MethodName := ⟨RX9, "playSeason", "(I)V"⟩
def RX10 : String := "PromisedSnowModel"
def TX10 : u_T := fun k => match k with
  | 0 => ("PromisedSnowModel", "winds", "I", false)
  | 1 => ("PromisedSnowModel", "clouds", "I", false)
  | 2 => ("PromisedSnowModel", "papers", "I", false)
  | 3 => ("PromisedSnowModel", "wind", "[I", true)
  | 4 => ("PromisedSnowModel", "cloudKind", "[I", true)
  | 5 => ("PromisedSnowModel", "paperYard", "[I", true)
  | 6 => ("PromisedSnowModel", "due", "[I", true)
  | 7 => ("PromisedSnowModel", "promised", "[I", true)
  | 8 => ("PromisedSnowModel", "paperKind", "[I", true)
  | 9 => ("PromisedSnowModel", "now", "[I", true)
  | 10 => ("PromisedSnowModel", "readWind", "[I", true)
  | 11 => ("PromisedSnowModel", "readCloud", "[I", true)
  | 12 => ("PromisedSnowModel", "readPaper", "[I", true)
  | 13 => ("PromisedSnowModel", "readWinds", "I", false)
  | 14 => ("PromisedSnowModel", "readClouds", "I", false)
  | 15 => ("PromisedSnowModel", "readPapers", "I", false)
  | 16 => ("PromisedSnowModel", "text", "[I", true)
  | 17 => ("PromisedSnowModel", "length", "I", false)
  | 18 => ("PromisedSnowModel", "at", "I", false)
  | 19 => ("PromisedSnowModel", "faultAt", "I", false)
  | 20 => ("PromisedSnowModel", "there", "I", false)
  | 21 => ("PromisedSnowModel", "served", "[I", true)
  | 22 => ("PromisedSnowModel", "acts", "I", false)
  | 23 => ("PromisedSnowModel", "next", "I", false)
  | 24 => ("PromisedSnowModel", "row", "[I", true)
  | 25 => ("PromisedSnowModel", "seen", "I", false)
  | 26 => ("PromisedSnowModel", "seenYard", "[I", true)
  | 27 => ("PromisedSnowModel", "seenDays", "[I", true)
  | 28 => ("PromisedSnowModel", "seed", "J", false)
  | 29 => ("PromisedSnowModel", "isKept", "[Z", true)
  | _ => ("PromisedSnowModel", "kept", "[I", true)
def tyX10 : Nat → FieldType := fun k => match k with
  | 0 => .int
  | 1 => .int
  | 2 => .int
  | 3 => .array .int
  | 4 => .array .int
  | 5 => .array .int
  | 6 => .array .int
  | 7 => .array .int
  | 8 => .array .int
  | 9 => .array .int
  | 10 => .array .int
  | 11 => .array .int
  | 12 => .array .int
  | 13 => .int
  | 14 => .int
  | 15 => .int
  | 16 => .array .int
  | 17 => .int
  | 18 => .int
  | 19 => .int
  | 20 => .int
  | 21 => .array .int
  | 22 => .int
  | 23 => .int
  | 24 => .array .int
  | 25 => .int
  | 26 => .array .int
  | 27 => .array .int
  | 28 => .long
  | 29 => .array .boolean
  | _ => .array .int
abbrev wsX100 : List Cond := u_ws RX10 TX10 31
theorem nmX10 : ∀ a, a < 31 → ∀ b, b < 31 → a ≠ b → (TX10 a).2.1 ≠ (TX10 b).2.1 := by decide +kernel
theorem tyX10_ok : ∀ k, k < 31 → parseFieldDescriptor (TX10 k).2.2.1 = some (tyX10 k) := by decide +kernel
abbrev cX10_init : ByteArray := prog_12_method_1_code
def yX10_init : MethodName := ⟨RX10, "<init>", "()V"⟩
abbrev cX10_in : ByteArray := prog_12_method_3_code
def yX10_in : MethodName := ⟨RX10, "in", "(JJJ)Z"⟩
abbrev cX10_has : ByteArray := prog_12_method_4_code
def yX10_has : MethodName := ⟨RX10, "has", "(II)Z"⟩
abbrev cX10_ones : ByteArray := prog_12_method_5_code
def yX10_ones : MethodName := ⟨RX10, "ones", "(I)I"⟩
abbrev cX10_lesser : ByteArray := prog_12_method_6_code
def yX10_lesser : MethodName := ⟨RX10, "lesser", "(II)I"⟩
abbrev cX10_write : ByteArray := prog_12_method_7_code
def yX10_write : MethodName := ⟨RX10, "write", "(I)I"⟩
abbrev cX10_wipe : ByteArray := prog_12_method_8_code
def yX10_wipe : MethodName := ⟨RX10, "wipe", "()I"⟩
abbrev cX10_figureOf : ByteArray := prog_12_method_9_code
def yX10_figureOf : MethodName := ⟨RX10, "figureOf", "(II)I"⟩
abbrev cX10_readText : ByteArray := prog_12_method_10_code
def yX10_readText : MethodName := ⟨RX10, "readText", "()I"⟩
abbrev cX10_readPart : ByteArray := prog_12_method_11_code
def yX10_readPart : MethodName := ⟨RX10, "readPart", "(I)V"⟩
abbrev cX10_fault : ByteArray := prog_12_method_12_code
def yX10_fault : MethodName := ⟨RX10, "fault", "()I"⟩
abbrev cX10_pass : ByteArray := prog_12_method_13_code
def yX10_pass : MethodName := ⟨RX10, "pass", "()I"⟩
abbrev cX10_isCloud : ByteArray := prog_12_method_14_code
def yX10_isCloud : MethodName := ⟨RX10, "isCloud", "(I)Z"⟩
abbrev cX10_isPaper : ByteArray := prog_12_method_15_code
def yX10_isPaper : MethodName := ⟨RX10, "isPaper", "(I)Z"⟩
abbrev cX10_windOf : ByteArray := prog_12_method_16_code
def yX10_windOf : MethodName := ⟨RX10, "windOf", "(I)I"⟩
abbrev cX10_blown : ByteArray := prog_12_method_17_code
def yX10_blown : MethodName := ⟨RX10, "blown", "(III)I"⟩
abbrev cX10_owed : ByteArray := prog_12_method_18_code
def yX10_owed : MethodName := ⟨RX10, "owed", "(II)I"⟩
abbrev cX10_holds : ByteArray := prog_12_method_19_code
def yX10_holds : MethodName := ⟨RX10, "holds", "(II)I"⟩
abbrev cX10_takes : ByteArray := prog_12_method_20_code
def yX10_takes : MethodName := ⟨RX10, "takes", "(II)Z"⟩
abbrev cX10_canFall : ByteArray := prog_12_method_21_code
def yX10_canFall : MethodName := ⟨RX10, "canFall", "(III)Z"⟩
abbrev cX10_fallOn : ByteArray := prog_12_method_22_code
def yX10_fallOn : MethodName := ⟨RX10, "fallOn", "(III)V"⟩
abbrev cX10_blow : ByteArray := prog_12_method_23_code
def yX10_blow : MethodName := ⟨RX10, "blow", "(I)V"⟩
abbrev cX10_passOn : ByteArray := prog_12_method_24_code
def yX10_passOn : MethodName := ⟨RX10, "passOn", "(IZ)I"⟩
abbrev cX10_owedInAll : ByteArray := prog_12_method_25_code
def yX10_owedInAll : MethodName := ⟨RX10, "owedInAll", "(I)I"⟩
abbrev cX10_filledInAll : ByteArray := prog_12_method_26_code
def yX10_filledInAll : MethodName := ⟨RX10, "filledInAll", "(I)I"⟩
abbrev cX10_canServe : ByteArray := prog_12_method_27_code
def yX10_canServe : MethodName := ⟨RX10, "canServe", "(III)Z"⟩
abbrev cX10_serves : ByteArray := prog_12_method_28_code
def yX10_serves : MethodName := ⟨RX10, "serves", "(II)I"⟩
abbrev cX10_fallsOn : ByteArray := prog_12_method_29_code
def yX10_fallsOn : MethodName := ⟨RX10, "fallsOn", "(I)I"⟩
abbrev cX10_owedBy : ByteArray := prog_12_method_30_code
def yX10_owedBy : MethodName := ⟨RX10, "owedBy", "(II)I"⟩
abbrev cX10_mostOn : ByteArray := prog_12_method_31_code
def yX10_mostOn : MethodName := ⟨RX10, "mostOn", "(I)I"⟩
abbrev cX10_cloud : ByteArray := prog_12_method_32_code
def yX10_cloud : MethodName := ⟨RX10, "cloud", "(II)I"⟩
abbrev cX10_paper : ByteArray := prog_12_method_33_code
def yX10_paper : MethodName := ⟨RX10, "paper", "(II)I"⟩
abbrev cX10_keepAct : ByteArray := prog_12_method_34_code
def yX10_keepAct : MethodName := ⟨RX10, "keepAct", "()V"⟩
abbrev cX10_day : ByteArray := prog_12_method_35_code
def yX10_day : MethodName := ⟨RX10, "day", "()I"⟩
abbrev cX10_fall : ByteArray := prog_12_method_36_code
def yX10_fall : MethodName := ⟨RX10, "fall", "(II)I"⟩
abbrev cX10_puffOn : ByteArray := prog_12_method_37_code
def yX10_puffOn : MethodName := ⟨RX10, "puffOn", "(IIZ)V"⟩
abbrev cX10_puff : ByteArray := prog_12_method_38_code
def yX10_puff : MethodName := ⟨RX10, "puff", "(IZ)I"⟩
abbrev cX10_tearOn : ByteArray := prog_12_method_39_code
def yX10_tearOn : MethodName := ⟨RX10, "tearOn", "(II)V"⟩
abbrev cX10_tear : ByteArray := prog_12_method_40_code
def yX10_tear : MethodName := ⟨RX10, "tear", "(I)I"⟩
abbrev cX10_undo : ByteArray := prog_12_method_41_code
def yX10_undo : MethodName := ⟨RX10, "undo", "()I"⟩
abbrev cX10_layTrial : ByteArray := prog_12_method_42_code
def yX10_layTrial : MethodName := ⟨RX10, "layTrial", "()V"⟩
abbrev cX10_goOn : ByteArray := prog_12_method_43_code
def yX10_goOn : MethodName := ⟨RX10, "goOn", "(I)V"⟩
abbrev cX10_where : ByteArray := prog_12_method_44_code
def yX10_where : MethodName := ⟨RX10, "where", "(II)I"⟩
abbrev cX10_umbrellas : ByteArray := prog_12_method_45_code
def yX10_umbrellas : MethodName := ⟨RX10, "umbrellas", "(I)I"⟩
abbrev cX10_most : ByteArray := prog_12_method_46_code
def yX10_most : MethodName := ⟨RX10, "most", "()I"⟩
abbrev cX10_lacks : ByteArray := prog_12_method_47_code
def yX10_lacks : MethodName := ⟨RX10, "lacks", "(I)I"⟩
abbrev cX10_power : ByteArray := prog_12_method_48_code
def yX10_power : MethodName := ⟨RX10, "power", "(II)I"⟩
abbrev cX10_puffs : ByteArray := prog_12_method_49_code
def yX10_puffs : MethodName := ⟨RX10, "puffs", "()I"⟩
abbrev cX10_tryThing : ByteArray := prog_12_method_50_code
def yX10_tryThing : MethodName := ⟨RX10, "tryThing", "(III)Z"⟩
abbrev cX10_thousandTo : ByteArray := prog_12_method_51_code
def yX10_thousandTo : MethodName := ⟨RX10, "thousandTo", "(I)J"⟩
abbrev cX10_judge : ByteArray := prog_12_method_52_code
def yX10_judge : MethodName := ⟨RX10, "judge", "(IJ)I"⟩
abbrev cX10_see : ByteArray := prog_12_method_53_code
def yX10_see : MethodName := ⟨RX10, "see", "(II)I"⟩
abbrev cX10_unsee : ByteArray := prog_12_method_54_code
def yX10_unsee : MethodName := ⟨RX10, "unsee", "()I"⟩
abbrev cX10_behind : ByteArray := prog_12_method_55_code
def yX10_behind : MethodName := ⟨RX10, "behind", "(III)I"⟩
abbrev cX10_began : ByteArray := prog_12_method_56_code
def yX10_began : MethodName := ⟨RX10, "began", "(I)I"⟩
abbrev cX10_factorial : ByteArray := prog_12_method_57_code
def yX10_factorial : MethodName := ⟨RX10, "factorial", "(I)I"⟩
abbrev cX10_common : ByteArray := prog_12_method_58_code
def yX10_common : MethodName := ⟨RX10, "common", "(II)I"⟩
abbrev cX10_mostBy : ByteArray := prog_12_method_59_code
def yX10_mostBy : MethodName := ⟨RX10, "mostBy", "(I)I"⟩
abbrev cX10_share : ByteArray := prog_12_method_60_code
def yX10_share : MethodName := ⟨RX10, "share", "(IZ)I"⟩
abbrev cX10_choose : ByteArray := prog_12_method_61_code
def yX10_choose : MethodName := ⟨RX10, "choose", "(II)V"⟩
abbrev cX10_gain : ByteArray := prog_12_method_62_code
def yX10_gain : MethodName := ⟨RX10, "gain", "(IIII)I"⟩
abbrev cX10_isRest : ByteArray := prog_12_method_63_code
def yX10_isRest : MethodName := ⟨RX10, "isRest", "(IIII)Z"⟩
abbrev cX10_rests : ByteArray := prog_12_method_64_code
def yX10_rests : MethodName := ⟨RX10, "rests", "(III)I"⟩
abbrev cX10_fails : ByteArray := prog_12_method_65_code
def yX10_fails : MethodName := ⟨RX10, "fails", "(IIIIZ)I"⟩
abbrev cX10_seed : ByteArray := prog_12_method_66_code
def yX10_seed : MethodName := ⟨RX10, "seed", "(J)J"⟩
abbrev cX10_seasons : ByteArray := prog_12_method_67_code
def yX10_seasons : MethodName := ⟨RX10, "seasons", "(I)I"⟩
abbrev cX10_keep : ByteArray := prog_12_method_68_code
def yX10_keep : MethodName := ⟨RX10, "keep", "(I)I"⟩
abbrev cX10_again : ByteArray := prog_12_method_69_code
def yX10_again : MethodName := ⟨RX10, "again", "(I)I"⟩
abbrev cX10_count : ByteArray := prog_12_method_70_code
def yX10_count : MethodName := ⟨RX10, "count", "(I)I"⟩
def RJ6 : String := "java/lang/Integer"
abbrev cJ6_bitCount_0f7a4 : ByteArray := prog_13_method_49_code
def yJ6_bitCount_0f7a4 : MethodName := ⟨RJ6, "bitCount", "(I)I"⟩
def RJ9 : String := "java/lang/Math"
abbrev cJ9_floorMod_7cf53 : ByteArray := prog_14_method_50_code
def yJ9_floorMod_7cf53 : MethodName := ⟨RJ9, "floorMod", "(II)I"⟩
abbrev cJ9_max_7cf53 : ByteArray := prog_14_method_65_code
def yJ9_max_7cf53 : MethodName := ⟨RJ9, "max", "(II)I"⟩
abbrev cJ9_min_7cf53 : ByteArray := prog_14_method_69_code
def yJ9_min_7cf53 : MethodName := ⟨RJ9, "min", "(II)I"⟩
def RJ0 : String := "java/lang/String"
abbrev cJ0_length_8abf5 : ByteArray := prog_15_method_54_code
def yJ0_length_8abf5 : MethodName := ⟨RJ0, "length", "()I"⟩
abbrev cJ0_isEmpty_aae02 : ByteArray := prog_15_method_55_code
def yJ0_isEmpty_aae02 : MethodName := ⟨RJ0, "isEmpty", "()Z"⟩
abbrev cJ0_charAt_5068e : ByteArray := prog_15_method_56_code
def yJ0_charAt_5068e : MethodName := ⟨RJ0, "charAt", "(I)C"⟩
abbrev cJ0_coder_7d493 : ByteArray := prog_15_method_152_code
def yJ0_coder_7d493 : MethodName := ⟨RJ0, "coder", "()B"⟩
abbrev cJ0_isLatin1_aae02 : ByteArray := prog_15_method_154_code
def yJ0_isLatin1_aae02 : MethodName := ⟨RJ0, "isLatin1", "()Z"⟩
abbrev cJ0_checkIndex_df160 : ByteArray := prog_15_method_155_code
def yJ0_checkIndex_df160 : MethodName := ⟨RJ0, "checkIndex", "(II)V"⟩
def RJ1 : String := "java/lang/StringLatin1"
abbrev cJ1_charAt_3b067 : ByteArray := prog_16_method_2_code
def yJ1_charAt_3b067 : MethodName := ⟨RJ1, "charAt", "([BI)C"⟩
def RJ2 : String := "java/lang/StringUTF16"
abbrev cJ2_getChar_3b067 : ByteArray := prog_17_method_5_code
def yJ2_getChar_3b067 : MethodName := ⟨RJ2, "getChar", "([BI)C"⟩
abbrev cJ2_length_9d52b : ByteArray := prog_17_method_6_code
def yJ2_length_9d52b : MethodName := ⟨RJ2, "length", "([B)I"⟩
abbrev cJ2_charAt_3b067 : ByteArray := prog_17_method_83_code
def yJ2_charAt_3b067 : MethodName := ⟨RJ2, "charAt", "([BI)C"⟩
abbrev cJ2_checkIndex_2214a : ByteArray := prog_17_method_91_code
def yJ2_checkIndex_2214a : MethodName := ⟨RJ2, "checkIndex", "(I[B)V"⟩
def RJ10 : String := "java/lang/System"
def RJ3 : String := "jdk/internal/util/Preconditions"
abbrev cJ3_checkIndex_8e157 : ByteArray := prog_19_method_11_code
def yJ3_checkIndex_8e157 : MethodName := ⟨RJ3, "checkIndex", "(IILjava/util/function/BiFunction;)I"⟩
def RL : String := "PromisedSnowLaw"
abbrev cL_law : ByteArray := code
def yL_law : MethodName := ⟨RL, "law", "([I)Z"⟩
abbrev vwCl : List vw_C := [(RX0, TX0, 3), (RX1, TX1, 3), (RX3, TX3, 11), (RX4, TX4, 4), (RX5, TX5, 2), (RX6, TX6, 6), (RX7, TX7, 3), (RX8, TX8, 7), (RX9, TX9, 14), (RX10, TX10, 31)]

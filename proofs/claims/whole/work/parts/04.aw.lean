/-! THE ABSTRACT LAYER. One world of fixed shape for class and reference: cell k stands at G.1 k; what it holds is read off Z (ints, by cell and place) and Y (the one long of a cell). -/
abbrev aG : Type := (Nat → Nat) × (Nat → ClassId) × va_G × (Nat → Nat) × (Nat → Nat)
abbrev aZ : Type := Nat → Int → Int
abbrev aY : Type := Nat → Int64
def aI (z : Int) : Int32 := Int32.ofInt z
def aJ (z : Int) : Int64 := Int64.ofInt z
/-- the shape of a cell: (0, class, fields: 0 int, 1 long, k+2 the cell k), (1, t, [length]) an array (t: 0 int, 1 boolean), (2, b, [length]) an array of the arrays b, b+1 .. -/
abbrev aSt : Type := Nat × Nat × List Nat

def aShL : List aSt := [(0, 8, [3, 5, 14, 18, 22, 38, 41, 50, 53, 58, 61, 62, 63, 1]), (0, 4, [4, 0]), (1, 0, [52]), (0, 2, [6, 7, 8, 9, 10, 11, 12, 13, 0, 0, 0]), (1, 0, [4]), (1, 0, [4]), (1, 0, [4]), (1, 0, [4]), (1, 0, [5]), (1, 0, [5]), (1, 0, [5]), (1, 0, [5]), (0, 7, [5, 15, 16, 17, 0, 0, 0]), (1, 0, [4]), (1, 0, [4]), (1, 0, [5]), (0, 7, [5, 19, 20, 21, 0, 0, 0]), (1, 0, [4]), (1, 0, [4]), (1, 0, [5]), (0, 0, [23, 0, 0]), (2, 22, [14]), (1, 0, [16]), (1, 0, [16]), (1, 0, [16]), (1, 0, [16]), (1, 0, [16]), (1, 0, [16]), (1, 0, [16]), (1, 0, [16]), (1, 0, [16]), (1, 0, [16]), (1, 0, [16]), (1, 0, [16]), (1, 0, [16]), (1, 0, [16]), (0, 6, [39, 40, 0]), (1, 0, [6]), (1, 0, [6]), (0, 5, [42, 43, 44, 45, 0, 0]), (1, 0, [4]), (1, 0, [4]), (1, 0, [5]), (2, 44, [4]), (1, 0, [6]), (1, 0, [6]), (1, 0, [6]), (1, 0, [6]), (0, 1, [51, 52, 0]), (1, 0, [6]), (1, 0, [6]), (0, 3, [54, 55, 56, 57]), (1, 0, [3]), (1, 0, [3]), (1, 0, [3]), (1, 0, [3]), (2, 57, [2]), (1, 0, [16]), (1, 0, [16]), (1, 1, [2]), (1, 0, [16]), (1, 0, [4]), (0, 9, [0, 0, 0, 65, 66, 67, 68, 69, 70, 71, 72, 73, 74, 0, 0, 0, 75, 0, 0, 0, 0, 76, 0, 0, 77, 0, 78, 79, 1, 80, 81]), (1, 0, [4]), (1, 0, [4]), (1, 0, [5]), (1, 0, [5]), (1, 0, [5]), (1, 0, [5]), (1, 0, [32]), (1, 0, [4]), (1, 0, [12]), (1, 0, [20]), (1, 0, [52]), (1, 0, [4]), (1, 0, [224]), (1, 0, [6]), (1, 0, [6]), (1, 1, [2]), (1, 0, [32])]
def aSh (k : Nat) : aSt := aShL.getD k (9, 0, [])
def aFv (G : aG) (f : Int → Int) (x : Int64) (j : Nat) : Nat → Value
  | 0 => .int (aI (f j))
  | 1 => .long x
  | k + 2 => .ref (G.1 k)
def aFs (G : aG) (f : Int → Int) (x : Int64) : List Nat → Nat → List Value
  | [], _ => []
  | kd :: t, j => aFv G f x j kd :: aFs G f x t (j + 1)
def aMk (G : aG) (f : Int → Int) (x : Int64) : aSt → va_E
  | (0, ci, ks) => .inr (ci, aFs G f x ks 0)
  | (1, t, ks) => .inl (G.2.1 t, ks.headD 0, .inl (fun j => aI (f (j : Int))))
  | (_, b, ks) => .inl (G.2.1 2, ks.headD 0, .inr (.inr (.inr (.inr (fun j => if j < ks.headD 0 then some (G.1 (b + j)) else none)))))
def aW (G : aG) (Z : aZ) (Y : aY) : va_W := (List.range 80).map (fun k => (G.1 k, aMk G (Z k) (Y k) (aSh k)))
theorem aW_get {G : aG} {Z : aZ} {Y : aY} {k : Nat} (h : k < 80) : (aW G Z Y)[k]? = some (G.1 k, aMk G (Z k) (Y k) (aSh k)) := by
  unfold aW
  rw [List.getElem?_map, List.getElem?_range h]
  rfl
def aUp (Z : aZ) (k : Nat) (g : Int → Int) : aZ := fun a => if a = k then g else Z a
def aUy (Y : aY) (k : Nat) (x : Int64) : aY := fun a => if a = k then x else Y a
theorem aW_set {G : aG} {Z : aZ} {Y : aY} {k : Nat} {g : Int → Int} {x : Int64} (_h : k < 80) : (aW G Z Y).set k (G.1 k, aMk G g x (aSh k)) = aW G (aUp Z k g) (aUy Y k x) := by
  apply List.ext_getElem?
  intro i
  by_cases hi : i < 80
  · rw [aW_get hi]
    by_cases hk : i = k
    · subst hk
      rw [List.getElem?_set_self (by simp [aW]; omega)]
      simp [aUp, aUy]
    · rw [List.getElem?_set_ne (Ne.symm hk), aW_get hi]
      simp [aUp, aUy, hk]
  · rw [List.getElem?_eq_none (by simp [aW]; omega), List.getElem?_eq_none (by simp [aW]; omega)]
theorem aUy_self {Y : aY} {k : Nat} : aUy Y k (Y k) = Y := by
  funext a
  unfold aUy
  split
  · rename_i h; rw [h]
  · rfl
theorem aW_setZ {G : aG} {Z : aZ} {Y : aY} {k : Nat} {g : Int → Int} (h : k < 80) : (aW G Z Y).set k (G.1 k, aMk G g (Y k) (aSh k)) = aW G (aUp Z k g) Y := by
  rw [aW_set h, aUy_self]
theorem aUp_self {Z : aZ} {k : Nat} : aUp Z k (Z k) = Z := by
  funext a
  unfold aUp
  split
  · rename_i h; rw [h]
  · rfl
theorem aW_setY {G : aG} {Z : aZ} {Y : aY} {k : Nat} {x : Int64} (h : k < 80) : (aW G Z Y).set k (G.1 k, aMk G (Z k) x (aSh k)) = aW G Z (aUy Y k x) := by
  rw [aW_set h, aUp_self]
/-- one place of one cell -/
def aU (Z : aZ) (k : Nat) (j : Int) (v : Int) : aZ := fun a b => if a = k then (if b = j then v else Z a b) else Z a b
theorem aU_up {Z : aZ} {k : Nat} {j v : Int} : aUp Z k (fun b => if b = j then v else Z k b) = aU Z k j v := by
  funext a b
  unfold aUp aU
  by_cases h : a = k
  · subst h; simp
  · simp [h]
theorem aU_eq {Z : aZ} {k : Nat} {j v : Int} : aU Z k j v k j = v := by simp [aU]
theorem aU_ne {Z : aZ} {k a : Nat} {j v b : Int} (h : a ≠ k) : aU Z k j v a b = Z a b := by simp [aU, h]
theorem aU_nj {Z : aZ} {k a : Nat} {j v b : Int} (h : b ≠ j) : aU Z k j v a b = Z a b := by
  unfold aU; split <;> simp [h]
theorem aU_at {Z : aZ} {k : Nat} {j v b : Int} : aU Z k j v k b = if b = j then v else Z k b := by simp [aU]
theorem aU_row {Z : aZ} {k a : Nat} {j v : Int} (h : a ≠ k) : aU Z k j v a = Z a := by funext b; simp [aU, h]
/-- every int of the heap is small -/
def aB (Z : aZ) : Prop := ∀ (k : Nat) (j : Int), -100000000 ≤ Z k j ∧ Z k j ≤ 100000000
theorem aB_u {Z : aZ} {k : Nat} {j v : Int} (h : aB Z) (hv : -100000000 ≤ v ∧ v ≤ 100000000) : aB (aU Z k j v) := by
  intro a b
  unfold aU
  split
  · split
    · exact hv
    · exact h a b
  · exact h a b
/-! numbers -/
theorem aI_toInt {z : Int} (h : -2147483648 ≤ z ∧ z < 2147483648) : (aI z).toInt = z := Int32.toInt_ofInt_of_le (by omega) (by omega)
theorem aI_of (x : Int32) : aI x.toInt = x := Int32.ofInt_toInt x
theorem aI_rng (x : Int32) : -2147483648 ≤ x.toInt ∧ x.toInt < 2147483648 := ⟨x.le_toInt, x.toInt_lt⟩
theorem aI_lt {x y : Int} (hx : -2147483648 ≤ x ∧ x < 2147483648) (hy : -2147483648 ≤ y ∧ y < 2147483648) : aI x < aI y ↔ x < y := by
  rw [Int32.lt_iff_toInt_lt, aI_toInt hx, aI_toInt hy]
theorem aI_le {x y : Int} (hx : -2147483648 ≤ x ∧ x < 2147483648) (hy : -2147483648 ≤ y ∧ y < 2147483648) : aI x ≤ aI y ↔ x ≤ y := by
  rw [Int32.le_iff_toInt_le, aI_toInt hx, aI_toInt hy]
theorem aI_inj {x y : Int} (hx : -2147483648 ≤ x ∧ x < 2147483648) (hy : -2147483648 ≤ y ∧ y < 2147483648) : aI x = aI y ↔ x = y := by
  rw [← Int32.toInt_inj, aI_toInt hx, aI_toInt hy]
theorem aI_add {x y : Int} : aI x + aI y = aI (x + y) := (Int32.ofInt_add x y).symm
theorem aI_sub {x y : Int} : aI x - aI y = aI (x - y) := (Int32.ofInt_sub x y).symm
theorem aI_mul {x y : Int} : aI x * aI y = aI (x * y) := (Int32.ofInt_mul x y).symm
theorem aI_neg {x : Int} : -aI x = aI (-x) := (Int32.ofInt_neg x).symm
theorem aI_nat (n : Nat) : aI (n : Int) = nI n := by
  apply Int32.toBitVec_inj.mp
  show BitVec.ofInt 32 (n : Int) = BitVec.ofNat 32 n
  simp
theorem aI_eqN {x : Int} (h : 0 ≤ x) : aI x = nI x.toNat := by rw [← aI_nat, Int.toNat_of_nonneg h]
theorem aI_div {x y : Int} (hx : 0 ≤ x ∧ x < 2147483648) (hy : 0 < y ∧ y < 2147483648) : aI x / aI y = aI (x / y) := by
  obtain ⟨n, rfl⟩ := Int.eq_ofNat_of_zero_le hx.1
  obtain ⟨d, rfl⟩ := Int.eq_ofNat_of_zero_le (Int.le_of_lt hy.1)
  rw [show ((n : Int) / (d : Int)) = ((n / d : Nat) : Int) from (Int.natCast_ediv n d).symm, aI_nat, aI_nat, aI_nat]
  exact pk_div (by omega) (by omega) (by omega)
theorem aI_rem {x y : Int} (hx : 0 ≤ x ∧ x < 2147483648) (hy : 0 < y ∧ y < 2147483648) : aI x - aI x / aI y * aI y = aI (x % y) := by
  rw [aI_div hx hy, aI_mul, aI_sub]
  congr 1
  have := Int.mul_ediv_add_emod x y
  rw [Int.mul_comm] at this
  omega
theorem aI_ne0 {y : Int} (hy : y ≠ 0 ∧ -2147483648 ≤ y ∧ y < 2147483648) : ¬ aI y = 0 := by
  intro h
  have h2 : aI y = aI 0 := h
  rw [aI_inj hy.2 (by omega)] at h2
  exact hy.1 h2
theorem aI_idx {z : Int} {n : Nat} (h : 0 ≤ z ∧ z < (n : Int)) (hn : n < 2147483648) : vp_in (aI z) n := by
  rw [vp_in_iff, aI_toInt (by omega)]
  exact h
theorem aI_clamp {z : Int} (h : 0 ≤ z ∧ z < 2147483648) : (aI z).toNatClampNeg = z.toNat := by
  rw [aI_eqN h.1]
  exact nI_clamp (by omega)
theorem aI_sm {y : Nat} (hy : y < 32) : ((aI (y : Int) &&& 31).toBitVec.smod 32).toNat = y := by
  rw [aI_nat]
  have : ∀ n, n < 32 → ((nI n &&& 31).toBitVec.smod 32).toNat = n := by decide +kernel
  exact this y hy
theorem aI_shl {x : Int} {y : Int} (hx : 0 ≤ x) (hy : 0 ≤ y ∧ y < 31) (h : x * 2 ^ y.toNat < 2147483648) : aI x <<< (aI y &&& 31) = aI (x * 2 ^ y.toNat) := by
  obtain ⟨n, rfl⟩ := Int.eq_ofNat_of_zero_le hx
  obtain ⟨d, rfl⟩ := Int.eq_ofNat_of_zero_le hy.1
  have h2 : n * 2 ^ d < 2 ^ 31 := by
    have : ((n * 2 ^ d : Nat) : Int) < 2147483648 := by simpa using h
    omega
  rw [show ((n : Int) * 2 ^ (d : Int).toNat) = ((n * 2 ^ d : Nat) : Int) by simp, aI_nat, aI_nat (n * 2 ^ d)]
  exact pk_shlN _ d (aI_sm (by omega)) (by omega)
theorem aI_shr {x : Int} {y : Int} (hx : 0 ≤ x ∧ x < 2147483648) (hy : 0 ≤ y ∧ y < 32) : aI x >>> (aI y &&& 31) = aI (x / 2 ^ y.toNat) := by
  obtain ⟨n, rfl⟩ := Int.eq_ofNat_of_zero_le hx.1
  obtain ⟨d, rfl⟩ := Int.eq_ofNat_of_zero_le hy.1
  rw [show ((n : Int) / 2 ^ (d : Int).toNat) = ((n / 2 ^ d : Nat) : Int) by simp, aI_nat, aI_nat (n / 2 ^ d)]
  exact pk_shrN (by omega) _ d (aI_sm (by omega))
theorem nI_andA (a b : Nat) : nI a &&& nI b = nI (a &&& b) := by
  apply Int32.toBitVec_inj.mp
  show BitVec.ofNat 32 a &&& BitVec.ofNat 32 b = BitVec.ofNat 32 (a &&& b)
  apply BitVec.eq_of_toNat_eq
  rw [BitVec.toNat_and]
  simp only [BitVec.toNat_ofNat]
  exact (Nat.and_mod_two_pow (n := 32)).symm
theorem nI_orA (a b : Nat) : nI a ||| nI b = nI (a ||| b) := by
  apply Int32.toBitVec_inj.mp
  show BitVec.ofNat 32 a ||| BitVec.ofNat 32 b = BitVec.ofNat 32 (a ||| b)
  apply BitVec.eq_of_toNat_eq
  rw [BitVec.toNat_or]
  simp only [BitVec.toNat_ofNat]
  exact (Nat.or_mod_two_pow (n := 32)).symm
/-- bitwise and, or of numbers that aren't negative -/
def aAnd (x y : Int) : Int := ((x.toNat &&& y.toNat : Nat) : Int)
def aOr (x y : Int) : Int := ((x.toNat ||| y.toNat : Nat) : Int)
theorem aI_and {x y : Int} (hx : 0 ≤ x) (hy : 0 ≤ y) : aI x &&& aI y = aI (aAnd x y) := by
  rw [aAnd, aI_nat, aI_eqN hx, aI_eqN hy]
  exact nI_andA _ _
theorem aI_or {x y : Int} (hx : 0 ≤ x) (hy : 0 ≤ y) : aI x ||| aI y = aI (aOr x y) := by
  rw [aOr, aI_nat, aI_eqN hx, aI_eqN hy]
  exact nI_orA _ _
theorem aAnd_1 (x : Int) (h : 0 ≤ x) : aAnd x 1 = x % 2 := by
  unfold aAnd
  rw [show (1 : Int).toNat = 1 from rfl, Nat.and_one_is_mod]
  omega

/-! the words that every method may use: those of the tables that keep, whatever the state -/
def aT : List Cond := lw_tbl.filter goodWord
theorem aT_mem {w : Cond} (h : w ∈ lw_tbl) (g : goodWord w = true) : w ∈ aT := List.mem_filter.mpr ⟨h, g⟩
theorem aT_in {w : Cond} (h : w ∈ aT) : w ∈ lw_tbl := (List.mem_filter.mp h).1
theorem aT_at {i : Nat} {w : Cond} (h : lw_tbl[i]? = some w) (g : goodWord w = true) : w ∈ aT := aT_mem (List.mem_of_getElem? h) g
theorem aT_good {y : MethodName} {b : ByteArray} {n : Nat} {r : Option FieldType} {y2 : MethodName} {b2 : ByteArray} {n2 : Nat} {r2 : Option FieldType} (h : Cond.code y b n r ∈ aT) : GoodIn (Cond.code y2 b2 n2 r2 :: aT) (Cond.code y b n r :: aT) := by
  intro w hw
  rcases List.mem_cons.mp hw with rfl | h2
  · exact ⟨List.mem_cons_of_mem _ h, good_of_word (List.mem_filter.mp h).2⟩
  · exact ⟨List.mem_cons_of_mem _ h2, good_of_word (List.mem_filter.mp h2).2⟩
theorem aT_goodT {y : MethodName} {b : ByteArray} {n : Nat} {r : Option FieldType} (h : Cond.code y b n r ∈ aT) : GoodIn aT (Cond.code y b n r :: aT) := by
  intro w hw
  rcases List.mem_cons.mp hw with rfl | h2
  · exact ⟨h, good_of_word (List.mem_filter.mp h).2⟩
  · exact ⟨h2, good_of_word (List.mem_filter.mp h2).2⟩
/-! the String constants of the class: place in its pool, text, bytes -/
def aSx : List Nat := [47, 49, 51, 53, 55, 57, 59]
def aSt7 : List String := ["0", "010", "0110", "", "2", "593", "5993"]
def aSl : List Nat := [1, 3, 4, 0, 1, 3, 4]
def aSb : List (List Int32) := [[48], [48, 49, 48], [48, 49, 49, 48], [], [50], [53, 57, 51], [53, 57, 57, 51]]
def aStr (G : aG) (A : Nat → Prop) (U : State) : Prop := (vk_S 7 aSl aSb G.2.2.2.1 G.2.2.2.2 A U U.heap ∧ va_Z "java/lang/String" "COMPACT_STRINGS" "Z" (.int 1) A U U.heap ∧ va_Zq "jdk/internal/util/Preconditions" "SIOOBE_FORMATTER" "Ljava/util/function/BiFunction;" A U U.heap) ∧ ∀ i, i < 7 → vk_R "PromisedSnow$Script" (aSx.getD i 0) (aSt7.getD i "") (G.2.2.2.1 i) U
def aTys (G : aG) : List (ClassId × FieldType) := [(G.2.1 0, .int), (G.2.1 1, .boolean), (G.2.1 2, .array .int)]
/-- what a method finds at its start -/
def aWorld (G : aG) (Z : aZ) (Y : aY) (sz : Nat) (U : State) : Prop := U.heap.size = sz ∧ va_P G.2.2.1 vwCl (aW G Z Y) U.heap ∧ va_K G.2.2.1 vwCl (aTys G) U ∧ va_D (fun _ => True) (aW G Z Y) ∧ aStr G (va_A (aW G Z Y) sz) U
/-- what it leaves -/
def aQ (G : aG) (A : Nat → Prop) (Post : Option Value → aZ → aY → Prop) : Array Value → State → Outcome → State → Prop := fun _ st oc t => (∃ (r : Option Value) (Z' : aZ) (Y' : aY), oc = .returned r ∧ Post r Z' Y' ∧ va_P G.2.2.1 vwCl (aW G Z' Y') t.heap) ∧ va_F A st t
/-- A CONTRACT: from the arguments av and the world Z, Y the method returns, with Post of the answer and the world behind it; no cell is made, no other cell changes -/
def aS (G : aG) (y : MethodName) (cc : ByteArray) (nL : Nat) (ret : Option FieldType) (fr lo : Nat) (av : List Value) (Z : aZ) (Y : aY) (Post : Option Value → aZ → aY → Prop) : Prop :=
  ∀ (l : Launch) (sz : Nat), Met l y (Cond.code y cc nL ret :: aT) { frames := fr, cells := 0, slots := 0, locals := lo } (va_Pc av (aWorld G Z Y sz)) (aQ G (va_A (aW G Z Y) sz) Post) 0 0 (va_A (aW G Z Y) sz)
theorem aW_addr {G : aG} {Z Z' : aZ} {Y Y' : aY} {k : Nat} {q : Nat × va_E} (h : (aW G Z Y)[k]? = some q) : ∃ e, (aW G Z' Y')[k]? = some (q.1, e) := by
  have hk : k < 80 := by
    have := (List.getElem?_eq_some_iff.mp h).1
    simpa [aW] using this
  rw [aW_get hk] at h
  cases h
  exact ⟨_, aW_get hk⟩
theorem aW_D {G : aG} {Z Z' : aZ} {Y Y' : aY} {A : Nat → Prop} (h : va_D A (aW G Z Y)) : va_D A (aW G Z' Y') := by
  refine ⟨fun i j p q hi hj e => ?_, fun k q hk => ?_⟩
  · obtain ⟨e1, h1⟩ := aW_addr (Z' := Z) (Y' := Y) hi
    obtain ⟨e2, h2⟩ := aW_addr (Z' := Z) (Y' := Y) hj
    exact h.1 i j _ _ h1 h2 e
  · obtain ⟨e1, h1⟩ := aW_addr (Z' := Z) (Y' := Y) hk
    exact h.2 k (q.1, e1) h1
theorem aW_A {G : aG} {Z Z' : aZ} {Y Y' : aY} {sz : Nat} {q : Nat} (h : va_A (aW G Z Y) sz q) : va_A (aW G Z' Y') sz q := by
  rcases h with ⟨k, e, h⟩ | h
  · obtain ⟨e1, h1⟩ := aW_addr (Z' := Z') (Y' := Y') h
    exact Or.inl ⟨k, e1, h1⟩
  · exact Or.inr h
/-! the frame -/
def aLoc (ls : Array Slot) (n : Nat) (lv : List (Option Value)) : Prop := ls.size = n ∧ lv_wf ls ∧ ∀ (i : Nat) (v : Value), lv[i]? = some (some v) → ls[i]? = some (.val v)
abbrev aX : Type := Program × Launch × Env × Room × State × MethodId × Array Value × List Frame × Method × Code × (Nat → Prop) × Nat × Nat × (State → Prop)
/-- W at a frame, over the world: from every heap that holds it -/
def AW (X : aX) (G : aG) (pc : Nat) (lv : List (Option Value)) (st : List Value) (Z : aZ) (Y : aY) : Prop :=
  match X with
  | (p, l, e, R, s, m, args, below, meth, c, A, cs, sl, Q) => ∀ (H : Heap) (locs : List Loc) (ls : Array Slot), aLoc ls c.maxLocals lv → va_P G.2.2.1 vwCl (aW G Z Y) H → va_D A (aW G Z Y) → va_S A s.heap H locs → W p l e R s m args below meth c H locs cs sl Q (F0 m pc ls st)
/-- what stands fast in a method's walk -/
def aOK (X : aX) (G : aG) (own : String) (cc : ByteArray) (nL : Nat) (ret : Option FieldType) (fr lo : Nat) : Prop :=
  match X with
  | (p, _, _, R, s, m, args, _, meth, c, A, cs, sl, _) => p.tables.exec = Jvm.exec ∧ c.code = cc ∧ c.maxLocals = nL ∧ s.vm.findClass own = some m.cls ∧ (∀ w ∈ aT, w.before args s = true) ∧ va_K G.2.2.1 vwCl (aTys G) s ∧ (∀ q, s.heap.size ≤ q → A q) ∧ meth.locks = false ∧ meth.sig.returnType = ret ∧ (fr ≤ R.frames ∧ lo ≤ R.locals ∧ cs ≤ R.cells ∧ sl ≤ R.slots) ∧ aStr G A s
/-- returning r with the world Z, Y is what was asked -/
def aRet (X : aX) (G : aG) (r : Option Value) (Z : aZ) (Y : aY) : Prop :=
  match X with
  | (_, _, _, _, s, _, args, below, _, _, A, cs, sl, Q) => ∃ (Qc : Array Value → State → Outcome → State → Prop) (free : Addr → Prop), Q = MQ below Qc args s cs sl free ∧ ∀ (H : Heap) (locs : List Loc), va_P G.2.2.1 vwCl (aW G Z Y) H → va_S A s.heap H locs → (∀ t : State, t.heap = H → s.WarmedH t.vm → Qc args s (.returned r) t) ∧ ∀ q ∈ locs, free q.base
def aEnt : List Value → List (Option Value)
  | [] => []
  | v :: t => if v.category = 2 then some v :: none :: aEnt t else some v :: aEnt t
theorem aEnt_args : ∀ (vs : List Value) (i0 i : Nat) (v : Value), (aEnt vs)[i]? = some (some v) → (i0 + i, v) ∈ lv_args i0 vs
  | [], i0, i, v, h => by simp [aEnt] at h
  | w :: t, i0, i, v, h => by
    unfold aEnt at h
    unfold lv_args
    by_cases hc : w.category = 2
    · rw [if_pos hc] at h
      rw [if_pos hc]
      match i, h with
      | 0, h => simp at h; subst h; simp
      | 1, h => simp at h
      | i + 2, h =>
        simp at h
        have := aEnt_args t (i0 + 2) i v h
        rw [show i0 + (i + 2) = i0 + 2 + i by omega]
        exact List.mem_cons_of_mem _ this
    · rw [if_neg hc] at h
      rw [if_neg hc]
      match i, h with
      | 0, h => simp at h; subst h; simp
      | i + 1, h =>
        simp at h
        have := aEnt_args t (i0 + 1) i v h
        rw [show i0 + (i + 1) = i0 + 1 + i by omega]
        exact List.mem_cons_of_mem _ this
theorem aLoc_entry (vs : List Value) {n : Nat} (h : (lg_sl vs).length ≤ n) (k : Nat) : aLoc ((lg_sl vs ++ List.replicate (n - (lg_sl vs).length) Slot.unset).toArray) n (aEnt vs ++ List.replicate k none) := by
  obtain ⟨h1, h2, h3⟩ := lv_entry vs h
  refine ⟨h1, h2, fun i v hv => ?_⟩
  have hv2 : (aEnt vs)[i]? = some (some v) := by
    by_cases hi : i < (aEnt vs).length
    · rwa [List.getElem?_append_left hi] at hv
    · rw [List.getElem?_append_right (by omega)] at hv
      rw [List.getElem?_replicate] at hv
      split at hv <;> simp at hv
  have := aEnt_args vs 0 i v hv2
  rw [Nat.zero_add] at this
  exact h3 _ this
set_option maxHeartbeats 1000000 in
theorem aS.of {G : aG} {y : MethodName} {cc : ByteArray} {nL : Nat} {ret : Option FieldType} {fr lo : Nat} {av : List Value} {Z : aZ} {Y : aY} {Post : Option Value → aZ → aY → Prop} {own : String} (hy : plainName y.cls = true) (ho : y.cls = own) (k : Nat) (hn : (lg_sl av).length ≤ nL)
    (h : ∀ X : aX, aOK X G own cc nL ret fr lo → (∀ r Z' Y', Post r Z' Y' → aRet X G r Z' Y') → AW X G 0 (aEnt av ++ List.replicate k none) [] Z Y) : aS G y cc nL ret fr lo av Z Y Post := by
  intro l sz
  refine Met.ofW (cc := cc) (maxL := nL) (ret := ret) hy rfl ?_
  intro p e s m args below meth c s₁ B hml hv
  obtain ⟨rfl, hsz, hP, hK, hD0, hSt⟩ := hv
  have hts := atoms_spec (ws := Cond.code y cc nL ret :: aT) B.pre
  have hown : s.vm.findClass own = some m.cls := by rw [← ho]; exact findClass_of_methodNamed B.named
  subst hsz
  have hD := hD0.self (sz := s.heap.size)
  have hS : va_S (va_A (aW G Z Y) s.heap.size) s.heap s.heap [] := va_S.rf
  have hl := aLoc_entry av hn k
  rw [lg_entry_eq]
  exact h (p, l, e, (headSpec (Cond.code y cc nL ret :: aT) { frames := fr, cells := 0, slots := 0, locals := lo }).room, s, m, av.toArray, below, meth, c, va_A (aW G Z Y) s.heap.size, 0, 0, MQ below (aQ G (va_A (aW G Z Y) s.heap.size) Post) av.toArray s 0 0 (va_A (aW G Z Y) s.heap.size))
    ⟨B.exec, B.bytes, hml, hown, fun w hw => hts w (List.mem_cons_of_mem _ hw), hK, fun q hq => Or.inr hq, B.notSynchronized, B.returns, ⟨Nat.le_refl _, Nat.le_refl _, Nat.le_refl _, Nat.le_refl _⟩, hSt⟩
    (fun r Z' Y' hp => ⟨_, _, rfl, fun H locs hP' hS' => ⟨fun t ht hW => ⟨⟨r, Z', Y', rfl, hp, by rw [ht]; exact hP'⟩, hS'.F ht⟩, hS'.2.2⟩⟩)
    s.heap [] _ (by rw [hml]; exact hl) hP hD hS


theorem a_iushr32 {X : aX} {G : aG} {own : String} {cc : ByteArray} {nL : Nat} {ret : Option FieldType} {fr lo : Nat} (hX : aOK X G own cc nL ret fr lo) {pc pc' : Nat} {lv : List (Option Value)} {st : List Value} {Z : aZ} {Y : aY} {x y : Int32} (hdg : decode cc pc = .ok (.iushr, 1)) (hp : pc + 1 = pc') (k : AW X G pc' lv (.int (x.toUInt32 >>> (y.toUInt32 &&& Int32.toUInt32 31)).toInt32 :: st) Z Y) : AW X G pc lv (.int y :: .int x :: st) Z Y := by
  obtain ⟨p, l, e, R, s, m, args, below, meth, c, A, cs, sl, Q⟩ := X
  obtain ⟨hx, hb, hml, hown, hts, hK, hA, hlk, hr, hR, hSt⟩ := hX
  subst hp
  intro H locs ls hL hP hD hS
  refine lv_iushr hx hb hdg rfl ?_
  exact k H locs ls hL hP hD hS

theorem a_isub32 {X : aX} {G : aG} {own : String} {cc : ByteArray} {nL : Nat} {ret : Option FieldType} {fr lo : Nat} (hX : aOK X G own cc nL ret fr lo) {pc pc' : Nat} {lv : List (Option Value)} {st : List Value} {Z : aZ} {Y : aY} {x y : Int32} (hdg : decode cc pc = .ok (.isub, 1)) (hp : pc + 1 = pc') (k : AW X G pc' lv (.int (x - y) :: st) Z Y) : AW X G pc lv (.int y :: .int x :: st) Z Y := by
  obtain ⟨p, l, e, R, s, m, args, below, meth, c, A, cs, sl, Q⟩ := X
  obtain ⟨hx, hb, hml, hown, hts, hK, hA, hlk, hr, hR, hSt⟩ := hX
  subst hp
  intro H locs ls hL hP hD hS
  refine lv_isub hx hb hdg ?_
  exact k H locs ls hL hP hD hS

theorem a_iadd32 {X : aX} {G : aG} {own : String} {cc : ByteArray} {nL : Nat} {ret : Option FieldType} {fr lo : Nat} (hX : aOK X G own cc nL ret fr lo) {pc pc' : Nat} {lv : List (Option Value)} {st : List Value} {Z : aZ} {Y : aY} {x y : Int32} (hdg : decode cc pc = .ok (.iadd, 1)) (hp : pc + 1 = pc') (k : AW X G pc' lv (.int (x + y) :: st) Z Y) : AW X G pc lv (.int y :: .int x :: st) Z Y := by
  obtain ⟨p, l, e, R, s, m, args, below, meth, c, A, cs, sl, Q⟩ := X
  obtain ⟨hx, hb, hml, hown, hts, hK, hA, hlk, hr, hR, hSt⟩ := hX
  subst hp
  intro H locs ls hL hP hD hS
  refine lv_iadd hx hb hdg ?_
  exact k H locs ls hL hP hD hS

theorem a_ldcw {X : aX} {G : aG} {own : String} {cc : ByteArray} {nL : Nat} {ret : Option FieldType} {fr lo : Nat} (hX : aOK X G own cc nL ret fr lo) {pc pc' : Nat} {lv : List (Option Value)} {st : List Value} {Z : aZ} {Y : aY} {idx : Nat} {v : Int32} (hw : Cond.constant own idx v ∈ aT) (hdg : decode cc pc = .ok (.ldc_w idx, 3)) (hp : pc + 3 = pc') (k : AW X G pc' lv (.int v :: st) Z Y) : AW X G pc lv (st) Z Y := by
  obtain ⟨p, l, e, R, s, m, args, below, meth, c, A, cs, sl, Q⟩ := X
  obtain ⟨hx, hb, hml, hown, hts, hK, hA, hlk, hr, hR, hSt⟩ := hX
  subst hp
  intro H locs ls hL hP hD hS
  refine lv_ldcw hx hb hown (hts _ hw) hdg ?_
  exact k H locs ls hL hP hD hS

theorem w_k265 : Cond.constant RJ6 265 1431655765 ∈ aT := aT_at (i := 703) (by decide +kernel) (by decide +kernel)

theorem w_k266 : Cond.constant RJ6 266 858993459 ∈ aT := aT_at (i := 704) (by decide +kernel) (by decide +kernel)

theorem w_k267 : Cond.constant RJ6 267 252645135 ∈ aT := aT_at (i := 705) (by decide +kernel) (by decide +kernel)

/-- Integer.bitCount, as its bytecode has it -/
def bcU (x y : Int32) : Int32 := (x.toUInt32 >>> (y.toUInt32 &&& Int32.toUInt32 31)).toInt32
def bc1 (x : Int32) : Int32 := x - (bcU x (aI 1) &&& 1431655765)
def bc2 (x : Int32) : Int32 := (x &&& 858993459) + (bcU x (aI 2) &&& 858993459)
def bc3 (x : Int32) : Int32 := (x + bcU x (aI 4)) &&& 252645135
def bc4 (x : Int32) : Int32 := x + bcU x (aI 8)
def bc5 (x : Int32) : Int32 := x + bcU x (aI 16)
def aPop (x : Int) : Int := aSum (fun k => x / 2 ^ k.toNat % 2) 6
theorem bc_ok {x : Int} (h : 0 ≤ x ∧ x < 16) : bc5 (bc4 (bc3 (bc2 (bc1 (aI x))))) &&& aI 63 = aI (aPop x) := by
  obtain ⟨n, rfl⟩ := Int.eq_ofNat_of_zero_le h.1
  have : ∀ n : Nat, n < 16 → bc5 (bc4 (bc3 (bc2 (bc1 (aI (n : Int)))))) &&& aI 63 = aI (aPop (n : Int)) := by decide +kernel
  exact this n (by omega)
theorem aPop_rng {x : Int} (h : 0 ≤ x ∧ x < 16) : 0 ≤ aPop x ∧ aPop x ≤ 4 := by
  obtain ⟨n, rfl⟩ := Int.eq_ofNat_of_zero_le h.1
  have : ∀ n : Nat, n < 16 → 0 ≤ aPop (n : Int) ∧ aPop (n : Int) ≤ 4 := by decide +kernel
  exact this n (by omega)

set_option maxHeartbeats 4000000 in
set_option maxRecDepth 100000 in
theorem c_bitCount {G : aG} {Z : aZ} {Y : aY} {x : Int} (hx : 0 ≤ x ∧ x < 16) : aSi G yJ6_bitCount_0f7a4 cJ6_bitCount_0f7a4 1 (some .int) 0 0 [.int (aI x)] Z Y (aPop x) := by
  refine aS.ofF (own := RJ6) (by decide +kernel) rfl 0 (Nat.le_of_ble_eq_true rfl) (fun X hX hE => ?_)
  show AW X G 0 [some (.int (aI x))] [] Z Y
  refine a_iload_n hX rfl rfl dJ6_bitCount_0f7a4_0 (pc' := 1) rfl ?_
  refine a_iload_n hX rfl rfl dJ6_bitCount_0f7a4_1 (pc' := 2) rfl ?_
  refine a_iconst hX dJ6_bitCount_0f7a4_2 (pc' := 3) rfl ?_
  refine a_iushr32 hX dJ6_bitCount_0f7a4_3 (pc' := 4) rfl ?_
  refine a_ldcw hX w_k265 dJ6_bitCount_0f7a4_4 (pc' := 7) rfl ?_
  refine a_iand32 hX dJ6_bitCount_0f7a4_7 (pc' := 8) rfl ?_
  refine a_isub32 hX dJ6_bitCount_0f7a4_8 (pc' := 9) rfl ?_
  refine a_istore0 hX rfl (by decide) dJ6_bitCount_0f7a4_9 (pc' := 10) rfl ?_
  refine a_iload_n hX rfl rfl dJ6_bitCount_0f7a4_10 (pc' := 11) rfl ?_
  refine a_ldcw hX w_k266 dJ6_bitCount_0f7a4_11 (pc' := 14) rfl ?_
  refine a_iand32 hX dJ6_bitCount_0f7a4_14 (pc' := 15) rfl ?_
  refine a_iload_n hX rfl rfl dJ6_bitCount_0f7a4_15 (pc' := 16) rfl ?_
  refine a_iconst hX dJ6_bitCount_0f7a4_16 (pc' := 17) rfl ?_
  refine a_iushr32 hX dJ6_bitCount_0f7a4_17 (pc' := 18) rfl ?_
  refine a_ldcw hX w_k266 dJ6_bitCount_0f7a4_18 (pc' := 21) rfl ?_
  refine a_iand32 hX dJ6_bitCount_0f7a4_21 (pc' := 22) rfl ?_
  refine a_iadd32 hX dJ6_bitCount_0f7a4_22 (pc' := 23) rfl ?_
  refine a_istore0 hX rfl (by decide) dJ6_bitCount_0f7a4_23 (pc' := 24) rfl ?_
  refine a_iload_n hX rfl rfl dJ6_bitCount_0f7a4_24 (pc' := 25) rfl ?_
  refine a_iload_n hX rfl rfl dJ6_bitCount_0f7a4_25 (pc' := 26) rfl ?_
  refine a_iconst hX dJ6_bitCount_0f7a4_26 (pc' := 27) rfl ?_
  refine a_iushr32 hX dJ6_bitCount_0f7a4_27 (pc' := 28) rfl ?_
  refine a_iadd32 hX dJ6_bitCount_0f7a4_28 (pc' := 29) rfl ?_
  refine a_ldcw hX w_k267 dJ6_bitCount_0f7a4_29 (pc' := 32) rfl ?_
  refine a_iand32 hX dJ6_bitCount_0f7a4_32 (pc' := 33) rfl ?_
  refine a_istore0 hX rfl (by decide) dJ6_bitCount_0f7a4_33 (pc' := 34) rfl ?_
  refine a_iload_n hX rfl rfl dJ6_bitCount_0f7a4_34 (pc' := 35) rfl ?_
  refine a_iload_n hX rfl rfl dJ6_bitCount_0f7a4_35 (pc' := 36) rfl ?_
  refine a_bipush hX rfl dJ6_bitCount_0f7a4_36 (pc' := 38) rfl ?_
  refine a_iushr32 hX dJ6_bitCount_0f7a4_38 (pc' := 39) rfl ?_
  refine a_iadd32 hX dJ6_bitCount_0f7a4_39 (pc' := 40) rfl ?_
  refine a_istore0 hX rfl (by decide) dJ6_bitCount_0f7a4_40 (pc' := 41) rfl ?_
  refine a_iload_n hX rfl rfl dJ6_bitCount_0f7a4_41 (pc' := 42) rfl ?_
  refine a_iload_n hX rfl rfl dJ6_bitCount_0f7a4_42 (pc' := 43) rfl ?_
  refine a_bipush hX rfl dJ6_bitCount_0f7a4_43 (pc' := 45) rfl ?_
  refine a_iushr32 hX dJ6_bitCount_0f7a4_45 (pc' := 46) rfl ?_
  refine a_iadd32 hX dJ6_bitCount_0f7a4_46 (pc' := 47) rfl ?_
  refine a_istore0 hX rfl (by decide) dJ6_bitCount_0f7a4_47 (pc' := 48) rfl ?_
  refine a_iload_n hX rfl rfl dJ6_bitCount_0f7a4_48 (pc' := 49) rfl ?_
  refine a_bipush hX rfl dJ6_bitCount_0f7a4_49 (pc' := 51) rfl ?_
  refine a_iand32 hX dJ6_bitCount_0f7a4_51 (pc' := 52) rfl ?_
  refine a_iret hX dJ6_bitCount_0f7a4_52 (hE _ _ _ ?_)
  refine ⟨?_, rfl, rfl⟩
  rw [← bc_ok hx]
  rfl

/-! MOST, out of rows: how many clouds, papers; what each cloud has, can serve; what each paper owes -/
def vOB (ow : Int → Int) (np : Nat) (m : Int) : Int := aSum (fun p => if aBit m p = true then ow p else 0) np
def aOrs (f : Int → Int) : Nat → Int
  | 0 => 0
  | n + 1 => aOr (aOrs f n) (f n)
theorem aOr_0 {x : Int} (h : 0 ≤ x) : aOr x 0 = x := by
  unfold aOr
  rw [show (0 : Int).toNat = 0 from rfl, Nat.or_zero]
  omega
theorem aOrs_rng {f : Int → Int} : ∀ n : Nat, (∀ i : Int, 0 ≤ i ∧ i < n → 0 ≤ f i ∧ f i < 32) → 0 ≤ aOrs f n ∧ aOrs f n < 32
  | 0, _ => by unfold aOrs; omega
  | n + 1, h => by
    have h1 := aOrs_rng n (fun i hi => h i (by omega))
    have h2 := h n (by omega)
    exact aOr_rng (n := 5) h1 h2
theorem aOrs_s {f : Int → Int} {i : Int} (h : 0 ≤ i) : aOrs f (i + 1).toNat = aOr (aOrs f i.toNat) (f i) := by
  rw [show (i + 1).toNat = i.toNat + 1 by omega]
  show aOr (aOrs f i.toNat) (f (i.toNat : Int)) = _
  rw [Int.toNat_of_nonneg h]
def vCut (nc np : Nat) (h cn ow : Int → Int) (s pr : Int) : Int := aSum (fun c => if aBit s c = true then 0 else if aBit pr c = true then h c else 0) nc + vOB ow np (aOrs (fun c => if aBit s c = true then cn c else 0) nc)
def vSub (s pr : Int) : Bool := decide (aAnd s pr = s)
def vMin (f : Int → Int) (ok : Int → Bool) (i0 : Int) : Nat → Int
  | 0 => i0
  | n + 1 => if ok n = true then min (vMin f ok i0 n) (f n) else vMin f ok i0 n
theorem vMin_s {f : Int → Int} {ok : Int → Bool} {i0 i : Int} (h : 0 ≤ i) : vMin f ok i0 (i + 1).toNat = if ok i = true then min (vMin f ok i0 i.toNat) (f i) else vMin f ok i0 i.toNat := by
  rw [show (i + 1).toNat = i.toNat + 1 by omega]
  show (if ok (i.toNat : Int) = true then min (vMin f ok i0 i.toNat) (f (i.toNat : Int)) else vMin f ok i0 i.toNat) = _
  rw [Int.toNat_of_nonneg h]
def vFill (nc np : Nat) (h cn ow : Int → Int) (pr : Int) : Int := vMin (fun s => vCut nc np h cn ow s pr) (fun s => vSub s pr) (aSum ow np) (2 ^ nc)
theorem vSub_ok {s pr : Int} (h1 : 0 ≤ s ∧ s < 16) (h2 : 0 ≤ pr ∧ pr < 16) : ((aI s &&& (aI pr ^^^ aI (-1))) = 0) ↔ vSub s pr = true := by
  obtain ⟨m, rfl⟩ := Int.eq_ofNat_of_zero_le h1.1
  obtain ⟨n, rfl⟩ := Int.eq_ofNat_of_zero_le h2.1
  have : ∀ m : Nat, m < 16 → ∀ n : Nat, n < 16 → (decide ((aI (m : Int) &&& (aI (n : Int) ^^^ aI (-1))) = 0)) = vSub (m : Int) (n : Int) := by decide +kernel
  have h := this m (by omega) n (by omega)
  rw [← h]
  exact decide_eq_true_iff.symm
def okV (Z : aZ) : Prop := (0 ≤ Z 39 4 ∧ Z 39 4 ≤ 4) ∧ (0 ≤ Z 39 5 ∧ Z 39 5 ≤ 5) ∧ (∀ c, 0 ≤ c ∧ c < Z 39 4 → 0 ≤ Z 40 c ∧ Z 40 c ≤ 9) ∧ (∀ c, 0 ≤ c ∧ c < Z 39 4 → 0 ≤ Z 41 c ∧ Z 41 c < 32) ∧ ∀ p, 0 ≤ p ∧ p < Z 39 5 → 0 ≤ Z 42 p ∧ Z 42 p ≤ 9
theorem aPow4 {n : Int} (h : 0 ≤ n ∧ n ≤ 4) : (2 : Int) ^ n.toNat = 1 ∨ (2 : Int) ^ n.toNat = 2 ∨ (2 : Int) ^ n.toNat = 4 ∨ (2 : Int) ^ n.toNat = 8 ∨ (2 : Int) ^ n.toNat = 16 := aPow2 (by omega)
theorem aPow5 {n : Int} (h : 0 ≤ n ∧ n ≤ 5) : (2 : Int) ^ n.toNat = 1 ∨ (2 : Int) ^ n.toNat = 2 ∨ (2 : Int) ^ n.toNat = 4 ∨ (2 : Int) ^ n.toNat = 8 ∨ (2 : Int) ^ n.toNat = 16 ∨ (2 : Int) ^ n.toNat = 32 := by
  rcases (show n ≤ 4 ∨ n = 5 by omega) with h1 | rfl
  · rcases aPow4 (n := n) (by omega) with q | q | q | q | q <;> omega
  · exact Or.inr (Or.inr (Or.inr (Or.inr (Or.inr rfl))))
theorem vOB_all {ow : Int → Int} {n : Int} (h : 0 ≤ n ∧ n ≤ 5) : vOB ow n.toNat (2 ^ n.toNat - 1) = aSum ow n.toNat := by
  unfold vOB
  refine aSum_congr _ (fun p hp => if_pos ?_)
  obtain ⟨m, rfl⟩ := Int.eq_ofNat_of_zero_le h.1
  obtain ⟨q, rfl⟩ := Int.eq_ofNat_of_zero_le hp.1
  have : ∀ m : Nat, m < 6 → ∀ q : Nat, q < m → aBit (2 ^ m - 1) (q : Int) = true := by decide +kernel
  exact this m (by omega) q (by omega)
theorem vOB_rng {ow : Int → Int} {n : Nat} (hn : n ≤ 5) (h : ∀ p : Int, 0 ≤ p ∧ p < n → 0 ≤ ow p ∧ ow p ≤ 9) (m : Int) : 0 ≤ vOB ow n m ∧ vOB ow n m ≤ 45 := by
  unfold vOB
  have := aSum_rng (f := fun p => if aBit m p = true then ow p else 0) (a := 0) (b := 9) n (fun i hi => by
    have := h i hi
    try dsimp only
    split <;> omega)
  omega
theorem vCut_rng {nc np : Nat} {h cn ow : Int → Int} (h1 : nc ≤ 4) (h2 : np ≤ 5) (hh : ∀ c : Int, 0 ≤ c ∧ c < nc → 0 ≤ h c ∧ h c ≤ 9) (ho : ∀ p : Int, 0 ≤ p ∧ p < np → 0 ≤ ow p ∧ ow p ≤ 9) (s pr : Int) : 0 ≤ vCut nc np h cn ow s pr ∧ vCut nc np h cn ow s pr ≤ 81 := by
  unfold vCut
  have a1 := vOB_rng h2 ho (aOrs (fun c => if aBit s c = true then cn c else 0) nc)
  have a2 := aSum_rng (f := fun c => if aBit s c = true then 0 else if aBit pr c = true then h c else 0) (a := 0) (b := 9) nc (fun i hi => by
    have := hh i hi
    try dsimp only
    repeat' split
    all_goals omega)
  omega
theorem vMin_rng {f : Int → Int} {ok : Int → Bool} {i0 a b : Int} (h0 : a ≤ i0 ∧ i0 ≤ b) (hf : ∀ i, a ≤ f i) : ∀ n : Nat, a ≤ vMin f ok i0 n ∧ vMin f ok i0 n ≤ b
  | 0 => h0
  | n + 1 => by
    have h1 := vMin_rng (f := f) (ok := ok) h0 hf n
    have h2 := hf n
    show a ≤ (if ok n = true then min (vMin f ok i0 n) (f n) else vMin f ok i0 n) ∧ (if ok n = true then min (vMin f ok i0 n) (f n) else vMin f ok i0 n) ≤ b
    split <;> omega
theorem vFill_rng {nc np : Nat} {h cn ow : Int → Int} (h1 : nc ≤ 4) (h2 : np ≤ 5) (hh : ∀ c : Int, 0 ≤ c ∧ c < nc → 0 ≤ h c ∧ h c ≤ 9) (ho : ∀ p : Int, 0 ≤ p ∧ p < np → 0 ≤ ow p ∧ ow p ≤ 9) (pr : Int) : 0 ≤ vFill nc np h cn ow pr ∧ vFill nc np h cn ow pr ≤ 45 := by
  have a1 := aSum_rng (f := ow) (a := 0) (b := 9) np (fun i hi => ho i hi)
  exact vMin_rng (by omega) (fun s => (vCut_rng h1 h2 hh ho s pr).1) _

set_option maxHeartbeats 4000000 in
set_option maxRecDepth 100000 in
theorem c_everyone {G : aG} {Z : aZ} {Y : aY} (hB : aB Z) (hV : okV Z) : aSi G yX6_everyone cX6_everyone 1 (some .int) 0 0 [.ref (G.1 39)] Z Y (2 ^ (Z 39 4).toNat - 1) := by
  refine aS.of (own := RX6) (by decide +kernel) rfl 0 (Nat.le_of_ble_eq_true rfl) (fun X hX hE => ?_)
  show AW X G 0 [some (.ref (G.1 39))] [] Z Y
  have hV1 := hV.1
  have hV2 := hV.2.1
  have hVh := hV.2.2.1
  have hVc := hV.2.2.2.1
  have hVo := hV.2.2.2.2
  refine a_iconst hX dX6_everyone_0 (pc' := 1) rfl ?_
  refine a_aload_n hX rfl rfl dX6_everyone_1 (pc' := 2) rfl ?_
  refine a_getfI hX (ji := 4) rfl hB fl_X6_26 rfl (by decide) rfl dX6_everyone_2 (pc' := 5) rfl (fun hb => ?_)
  have hw := aPow4 hV1
  refine a_ishl hX (by omega) (by omega) (by omega) dX6_everyone_5 (pc' := 6) rfl ?_
  refine a_iconst hX dX6_everyone_6 (pc' := 7) rfl ?_
  refine a_isub hX dX6_everyone_7 (pc' := 8) rfl ?_
  refine a_iret hX dX6_everyone_8 (hE _ _ _ ?_)
  exact ⟨aLf (by rw [aTwo]), rfl, rfl⟩

set_option maxHeartbeats 4000000 in
set_option maxRecDepth 100000 in
theorem c_vOwedBy {G : aG} {Z : aZ} {Y : aY} {m : Int} (hm : 0 ≤ m ∧ m < 64) (hB : aB Z) (hV : okV Z) : aSi G yX6_owedBy cX6_owedBy 4 (some .int) 0 0 [.ref (G.1 39), .int (aI m)] Z Y (vOB (Z 42) (Z 39 5).toNat m) := by
  refine aS.of (own := RX6) (by decide +kernel) rfl 2 (Nat.le_of_ble_eq_true rfl) (fun X hX hE => ?_)
  show AW X G 0 [some (.ref (G.1 39)), some (.int (aI m)), none, none] [] Z Y
  have hV1 := hV.1
  have hV2 := hV.2.1
  have hVh := hV.2.2.1
  have hVc := hV.2.2.2.1
  have hVo := hV.2.2.2.2
  refine a_iconst hX dX6_owedBy_0 (pc' := 1) rfl ?_
  refine a_istore2 hX rfl (by decide) rfl dX6_owedBy_1 (pc' := 2) rfl ?_
  refine a_iconst hX dX6_owedBy_2 (pc' := 3) rfl ?_
  refine a_istore3 hX rfl (by decide) rfl dX6_owedBy_3 (pc' := 4) rfl ?_
  have L4 : ∀ (n : Nat) (i : Int), (0 ≤ i ∧ i ≤ Z 39 5) → (Z 39 5 - i).toNat < n → AW X G 4 [some (.ref (G.1 39)), some (.int (aI m)), some (.int (aI (vOB (Z 42) i.toNat m))), some (.int (aI i))] [] Z Y := by
    intro n
    induction n with
    | zero =>
      intro i hi hn
      omega
    | succ n ih =>
      intro i hi hn
      have hq := Int.ediv_nonneg (a := m) (b := 2 ^ i.toNat) (by omega) (Int.le_of_lt (aPow_pos _))
      have e0 := aSum_s (f := fun p => if aBit m p = true then Z 42 p else 0) hi.1
      try dsimp only at e0
      refine a_iload_n hX rfl rfl dX6_owedBy_4 (pc' := 5) rfl ?_
      refine a_aload_n hX rfl rfl dX6_owedBy_5 (pc' := 6) rfl ?_
      refine a_getfI hX (ji := 5) rfl hB fl_X6_30 rfl (by decide) rfl dX6_owedBy_6 (pc' := 9) rfl (fun hb => ?_)
      refine a_icmp_ge hX (by omega) (by omega) dX6_owedBy_9 (pc' := 12) rfl (tgt := 39) (by decide) (fun c9 => ?_) (fun c9 => ?_)
      · refine a_iload_n hX rfl rfl dX6_owedBy_39 (pc' := 40) rfl ?_
        refine a_iret hX dX6_owedBy_40 (hE _ _ _ ?_)
        refine ⟨aLf ?_, rfl, rfl⟩
        rw [show i = Z 39 5 by omega]
      · refine a_iload_n hX rfl rfl dX6_owedBy_12 (pc' := 13) rfl ?_
        refine a_iload_n hX rfl rfl dX6_owedBy_13 (pc' := 14) rfl ?_
        refine a_iload_n hX rfl rfl dX6_owedBy_14 (pc' := 15) rfl ?_
        refine a_ishr hX (by omega) (by omega) dX6_owedBy_15 (pc' := 16) rfl ?_
        refine a_iconst hX dX6_owedBy_16 (pc' := 17) rfl ?_
        refine a_iand hX (by omega) (by omega) dX6_owedBy_17 (pc' := 18) rfl ?_
        rw [aAnd_1 _ hq]
        refine a_if_eq hX (by omega) dX6_owedBy_18 (pc' := 21) rfl (tgt := 30) (by decide) (fun c18 => ?_) (fun c18 => ?_)
        · refine a_iconst hX dX6_owedBy_30 (pc' := 31) rfl ?_
          refine a_iadd hX dX6_owedBy_31 (pc' := 32) rfl ?_
          refine a_istore2 hX rfl (by decide) rfl dX6_owedBy_32 (pc' := 33) rfl ?_
          refine a_iinc3 hX (by decide) rfl dX6_owedBy_33 (pc' := 36) rfl ?_
          refine a_goto hX dX6_owedBy_36 (tgt := 4) (by decide) ?_
          first | rw [if_pos (by unfold aBit; exact decide_eq_true (by omega))] at e0 | rw [if_neg (by unfold aBit; rw [decide_eq_true_eq]; omega)] at e0
          have L := ih (i + 1) (by omega) (by omega)
          unfold vOB at L ⊢
          rw [e0] at L
          exact L
        · refine a_aload_n hX rfl rfl dX6_owedBy_21 (pc' := 22) rfl ?_
          refine a_getfR hX (r := 42) fl_X6_18 rfl (by decide) rfl dX6_owedBy_22 (pc' := 25) rfl ?_
          refine a_iload_n hX rfl rfl dX6_owedBy_25 (pc' := 26) rfl ?_
          refine a_iald hX rfl (by decide) (by decide) (by omega) hB dX6_owedBy_26 (pc' := 27) rfl (fun hb => ?_)
          refine a_goto hX dX6_owedBy_27 (tgt := 31) (by decide) ?_
          refine a_iadd hX dX6_owedBy_31 (pc' := 32) rfl ?_
          refine a_istore2 hX rfl (by decide) rfl dX6_owedBy_32 (pc' := 33) rfl ?_
          refine a_iinc3 hX (by decide) rfl dX6_owedBy_33 (pc' := 36) rfl ?_
          refine a_goto hX dX6_owedBy_36 (tgt := 4) (by decide) ?_
          first | rw [if_pos (by unfold aBit; exact decide_eq_true (by omega))] at e0 | rw [if_neg (by unfold aBit; rw [decide_eq_true_eq]; omega)] at e0
          have L := ih (i + 1) (by omega) (by omega)
          unfold vOB at L ⊢
          rw [e0] at L
          exact L
  exact L4 ((Z 39 5 - 0).toNat + 1) 0 (by omega) (by omega)

set_option maxHeartbeats 4000000 in
set_option maxRecDepth 100000 in
theorem c_cut {G : aG} {Z : aZ} {Y : aY} {s pr : Int} (hs : 0 ≤ s ∧ s < 16) (hpr : 0 ≤ pr ∧ pr < 16) (hB : aB Z) (hV : okV Z) : aSi G yX6_cut cX6_cut 6 (some .int) 1 23 [.ref (G.1 39), .int (aI s), .int (aI pr)] Z Y (vCut (Z 39 4).toNat (Z 39 5).toNat (Z 40) (Z 41) (Z 42) s pr) := by
  refine aS.of (own := RX6) (by decide +kernel) rfl 3 (Nat.le_of_ble_eq_true rfl) (fun X hX hE => ?_)
  show AW X G 0 [some (.ref (G.1 39)), some (.int (aI s)), some (.int (aI pr)), none, none, none] [] Z Y
  have hV1 := hV.1
  have hV2 := hV.2.1
  have hVh := hV.2.2.1
  have hVc := hV.2.2.2.1
  have hVo := hV.2.2.2.2
  refine a_iconst hX dX6_cut_0 (pc' := 1) rfl ?_
  refine a_istore3 hX rfl (by decide) rfl dX6_cut_1 (pc' := 2) rfl ?_
  refine a_iconst hX dX6_cut_2 (pc' := 3) rfl ?_
  refine a_istore4 hX (by decide) rfl dX6_cut_3 (pc' := 5) rfl ?_
  refine a_iconst hX dX6_cut_5 (pc' := 6) rfl ?_
  refine a_istore5 hX (by decide) rfl dX6_cut_6 (pc' := 8) rfl ?_
  have L8 : ∀ (n : Nat) (i : Int), (0 ≤ i ∧ i ≤ Z 39 4) → (Z 39 4 - i).toNat < n → AW X G 8 [some (.ref (G.1 39)), some (.int (aI s)), some (.int (aI pr)), some (.int (aI (aOrs (fun c => if aBit s c = true then Z 41 c else 0) i.toNat))), some (.int (aI (aSum (fun c => if aBit s c = true then 0 else if aBit pr c = true then Z 40 c else 0) i.toNat))), some (.int (aI i))] [] Z Y := by
    intro n
    induction n with
    | zero =>
      intro i hi hn
      omega
    | succ n ih =>
      intro i hi hn
      have hq := Int.ediv_nonneg (a := s) (b := 2 ^ i.toNat) (by omega) (Int.le_of_lt (aPow_pos _))
      have hq2 := Int.ediv_nonneg (a := pr) (b := 2 ^ i.toNat) (by omega) (Int.le_of_lt (aPow_pos _))
      have ho := aOrs_rng (f := (fun c => if aBit s c = true then Z 41 c else 0)) i.toNat (fun j hj => by
        have := hVc j (by omega)
        try dsimp only
        split <;> omega)
      have e0 := aSum_s (f := (fun c => if aBit s c = true then 0 else if aBit pr c = true then Z 40 c else 0)) hi.1
      have e1 := aOrs_s (f := (fun c => if aBit s c = true then Z 41 c else 0)) hi.1
      try dsimp only at e0
      try dsimp only at e1
      refine a_iload hX rfl dX6_cut_8 (pc' := 10) rfl ?_
      refine a_aload_n hX rfl rfl dX6_cut_10 (pc' := 11) rfl ?_
      refine a_getfI hX (ji := 4) rfl hB fl_X6_26 rfl (by decide) rfl dX6_cut_11 (pc' := 14) rfl (fun hb => ?_)
      refine a_icmp_ge hX (by omega) (by omega) dX6_cut_14 (pc' := 17) rfl (tgt := 66) (by decide) (fun c14 => ?_) (fun c14 => ?_)
      · refine a_iload hX rfl dX6_cut_66 (pc' := 68) rfl ?_
        refine a_aload_n hX rfl rfl dX6_cut_68 (pc' := 69) rfl ?_
        refine a_iload_n hX rfl rfl dX6_cut_69 (pc' := 70) rfl ?_
        refine a_cV1i hX cv_X6_56 (c_vOwedBy (by omega) hB hV) rfl (by decide) ⟨by decide, by decide⟩ (Nat.le_of_ble_eq_true rfl) dX6_cut_70 (pc' := 73) rfl ?_
        refine a_iadd hX dX6_cut_73 (pc' := 74) rfl ?_
        refine a_iret hX dX6_cut_74 (hE _ _ _ ?_)
        refine ⟨aLf ?_, rfl, rfl⟩
        unfold vCut
        rw [show i = Z 39 4 by omega]
      · refine a_iload_n hX rfl rfl dX6_cut_17 (pc' := 18) rfl ?_
        refine a_iload hX rfl dX6_cut_18 (pc' := 20) rfl ?_
        refine a_ishr hX (by omega) (by omega) dX6_cut_20 (pc' := 21) rfl ?_
        refine a_iconst hX dX6_cut_21 (pc' := 22) rfl ?_
        refine a_iand hX (by omega) (by omega) dX6_cut_22 (pc' := 23) rfl ?_
        rw [aAnd_1 _ hq]
        refine a_if_eq hX (by omega) dX6_cut_23 (pc' := 26) rfl (tgt := 39) (by decide) (fun c23 => ?_) (fun c23 => ?_)
        · refine a_iload_n hX rfl rfl dX6_cut_39 (pc' := 40) rfl ?_
          refine a_iload hX rfl dX6_cut_40 (pc' := 42) rfl ?_
          refine a_ishr hX (by omega) (by omega) dX6_cut_42 (pc' := 43) rfl ?_
          refine a_iconst hX dX6_cut_43 (pc' := 44) rfl ?_
          refine a_iand hX (by omega) (by omega) dX6_cut_44 (pc' := 45) rfl ?_
          rw [aAnd_1 _ hq2]
          refine a_if_eq hX (by omega) dX6_cut_45 (pc' := 48) rfl (tgt := 60) (by decide) (fun c45 => ?_) (fun c45 => ?_)
          · refine a_iinc5 hX (by decide) rfl dX6_cut_60 (pc' := 63) rfl ?_
            refine a_goto hX dX6_cut_63 (tgt := 8) (by decide) ?_
            first
              | (rw [if_pos (show aBit s i = true by unfold aBit; exact decide_eq_true (by omega)), Int.add_zero] at e0
                 rw [if_pos (show aBit s i = true by unfold aBit; exact decide_eq_true (by omega))] at e1)
              | (rw [if_neg (show ¬ aBit s i = true by unfold aBit; rw [decide_eq_true_eq]; omega)] at e0
                 rw [if_neg (show ¬ aBit s i = true by unfold aBit; rw [decide_eq_true_eq]; omega), aOr_0 ho.1] at e1
                 first | rw [if_pos (show aBit pr i = true by unfold aBit; exact decide_eq_true (by omega))] at e0 | rw [if_neg (show ¬ aBit pr i = true by unfold aBit; rw [decide_eq_true_eq]; omega), Int.add_zero] at e0)
            have L := ih (i + 1) (by omega) (by omega)
            rw [e0, e1] at L
            exact L
          · refine a_iload hX rfl dX6_cut_48 (pc' := 50) rfl ?_
            refine a_aload_n hX rfl rfl dX6_cut_50 (pc' := 51) rfl ?_
            refine a_getfR hX (r := 40) fl_X6_9 rfl (by decide) rfl dX6_cut_51 (pc' := 54) rfl ?_
            refine a_iload hX rfl dX6_cut_54 (pc' := 56) rfl ?_
            refine a_iald hX rfl (by decide) (by decide) (by omega) hB dX6_cut_56 (pc' := 57) rfl (fun hb => ?_)
            refine a_iadd hX dX6_cut_57 (pc' := 58) rfl ?_
            refine a_istore4 hX (by decide) rfl dX6_cut_58 (pc' := 60) rfl ?_
            refine a_iinc5 hX (by decide) rfl dX6_cut_60 (pc' := 63) rfl ?_
            refine a_goto hX dX6_cut_63 (tgt := 8) (by decide) ?_
            first
              | (rw [if_pos (show aBit s i = true by unfold aBit; exact decide_eq_true (by omega)), Int.add_zero] at e0
                 rw [if_pos (show aBit s i = true by unfold aBit; exact decide_eq_true (by omega))] at e1)
              | (rw [if_neg (show ¬ aBit s i = true by unfold aBit; rw [decide_eq_true_eq]; omega)] at e0
                 rw [if_neg (show ¬ aBit s i = true by unfold aBit; rw [decide_eq_true_eq]; omega), aOr_0 ho.1] at e1
                 first | rw [if_pos (show aBit pr i = true by unfold aBit; exact decide_eq_true (by omega))] at e0 | rw [if_neg (show ¬ aBit pr i = true by unfold aBit; rw [decide_eq_true_eq]; omega), Int.add_zero] at e0)
            have L := ih (i + 1) (by omega) (by omega)
            rw [e0, e1] at L
            exact L
        · refine a_iload_n hX rfl rfl dX6_cut_26 (pc' := 27) rfl ?_
          refine a_aload_n hX rfl rfl dX6_cut_27 (pc' := 28) rfl ?_
          refine a_getfR hX (r := 41) fl_X6_15 rfl (by decide) rfl dX6_cut_28 (pc' := 31) rfl ?_
          refine a_iload hX rfl dX6_cut_31 (pc' := 33) rfl ?_
          refine a_iald hX rfl (by decide) (by decide) (by omega) hB dX6_cut_33 (pc' := 34) rfl (fun hb => ?_)
          have hz := hVc i (by omega)
          refine a_ior hX (by omega) (by omega) dX6_cut_34 (pc' := 35) rfl ?_
          refine a_istore3 hX rfl (by decide) rfl dX6_cut_35 (pc' := 36) rfl ?_
          refine a_goto hX dX6_cut_36 (tgt := 60) (by decide) ?_
          refine a_iinc5 hX (by decide) rfl dX6_cut_60 (pc' := 63) rfl ?_
          refine a_goto hX dX6_cut_63 (tgt := 8) (by decide) ?_
          first
            | (rw [if_pos (show aBit s i = true by unfold aBit; exact decide_eq_true (by omega)), Int.add_zero] at e0
               rw [if_pos (show aBit s i = true by unfold aBit; exact decide_eq_true (by omega))] at e1)
            | (rw [if_neg (show ¬ aBit s i = true by unfold aBit; rw [decide_eq_true_eq]; omega)] at e0
               rw [if_neg (show ¬ aBit s i = true by unfold aBit; rw [decide_eq_true_eq]; omega), aOr_0 ho.1] at e1
               first | rw [if_pos (show aBit pr i = true by unfold aBit; exact decide_eq_true (by omega))] at e0 | rw [if_neg (show ¬ aBit pr i = true by unfold aBit; rw [decide_eq_true_eq]; omega), Int.add_zero] at e0)
          have L := ih (i + 1) (by omega) (by omega)
          rw [e0, e1] at L
          exact L
  exact L8 ((Z 39 4 - 0).toNat + 1) 0 (by omega) (by omega)

/-! LONGS -/
theorem aJ_toInt {x : Int} (h : -9223372036854775808 ≤ x ∧ x < 9223372036854775808) : (aJ x).toInt = x := Int64.toInt_ofInt_of_le (by omega) (by omega)
theorem aJ_of (v : Int64) : aJ v.toInt = v := Int64.ofInt_toInt v
theorem aJ_rng (v : Int64) : -9223372036854775808 ≤ v.toInt ∧ v.toInt < 9223372036854775808 := by
  have h1 := Int64.le_toInt v
  have h2 := Int64.toInt_lt v
  omega
theorem aJ_add (x y : Int) : aJ (x + y) = aJ x + aJ y := Int64.ofInt_add x y
theorem aJ_sub (x y : Int) : aJ (x - y) = aJ x - aJ y := Int64.ofInt_sub x y
theorem aJ_mul (x y : Int) : aJ (x * y) = aJ x * aJ y := Int64.ofInt_mul x y
theorem aJ_div {x y : Int} (hx : 0 ≤ x ∧ x < 9223372036854775808) (hy : 0 < y ∧ y < 9223372036854775808) : aJ x / aJ y = aJ (x / y) := by
  apply Int64.toInt_inj.mp
  have h1 : 0 ≤ x / y := Int.ediv_nonneg hx.1 (by omega)
  have h2 : x / y ≤ x := Int.ediv_le_self y hx.1
  rw [Int64.toInt_div_of_ne_left _ _ (fun q => by
    have := congrArg Int64.toInt q
    rw [aJ_toInt (by omega)] at this
    have e : Int64.minValue.toInt = -9223372036854775808 := by decide
    omega), aJ_toInt (by omega), aJ_toInt (by omega), aJ_toInt (by omega), Int.tdiv_eq_ediv_of_nonneg hx.1]
theorem aJ_rem {x y : Int} (hx : 0 ≤ x ∧ x < 9223372036854775808) (hy : 0 < y ∧ y < 9223372036854775808) : aJ x - aJ x / aJ y * aJ y = aJ (x % y) := by
  rw [aJ_div hx hy, ← aJ_mul, ← aJ_sub]
  congr 1
  have := Int.mul_ediv_add_emod x y
  rw [Int.mul_comm] at this
  omega
theorem aJ_ne0 {y : Int} (hy : 0 < y ∧ y < 9223372036854775808) : ¬ aJ y = 0 := fun q => by
  have := congrArg Int64.toInt q
  rw [aJ_toInt (by omega)] at this
  have e : (0 : Int64).toInt = 0 := by decide
  omega
theorem aJ_int (x : Int) : (aJ x).toInt32 = aI x := Int64.toInt32_ofInt
theorem aI_long {x : Int} (h : -2147483648 ≤ x ∧ x < 2147483648) : (aI x).toInt64 = aJ x := by
  apply Int64.toInt_inj.mp
  rw [Int32.toInt_toInt64, aJ_toInt (by omega)]
  exact Int32.toInt_ofInt_of_le (by omega) (by omega)
theorem aJ_cmp {x y : Int} (hx : -9223372036854775808 ≤ x ∧ x < 9223372036854775808) (hy : -9223372036854775808 ≤ y ∧ y < 9223372036854775808) : lg_cmp (aJ x) (aJ y) = aI (if x < y then -1 else if x = y then 0 else 1) := by
  unfold lg_cmp
  simp only [gt_iff_lt, Int64.lt_iff_toInt_lt, ← Int64.toInt_inj, aJ_toInt hx, aJ_toInt hy]
  by_cases h1 : y < x
  · rw [if_pos h1, if_neg (show ¬ x < y by omega), if_neg (show ¬ x = y by omega)]; rfl
  · rw [if_neg h1]
    by_cases h2 : x = y
    · rw [if_pos h2, if_neg (by omega), if_pos h2]; rfl
    · rw [if_neg h2, if_pos (show x < y by omega)]; rfl
theorem lcR {x y : Int} : -2147483648 ≤ (if x < y then (-1 : Int) else if x = y then 0 else 1) ∧ (if x < y then (-1 : Int) else if x = y then 0 else 1) < 2147483648 := by
  repeat' split
  all_goals omega
theorem lcN {x y : Int} : (if x < y then (-1 : Int) else if x = y then 0 else 1) < 0 ↔ x < y := by
  repeat' split
  all_goals omega
theorem lcZ {x y : Int} : (if x < y then (-1 : Int) else if x = y then 0 else 1) = 0 ↔ x = y := by
  repeat' split
  all_goals omega
theorem lcP {x y : Int} : 0 < (if x < y then (-1 : Int) else if x = y then 0 else 1) ↔ y < x := by
  repeat' split
  all_goals omega
/-- the upper bits of a long -/
def jTop (v : Int64) : Int := ((v.toUInt64.toNat / 8589934592 : Nat) : Int)
theorem jTop_rng (v : Int64) : 0 ≤ jTop v ∧ jTop v < 2147483648 := by
  unfold jTop
  have := v.toUInt64.toNat_lt
  omega
theorem jTop_eq (v : Int64) : (v.toUInt64 >>> ((aI 33).toInt64.toUInt64 &&& Int64.toUInt64 63)).toInt64 = aJ (jTop v) := by
  rw [show ((aI 33).toInt64.toUInt64 &&& Int64.toUInt64 63) = 33 by decide]
  unfold jTop aJ
  rw [Int64.ofInt_eq_ofNat]
  have e : v.toUInt64 >>> 33 = UInt64.ofNat (v.toUInt64.toNat / 8589934592) := by
    apply UInt64.toNat_inj.mp
    rw [UInt64.toNat_shiftRight, UInt64.toNat_ofNat', Nat.shiftRight_eq_div_pow]
    have h := v.toUInt64.toNat_lt
    have h33 : (33 : UInt64).toNat % 64 = 33 := by decide
    rw [h33]
    show v.toUInt64.toNat / 8589934592 = _
    rw [Nat.mod_eq_of_lt (by omega)]
  rw [e, UInt64.toInt64_ofNat']
theorem a_ldc2J {X : aX} {G : aG} {own : String} {cc : ByteArray} {nL : Nat} {ret : Option FieldType} {fr lo : Nat} (hX : aOK X G own cc nL ret fr lo) {pc pc' : Nat} {lv : List (Option Value)} {st : List Value} {Z : aZ} {Y : aY} {idx : Nat} {v : Int64} {z : Int} (hw : Cond.constantLong own idx v ∈ aT) (hz : v = aJ z) (hdg : decode cc pc = .ok (.ldc2_w idx, 3)) (hp : pc + 3 = pc') (k : AW X G pc' lv (.long (aJ z) :: st) Z Y) : AW X G pc lv (st) Z Y := by
  obtain ⟨p, l, e, R, s, m, args, below, meth, c, A, cs, sl, Q⟩ := X
  obtain ⟨hx, hb, hml, hown, hts, hK, hA, hlk, hr, hR, hSt⟩ := hX
  subst hp
  intro H locs ls hL hP hD hS
  refine lv_ldc2 hx hb hown (hts _ hw) hdg ?_
  rw [hz]
  exact k H locs ls hL hP hD hS

theorem a_ladd {X : aX} {G : aG} {own : String} {cc : ByteArray} {nL : Nat} {ret : Option FieldType} {fr lo : Nat} (hX : aOK X G own cc nL ret fr lo) {pc pc' : Nat} {lv : List (Option Value)} {st : List Value} {Z : aZ} {Y : aY} {x y : Int64} (hdg : decode cc pc = .ok (.ladd, 1)) (hp : pc + 1 = pc') (k : AW X G pc' lv (.long (x + y) :: st) Z Y) : AW X G pc lv (.long y :: .long x :: st) Z Y := by
  obtain ⟨p, l, e, R, s, m, args, below, meth, c, A, cs, sl, Q⟩ := X
  obtain ⟨hx, hb, hml, hown, hts, hK, hA, hlk, hr, hR, hSt⟩ := hX
  subst hp
  intro H locs ls hL hP hD hS
  refine lv_ladd hx hb hdg ?_
  exact k H locs ls hL hP hD hS

theorem a_laddJ {X : aX} {G : aG} {own : String} {cc : ByteArray} {nL : Nat} {ret : Option FieldType} {fr lo : Nat} (hX : aOK X G own cc nL ret fr lo) {pc pc' : Nat} {lv : List (Option Value)} {st : List Value} {Z : aZ} {Y : aY} {x y : Int} (hdg : decode cc pc = .ok (.ladd, 1)) (hp : pc + 1 = pc') (k : AW X G pc' lv (.long (aJ (x + y)) :: st) Z Y) : AW X G pc lv (.long (aJ y) :: .long (aJ x) :: st) Z Y := by
  obtain ⟨p, l, e, R, s, m, args, below, meth, c, A, cs, sl, Q⟩ := X
  obtain ⟨hx, hb, hml, hown, hts, hK, hA, hlk, hr, hR, hSt⟩ := hX
  subst hp
  intro H locs ls hL hP hD hS
  refine lv_ladd hx hb hdg ?_
  rw [← aJ_add]
  exact k H locs ls hL hP hD hS

theorem a_lsub {X : aX} {G : aG} {own : String} {cc : ByteArray} {nL : Nat} {ret : Option FieldType} {fr lo : Nat} (hX : aOK X G own cc nL ret fr lo) {pc pc' : Nat} {lv : List (Option Value)} {st : List Value} {Z : aZ} {Y : aY} {x y : Int64} (hdg : decode cc pc = .ok (.lsub, 1)) (hp : pc + 1 = pc') (k : AW X G pc' lv (.long (x - y) :: st) Z Y) : AW X G pc lv (.long y :: .long x :: st) Z Y := by
  obtain ⟨p, l, e, R, s, m, args, below, meth, c, A, cs, sl, Q⟩ := X
  obtain ⟨hx, hb, hml, hown, hts, hK, hA, hlk, hr, hR, hSt⟩ := hX
  subst hp
  intro H locs ls hL hP hD hS
  refine lv_lsub hx hb hdg ?_
  exact k H locs ls hL hP hD hS

theorem a_lsubJ {X : aX} {G : aG} {own : String} {cc : ByteArray} {nL : Nat} {ret : Option FieldType} {fr lo : Nat} (hX : aOK X G own cc nL ret fr lo) {pc pc' : Nat} {lv : List (Option Value)} {st : List Value} {Z : aZ} {Y : aY} {x y : Int} (hdg : decode cc pc = .ok (.lsub, 1)) (hp : pc + 1 = pc') (k : AW X G pc' lv (.long (aJ (x - y)) :: st) Z Y) : AW X G pc lv (.long (aJ y) :: .long (aJ x) :: st) Z Y := by
  obtain ⟨p, l, e, R, s, m, args, below, meth, c, A, cs, sl, Q⟩ := X
  obtain ⟨hx, hb, hml, hown, hts, hK, hA, hlk, hr, hR, hSt⟩ := hX
  subst hp
  intro H locs ls hL hP hD hS
  refine lv_lsub hx hb hdg ?_
  rw [← aJ_sub]
  exact k H locs ls hL hP hD hS

theorem a_lmul {X : aX} {G : aG} {own : String} {cc : ByteArray} {nL : Nat} {ret : Option FieldType} {fr lo : Nat} (hX : aOK X G own cc nL ret fr lo) {pc pc' : Nat} {lv : List (Option Value)} {st : List Value} {Z : aZ} {Y : aY} {x y : Int64} (hdg : decode cc pc = .ok (.lmul, 1)) (hp : pc + 1 = pc') (k : AW X G pc' lv (.long (x * y) :: st) Z Y) : AW X G pc lv (.long y :: .long x :: st) Z Y := by
  obtain ⟨p, l, e, R, s, m, args, below, meth, c, A, cs, sl, Q⟩ := X
  obtain ⟨hx, hb, hml, hown, hts, hK, hA, hlk, hr, hR, hSt⟩ := hX
  subst hp
  intro H locs ls hL hP hD hS
  refine lv_lmul hx hb hdg ?_
  exact k H locs ls hL hP hD hS

theorem a_lmulJ {X : aX} {G : aG} {own : String} {cc : ByteArray} {nL : Nat} {ret : Option FieldType} {fr lo : Nat} (hX : aOK X G own cc nL ret fr lo) {pc pc' : Nat} {lv : List (Option Value)} {st : List Value} {Z : aZ} {Y : aY} {x y : Int} (hdg : decode cc pc = .ok (.lmul, 1)) (hp : pc + 1 = pc') (k : AW X G pc' lv (.long (aJ (x * y)) :: st) Z Y) : AW X G pc lv (.long (aJ y) :: .long (aJ x) :: st) Z Y := by
  obtain ⟨p, l, e, R, s, m, args, below, meth, c, A, cs, sl, Q⟩ := X
  obtain ⟨hx, hb, hml, hown, hts, hK, hA, hlk, hr, hR, hSt⟩ := hX
  subst hp
  intro H locs ls hL hP hD hS
  refine lv_lmul hx hb hdg ?_
  rw [← aJ_mul]
  exact k H locs ls hL hP hD hS

theorem a_ldiv {X : aX} {G : aG} {own : String} {cc : ByteArray} {nL : Nat} {ret : Option FieldType} {fr lo : Nat} (hX : aOK X G own cc nL ret fr lo) {pc pc' : Nat} {lv : List (Option Value)} {st : List Value} {Z : aZ} {Y : aY} {x y : Int} (h1 : 0 ≤ x ∧ x < 9223372036854775808) (h2 : 0 < y ∧ y < 9223372036854775808) (hdg : decode cc pc = .ok (.ldiv, 1)) (hp : pc + 1 = pc') (k : AW X G pc' lv (.long (aJ (x / y)) :: st) Z Y) : AW X G pc lv (.long (aJ y) :: .long (aJ x) :: st) Z Y := by
  obtain ⟨p, l, e, R, s, m, args, below, meth, c, A, cs, sl, Q⟩ := X
  obtain ⟨hx, hb, hml, hown, hts, hK, hA, hlk, hr, hR, hSt⟩ := hX
  subst hp
  intro H locs ls hL hP hD hS
  refine lv_ldiv hx hb hdg (aJ_ne0 h2) ?_
  rw [aJ_div h1 h2]
  exact k H locs ls hL hP hD hS

theorem a_lrem {X : aX} {G : aG} {own : String} {cc : ByteArray} {nL : Nat} {ret : Option FieldType} {fr lo : Nat} (hX : aOK X G own cc nL ret fr lo) {pc pc' : Nat} {lv : List (Option Value)} {st : List Value} {Z : aZ} {Y : aY} {x y : Int} (h1 : 0 ≤ x ∧ x < 9223372036854775808) (h2 : 0 < y ∧ y < 9223372036854775808) (hdg : decode cc pc = .ok (.lrem, 1)) (hp : pc + 1 = pc') (k : AW X G pc' lv (.long (aJ (x % y)) :: st) Z Y) : AW X G pc lv (.long (aJ y) :: .long (aJ x) :: st) Z Y := by
  obtain ⟨p, l, e, R, s, m, args, below, meth, c, A, cs, sl, Q⟩ := X
  obtain ⟨hx, hb, hml, hown, hts, hK, hA, hlk, hr, hR, hSt⟩ := hX
  subst hp
  intro H locs ls hL hP hD hS
  refine lv_lrem hx hb hdg (aJ_ne0 h2) ?_
  rw [aJ_rem h1 h2]
  exact k H locs ls hL hP hD hS

theorem a_lcmp {X : aX} {G : aG} {own : String} {cc : ByteArray} {nL : Nat} {ret : Option FieldType} {fr lo : Nat} (hX : aOK X G own cc nL ret fr lo) {pc pc' : Nat} {lv : List (Option Value)} {st : List Value} {Z : aZ} {Y : aY} {x y : Int} (h1 : -9223372036854775808 ≤ x ∧ x < 9223372036854775808) (h2 : -9223372036854775808 ≤ y ∧ y < 9223372036854775808) (hdg : decode cc pc = .ok (.lcmp, 1)) (hp : pc + 1 = pc') (k : AW X G pc' lv (.int (aI (if x < y then -1 else if x = y then 0 else 1)) :: st) Z Y) : AW X G pc lv (.long (aJ y) :: .long (aJ x) :: st) Z Y := by
  obtain ⟨p, l, e, R, s, m, args, below, meth, c, A, cs, sl, Q⟩ := X
  obtain ⟨hx, hb, hml, hown, hts, hK, hA, hlk, hr, hR, hSt⟩ := hX
  subst hp
  intro H locs ls hL hP hD hS
  refine W.lcmp hx hb hdg ?_
  rw [aJ_cmp h1 h2]
  exact k H locs ls hL hP hD hS

theorem a_l2i {X : aX} {G : aG} {own : String} {cc : ByteArray} {nL : Nat} {ret : Option FieldType} {fr lo : Nat} (hX : aOK X G own cc nL ret fr lo) {pc pc' : Nat} {lv : List (Option Value)} {st : List Value} {Z : aZ} {Y : aY} {x : Int} (hdg : decode cc pc = .ok (.l2i, 1)) (hp : pc + 1 = pc') (k : AW X G pc' lv (.int (aI x) :: st) Z Y) : AW X G pc lv (.long (aJ x) :: st) Z Y := by
  obtain ⟨p, l, e, R, s, m, args, below, meth, c, A, cs, sl, Q⟩ := X
  obtain ⟨hx, hb, hml, hown, hts, hK, hA, hlk, hr, hR, hSt⟩ := hX
  subst hp
  intro H locs ls hL hP hD hS
  refine lv_l2i hx hb hdg (aJ_int x) ?_
  exact k H locs ls hL hP hD hS

theorem a_i2l {X : aX} {G : aG} {own : String} {cc : ByteArray} {nL : Nat} {ret : Option FieldType} {fr lo : Nat} (hX : aOK X G own cc nL ret fr lo) {pc pc' : Nat} {lv : List (Option Value)} {st : List Value} {Z : aZ} {Y : aY} {x : Int} (h1 : -2147483648 ≤ x ∧ x < 2147483648) (hdg : decode cc pc = .ok (.i2l, 1)) (hp : pc + 1 = pc') (k : AW X G pc' lv (.long (aJ x) :: st) Z Y) : AW X G pc lv (.int (aI x) :: st) Z Y := by
  obtain ⟨p, l, e, R, s, m, args, below, meth, c, A, cs, sl, Q⟩ := X
  obtain ⟨hx, hb, hml, hown, hts, hK, hA, hlk, hr, hR, hSt⟩ := hX
  subst hp
  intro H locs ls hL hP hD hS
  refine lv_i2l hx hb hdg (aI_long h1) ?_
  exact k H locs ls hL hP hD hS

theorem a_lushr33 {X : aX} {G : aG} {own : String} {cc : ByteArray} {nL : Nat} {ret : Option FieldType} {fr lo : Nat} (hX : aOK X G own cc nL ret fr lo) {pc pc' : Nat} {lv : List (Option Value)} {st : List Value} {Z : aZ} {Y : aY} {x : Int64} (hdg : decode cc pc = .ok (.lushr, 1)) (hp : pc + 1 = pc') (k : AW X G pc' lv (.long (aJ (jTop x)) :: st) Z Y) : AW X G pc lv (.int (aI 33) :: .long x :: st) Z Y := by
  obtain ⟨p, l, e, R, s, m, args, below, meth, c, A, cs, sl, Q⟩ := X
  obtain ⟨hx, hb, hml, hown, hts, hK, hA, hlk, hr, hR, hSt⟩ := hX
  subst hp
  intro H locs ls hL hP hD hS
  refine lv_lushr hx hb hdg (jTop_eq x) ?_
  exact k H locs ls hL hP hD hS

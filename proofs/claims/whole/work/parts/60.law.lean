def R_law : String := "PromisedSnowLaw"
def lw_P (b : Addr) (xs : List Int32) (args : Array Value) (s : State) : Prop := args = #[.ref b] ∧ s.IntsAt b xs ∧ xs.length ≤ 3072 ∧ (Jvm.Cond.and given_1 narrow_1).before args s = true
def lw_Q (_ : Array Value) (s : State) (o : Outcome) (t : State) : Prop := o = .returned (some (.int 1)) ∧ Framed s o t [] 600000 7302250
def lw_Z (below : List Frame) (a : Array Value) (s : State) : State → Prop := fun t => ∃ o, t.status = .running ∧ Ended t below o ∧ lw_Q a s o t
/-- the law's own end, with 1 on the stack, nothing written that was there before, its room as the claim has it -/
theorem lw_ret {p : Program} {l : Launch} {e : Env} {s : State} {m : MethodId} {below : List Frame} {meth : Method} {c : Code} {b : Nat} (hx : p.tables.exec = Jvm.exec) (hb : c.code = code) (hr : meth.sig.returnType = ret) (hlocks : meth.locks = false) {pc : Nat} {H : Heap} {ls : Array Slot} (hdg : decode code pc = .ok (.ireturn, 1)) : W p l e room_1 s m #[Value.ref b] below meth c H [] 600000 7302250 (lw_Z below #[Value.ref b] s) (F0 m pc ls [.int 1]) := by
  intro T hT X
  obtain ⟨fs, hret, hrun, hended, hW, hframe⟩ := X.leave (v := some (.int 1)) (hlocks := hlocks) (fun h => by rw [hr] at h; cases h)
  have hmeth' : T.vm.method? m = some meth := X.method'
  refine ⟨T.setFrames fs, ?_, .returned (some (.int 1)), hrun, hended, rfl, ⟨_, rfl⟩, hW, hframe⟩
  jvm_step X.here [X.here.top, hx, hb, hdg, hmeth', hr, ret, narrow_b1]
  (try refine ⟨rfl, ?_⟩); (try refine ⟨rfl, ?_⟩)
  first | (intro acts; rw [hret _ acts rfl rfl rfl]) | rw [hret _ _ rfl rfl rfl]
  exact Steps.refl _
/-- what holds at the law's entry: the machine, the code, the tables' words (any of lw_tbl by 'hts w (by decide +kernel)'), the script of L ints xs at the cell b, what the Statement gives of the start (any of its parts by flat_of_before) -/
def lw_At (p : Program) (s : State) (m : MethodId) (meth : Method) (c : Code) (b L : Nat) (xs : Nat → Int32) : Prop :=
  p.tables.exec = Jvm.exec ∧ c.code = code ∧ meth.sig.returnType = ret ∧ c.maxLocals = 4 ∧ s.vm.findClass R_law = some m.cls ∧ (∀ w ∈ lw_tbl, w.before #[Value.ref b] s = true) ∧ va_X b L xs s s.heap ∧ b < s.heap.size ∧ meth.locks = false ∧ (Jvm.Cond.and given_1 narrow_1).before #[Value.ref b] s = true

/-! the law's own instructions -/
def lSc (X : aX) (b L : Nat) (xs : Nat → Int32) : Prop :=
  match X with
  | (_, _, _, _, s, _, _, _, _, _, A, _, _, _) => va_X b L xs s s.heap ∧ b < s.heap.size ∧ ¬ A b
def lS (xs : Nat → Int32) (i : Int) : Int := (xs i.toNat).toInt
theorem lS_rng (xs : Nat → Int32) (i : Int) : -2147483648 ≤ lS xs i ∧ lS xs i < 2147483648 := aI_rng _
section LRULES
variable {X : aX} {G : aG} {own : String} {cc : ByteArray} {nL : Nat} {ret : Option FieldType} {fr lo : Nat} {pc pc' : Nat} {lv : List (Option Value)} {st : List Value} {Z : aZ} {Y : aY} {b L : Nat} {xs : Nat → Int32}
theorem l_len (hX : aOK X G own cc nL ret fr lo) (hSc : lSc X b L xs) (hdg : decode cc pc = .ok (.arraylength, 1)) (hp : pc + 1 = pc') (kk : AW X G pc' lv (.int (aI (L : Int)) :: st) Z Y) : AW X G pc lv (.ref b :: st) Z Y := by
  obtain ⟨p, l, e, R, s, m, args, below, meth, c, A, cs, sl, Q⟩ := X
  obtain ⟨hx, hb, hml, hown, hts, hK, hA, hlk, hr, hR, hSt⟩ := hX
  obtain ⟨s1, s2, s3⟩ := hSc
  subst hp
  intro H locs ls hL hP hD hS
  refine va_slen hx hb s1 s2 s3 hS hdg ?_
  exact kk H locs ls hL hP hD hS
theorem l_ald (hX : aOK X G own cc nL ret fr lo) (hSc : lSc X b L xs) {z : Int} (hz : 0 ≤ z ∧ z < L) (hL : L ≤ 3072) (hdg : decode cc pc = .ok (.iaload, 1)) (hp : pc + 1 = pc') (kk : AW X G pc' lv (.int (aI (lS xs z)) :: st) Z Y) : AW X G pc lv (.int (aI z) :: .ref b :: st) Z Y := by
  obtain ⟨p, l, e, R, s, m, args, below, meth, c, A, cs, sl, Q⟩ := X
  obtain ⟨hx, hb, hml, hown, hts, hK, hA, hlk, hr, hR, hSt⟩ := hX
  obtain ⟨s1, s2, s3⟩ := hSc
  subst hp
  intro H locs ls hL hP hD hS
  refine va_sld hx hb s1 s2 s3 hS (aI_idx hz (by omega)) hdg ?_
  rw [aI_clamp (by omega), ← aI_of (xs z.toNat)]
  exact kk H locs ls hL hP hD hS
/-- script[i + k] -/
theorem l_arg (hX : aOK X G own cc nL ret fr lo) (hSc : lSc X b L xs) {i k : Int} (h0 : lv[0]? = some (some (.ref b))) (h3 : lv[3]? = some (some (.int (aI i)))) (hz : 0 ≤ i + k ∧ i + k < L) (hL : L ≤ 3072) {p1 p2 p3 p4 : Nat} (d0 : decode cc pc = .ok (.aload_n 0, 1)) (e0 : pc + 1 = p1) (d1 : decode cc p1 = .ok (.iload_n 3, 1)) (e1 : p1 + 1 = p2) (d2 : decode cc p2 = .ok (.iconst k, 1)) (e2 : p2 + 1 = p3) (d3 : decode cc p3 = .ok (.iadd, 1)) (e3 : p3 + 1 = p4) (d4 : decode cc p4 = .ok (.iaload, 1)) (hp : p4 + 1 = pc') (kk : AW X G pc' lv (.int (aI (lS xs (i + k))) :: st) Z Y) : AW X G pc lv st Z Y := by
  refine a_aload_n hX rfl h0 d0 e0 ?_
  refine a_iload_n hX rfl h3 d1 e1 ?_
  refine a_iconst hX d2 e2 ?_
  refine a_iadd hX d3 e3 ?_
  exact l_ald hX hSc hz hL d4 hp kk
/-- script[i + k] != 0 -/
theorem l_bool (hX : aOK X G own cc nL ret fr lo) {v : Int} (hv : -2147483648 ≤ v ∧ v < 2147483648) {p1 p2 p3 : Nat} (d0 : decode cc pc = .ok (.ifCond .eq 7, 3)) (e0 : pc + 3 = p1) (d1 : decode cc p1 = .ok (.iconst 1, 1)) (e1 : p1 + 1 = p2) (d2 : decode cc p2 = .ok (.goto 4, 3)) (e2 : pc + 7 = p3) (d3 : decode cc p3 = .ok (.iconst 0, 1)) (hp : p3 + 1 = pc') (kk : AW X G pc' lv (.int (aI (aTr (decide (v ≠ 0)))) :: st) Z Y) : AW X G pc lv (.int (aI v) :: st) Z Y := by
  refine a_if_eq hX hv d0 e0 (tgt := p3) (by omega) (fun c => ?_) (fun c => ?_)
  · refine a_iconst hX d3 hp ?_
    rw [show decide (v ≠ 0) = false from decide_eq_false (fun h => h c)] at kk
    exact kk
  · refine a_iconst hX d1 e1 ?_
    refine a_goto hX d2 (tgt := pc') (by omega) ?_
    rw [show decide (v ≠ 0) = true from decide_eq_true c] at kk
    exact kk
/-- two ints to a long -/
def lJ (x y : Int32) : Int64 := x.toInt64 <<< ((32 : Int32).toInt64 &&& 63) ||| (y.toInt64 &&& 4294967295)
theorem l_i2l (hX : aOK X G own cc nL ret fr lo) {x : Int32} (hdg : decode cc pc = .ok (.i2l, 1)) (hp : pc + 1 = pc') (kk : AW X G pc' lv (.long x.toInt64 :: st) Z Y) : AW X G pc lv (.int x :: st) Z Y := by
  obtain ⟨p, l, e, R, s, m, args, below, meth, c, A, cs, sl, Q⟩ := X
  obtain ⟨hx, hb, hml, hown, hts, hK, hA, hlk, hr, hR, hSt⟩ := hX
  subst hp
  intro H locs ls hL hP hD hS
  refine lv_i2l hx hb hdg rfl ?_
  exact kk H locs ls hL hP hD hS
theorem l_lshl (hX : aOK X G own cc nL ret fr lo) {x : Int64} {y : Int32} (hdg : decode cc pc = .ok (.lshl, 1)) (hp : pc + 1 = pc') (kk : AW X G pc' lv (.long (x <<< (y.toInt64 &&& 63)) :: st) Z Y) : AW X G pc lv (.int y :: .long x :: st) Z Y := by
  obtain ⟨p, l, e, R, s, m, args, below, meth, c, A, cs, sl, Q⟩ := X
  obtain ⟨hx, hb, hml, hown, hts, hK, hA, hlk, hr, hR, hSt⟩ := hX
  subst hp
  intro H locs ls hL hP hD hS
  refine lv_lshl hx hb hdg rfl ?_
  exact kk H locs ls hL hP hD hS
theorem l_land (hX : aOK X G own cc nL ret fr lo) {x y : Int64} (hdg : decode cc pc = .ok (.land, 1)) (hp : pc + 1 = pc') (kk : AW X G pc' lv (.long (x &&& y) :: st) Z Y) : AW X G pc lv (.long y :: .long x :: st) Z Y := by
  obtain ⟨p, l, e, R, s, m, args, below, meth, c, A, cs, sl, Q⟩ := X
  obtain ⟨hx, hb, hml, hown, hts, hK, hA, hlk, hr, hR, hSt⟩ := hX
  subst hp
  intro H locs ls hL hP hD hS
  refine lv_land hx hb hdg ?_
  exact kk H locs ls hL hP hD hS
theorem l_lor (hX : aOK X G own cc nL ret fr lo) {x y : Int64} (hdg : decode cc pc = .ok (.lor, 1)) (hp : pc + 1 = pc') (kk : AW X G pc' lv (.long (x ||| y) :: st) Z Y) : AW X G pc lv (.long y :: .long x :: st) Z Y := by
  obtain ⟨p, l, e, R, s, m, args, below, meth, c, A, cs, sl, Q⟩ := X
  obtain ⟨hx, hb, hml, hown, hts, hK, hA, hlk, hr, hR, hSt⟩ := hX
  subst hp
  intro H locs ls hL hP hD hS
  refine lv_lor hx hb hdg ?_
  exact kk H locs ls hL hP hD hS
theorem l_iand (hX : aOK X G own cc nL ret fr lo) {x y : Int32} (hdg : decode cc pc = .ok (.iand, 1)) (hp : pc + 1 = pc') (kk : AW X G pc' lv (.int (aI (x &&& y).toInt) :: st) Z Y) : AW X G pc lv (.int y :: .int x :: st) Z Y := by
  obtain ⟨p, l, e, R, s, m, args, below, meth, c, A, cs, sl, Q⟩ := X
  obtain ⟨hx, hb, hml, hown, hts, hK, hA, hlk, hr, hR, hSt⟩ := hX
  subst hp
  intro H locs ls hL hP hD hS
  refine lv_iand hx hb hdg ?_
  rw [← aI_of (x &&& y)]
  exact kk H locs ls hL hP hD hS
/-- (script[i + k] << 32) | (script[i + k + 1] & 0xFFFFFFFFL) -/
theorem l_long (hX : aOK X G own cc nL ret fr lo) (hSc : lSc X b L xs) {i k k2 : Int} (h0 : lv[0]? = some (some (.ref b))) (h3 : lv[3]? = some (some (.int (aI i)))) (hz : 0 ≤ i + k ∧ i + k < L) (hz2 : 0 ≤ i + k2 ∧ i + k2 < L) (hL : L ≤ 3072) (hw : Cond.constantLong own 81 4294967295 ∈ aT) {p1 p2 p3 p4 p5 p6 p7 p8 q1 q2 q3 q4 q5 q6 q7 q8 : Nat}
    (d0 : decode cc pc = .ok (.aload_n 0, 1)) (e0 : pc + 1 = p1) (d1 : decode cc p1 = .ok (.iload_n 3, 1)) (e1 : p1 + 1 = p2) (d2 : decode cc p2 = .ok (.iconst k, 1)) (e2 : p2 + 1 = p3) (d3 : decode cc p3 = .ok (.iadd, 1)) (e3 : p3 + 1 = p4) (d4 : decode cc p4 = .ok (.iaload, 1)) (e4 : p4 + 1 = p5) (d5 : decode cc p5 = .ok (.i2l, 1)) (e5 : p5 + 1 = p6) (d6 : decode cc p6 = .ok (.bipush 32, 2)) (e6 : p6 + 2 = p7) (d7 : decode cc p7 = .ok (.lshl, 1)) (e7 : p7 + 1 = p8)
    (f0 : decode cc p8 = .ok (.aload_n 0, 1)) (g0 : p8 + 1 = q1) (f1 : decode cc q1 = .ok (.iload_n 3, 1)) (g1 : q1 + 1 = q2) (f2 : decode cc q2 = .ok (.iconst k2, 1)) (g2 : q2 + 1 = q3) (f3 : decode cc q3 = .ok (.iadd, 1)) (g3 : q3 + 1 = q4) (f4 : decode cc q4 = .ok (.iaload, 1)) (g4 : q4 + 1 = q5) (f5 : decode cc q5 = .ok (.i2l, 1)) (g5 : q5 + 1 = q6) (f6 : decode cc q6 = .ok (.ldc2_w 81, 3)) (g6 : q6 + 3 = q7) (f7 : decode cc q7 = .ok (.land, 1)) (g7 : q7 + 1 = q8) (f8 : decode cc q8 = .ok (.lor, 1)) (hp : q8 + 1 = pc')
    (kk : AW X G pc' lv (.long (aJ (lJ (aI (lS xs (i + k))) (aI (lS xs (i + k2)))).toInt) :: st) Z Y) : AW X G pc lv st Z Y := by
  refine l_arg hX hSc h0 h3 hz hL d0 e0 d1 e1 d2 e2 d3 e3 d4 e4 ?_
  refine l_i2l hX d5 e5 ?_
  refine a_bipush hX rfl d6 e6 ?_
  refine l_lshl hX d7 e7 ?_
  refine l_arg hX hSc h0 h3 hz2 hL f0 g0 f1 g1 f2 g2 f3 g3 f4 g4 ?_
  refine l_i2l hX f5 g5 ?_
  refine a_ldc2 hX hw f6 g6 ?_
  refine l_land hX f7 g7 ?_
  refine l_lor hX f8 hp ?_
  rw [aJ_of] at kk
  exact kk
/-- the same answer -/
theorem l_eq (hX : aOK X G own cc nL ret fr lo) {v : Int32} {off : Int} {tgt : Nat} (hdg : decode cc pc = .ok (.if_icmp .eq off, 3)) (ht : (pc : Int) + off = (tgt : Int)) (kk : AW X G tgt lv st Z Y) : AW X G pc lv (.int v :: .int v :: st) Z Y := by
  obtain ⟨p, l, e, R, s, m, args, below, meth, c, A, cs, sl, Q⟩ := X
  obtain ⟨hx, hb, hml, hown, hts, hK, hA, hlk, hr, hR, hSt⟩ := hX
  intro H locs ls hL hP hD hS
  refine lv_icmp_eq hx hb hdg ht (fun h => ?_) (fun h => absurd rfl h)
  exact kk H locs ls hL hP hD hS
theorem l_eqJ (hX : aOK X G own cc nL ret fr lo) {v : Int64} {off : Int} {tgt p1 : Nat} (d0 : decode cc pc = .ok (.lcmp, 1)) (e0 : pc + 1 = p1) (hdg : decode cc p1 = .ok (.ifCond .eq off, 3)) (ht : (p1 : Int) + off = (tgt : Int)) (kk : AW X G tgt lv st Z Y) : AW X G pc lv (.long v :: .long v :: st) Z Y := by
  have hr := aJ_rng v
  rw [← aJ_of v]
  refine a_lcmp hX hr hr d0 e0 ?_
  rw [show (if v.toInt < v.toInt then (-1 : Int) else if v.toInt = v.toInt then 0 else 1) = 0 from lcZ.mpr rfl]
  exact a_if_eq hX (by decide) hdg rfl ht (fun _ => kk) (fun h => absurd rfl h)
end LRULES

theorem a_ldcS {X : aX} {G : aG} {own : String} {cc : ByteArray} {nL : Nat} {ret : Option FieldType} {fr lo : Nat} (hX : aOK X G own cc nL ret fr lo) {pc pc' : Nat} {lv : List (Option Value)} {st : List Value} {Z : aZ} {Y : aY} {i idx : Nat} (hi : i < 7) (hidx : aSx.getD i 0 = idx) (ho : own = "PromisedSnow$Script") (hdg : decode cc pc = .ok (.ldc idx, 2)) (hp : pc + 2 = pc') (k : AW X G pc' lv (.ref (G.2.2.2.1 i) :: st) Z Y) : AW X G pc lv (st) Z Y := by
  obtain ⟨p, l, e, R, s, m, args, below, meth, c, A, cs, sl, Q⟩ := X
  obtain ⟨hx, hb, hml, hown, hts, hK, hA, hlk, hr, hR, hSt⟩ := hX
  subst hp
  intro H locs ls hL hP hD hS
  subst ho
  subst hidx
  exact va_ldcS hx hb hown (hSt.2 i hi) hdg (k H locs ls hL hP hD hS)

theorem a_strV {X : aX} {G : aG} {own : String} {cc : ByteArray} {nL : Nat} {ret : Option FieldType} {fr lo : Nat} (hX : aOK X G own cc nL ret fr lo) {pc pc' : Nat} {lv : List (Option Value)} {st : List Value} {Z : aZ} {Y : aY} {i idx : Nat} (hi : i < 7) (hw : Cond.fieldLink own idx "java/lang/String" "value" "[B" ∈ aT) (hdg : decode cc pc = .ok (.getfield idx, 3)) (hp : pc + 3 = pc') (k : AW X G pc' lv (.ref (G.2.2.2.2 i) :: st) Z Y) : AW X G pc lv (.ref (G.2.2.2.1 i) :: st) Z Y := by
  obtain ⟨p, l, e, R, s, m, args, below, meth, c, A, cs, sl, Q⟩ := X
  obtain ⟨hx, hb, hml, hown, hts, hK, hA, hlk, hr, hR, hSt⟩ := hX
  subst hp
  intro H locs ls hL hP hD hS
  exact vk_getf hx hb (hSt.1.1.1 i hi).2.2.1 hS hown (hts _ hw) (fun _ h => h) hdg (k H locs ls hL hP hD hS)

theorem a_strC {X : aX} {G : aG} {own : String} {cc : ByteArray} {nL : Nat} {ret : Option FieldType} {fr lo : Nat} (hX : aOK X G own cc nL ret fr lo) {pc pc' : Nat} {lv : List (Option Value)} {st : List Value} {Z : aZ} {Y : aY} {i idx : Nat} (hi : i < 7) (hw : Cond.fieldLink own idx "java/lang/String" "coder" "B" ∈ aT) (hdg : decode cc pc = .ok (.getfield idx, 3)) (hp : pc + 3 = pc') (k : AW X G pc' lv (.int (aI 0) :: st) Z Y) : AW X G pc lv (.ref (G.2.2.2.1 i) :: st) Z Y := by
  obtain ⟨p, l, e, R, s, m, args, below, meth, c, A, cs, sl, Q⟩ := X
  obtain ⟨hx, hb, hml, hown, hts, hK, hA, hlk, hr, hR, hSt⟩ := hX
  subst hp
  intro H locs ls hL hP hD hS
  exact vk_getf hx hb (hSt.1.1.1 i hi).2.1 hS hown (hts _ hw) (fun _ h => h) hdg (k H locs ls hL hP hD hS)

theorem a_strLen {X : aX} {G : aG} {own : String} {cc : ByteArray} {nL : Nat} {ret : Option FieldType} {fr lo : Nat} (hX : aOK X G own cc nL ret fr lo) {pc pc' : Nat} {lv : List (Option Value)} {st : List Value} {Z : aZ} {Y : aY} {i : Nat} (hi : i < 7) (hdg : decode cc pc = .ok (.arraylength, 1)) (hp : pc + 1 = pc') (k : AW X G pc' lv (.int (aI (aSl.getD i 0 : Nat)) :: st) Z Y) : AW X G pc lv (.ref (G.2.2.2.2 i) :: st) Z Y := by
  obtain ⟨p, l, e, R, s, m, args, below, meth, c, A, cs, sl, Q⟩ := X
  obtain ⟨hx, hb, hml, hown, hts, hK, hA, hlk, hr, hR, hSt⟩ := hX
  subst hp
  intro H locs ls hL hP hD hS
  exact va_tlen hx hb (hSt.1.1.1 i hi).2.2.2 hS (by rw [aI_nat]; rfl) hdg (k H locs ls hL hP hD hS)

theorem a_strB {X : aX} {G : aG} {own : String} {cc : ByteArray} {nL : Nat} {ret : Option FieldType} {fr lo : Nat} (hX : aOK X G own cc nL ret fr lo) {pc pc' : Nat} {lv : List (Option Value)} {st : List Value} {Z : aZ} {Y : aY} {i : Nat} {z : Int} (hi : i < 7) (hz : 0 ≤ z ∧ z < (aSl.getD i 0 : Nat)) (hl : aSl.getD i 0 < 10) (hdg : decode cc pc = .ok (.baload, 1)) (hp : pc + 1 = pc') (k : AW X G pc' lv (.int ((aSb.getD i []).getD z.toNat 0) :: st) Z Y) : AW X G pc lv (.int (aI z) :: .ref (G.2.2.2.2 i) :: st) Z Y := by
  obtain ⟨p, l, e, R, s, m, args, below, meth, c, A, cs, sl, Q⟩ := X
  obtain ⟨hx, hb, hml, hown, hts, hK, hA, hlk, hr, hR, hSt⟩ := hX
  subst hp
  intro H locs ls hL hP hD hS
  exact va_tb hx hb (hSt.1.1.1 i hi).2.2.2 hS (aI_idx hz (by omega)) (by rw [aI_clamp (by omega)]) hdg (k H locs ls hL hP hD hS)

theorem a_gsC {X : aX} {G : aG} {own : String} {cc : ByteArray} {nL : Nat} {ret : Option FieldType} {fr lo : Nat} (hX : aOK X G own cc nL ret fr lo) {pc pc' : Nat} {lv : List (Option Value)} {st : List Value} {Z : aZ} {Y : aY} {idx : Nat} (hw : Cond.fieldLink own idx "java/lang/String" "COMPACT_STRINGS" "Z" ∈ aT) (hdg : decode cc pc = .ok (.getstatic idx, 3)) (hp : pc + 3 = pc') (k : AW X G pc' lv (.int (aI 1) :: st) Z Y) : AW X G pc lv (st) Z Y := by
  obtain ⟨p, l, e, R, s, m, args, below, meth, c, A, cs, sl, Q⟩ := X
  obtain ⟨hx, hb, hml, hown, hts, hK, hA, hlk, hr, hR, hSt⟩ := hX
  subst hp
  intro H locs ls hL hP hD hS
  exact va_gets hx hb hSt.1.2.1 hS hown (hts _ hw) (fun _ h => h) hdg (k H locs ls hL hP hD hS)

theorem a_gsF {X : aX} {G : aG} {own : String} {cc : ByteArray} {nL : Nat} {ret : Option FieldType} {fr lo : Nat} (hX : aOK X G own cc nL ret fr lo) {pc pc' : Nat} {lv : List (Option Value)} {st : List Value} {Z : aZ} {Y : aY} {idx : Nat} (hw : Cond.fieldLink own idx "jdk/internal/util/Preconditions" "SIOOBE_FORMATTER" "Ljava/util/function/BiFunction;" ∈ aT) (hdg : decode cc pc = .ok (.getstatic idx, 3)) (hp : pc + 3 = pc') (k : ∀ v : Value, (v = .null ∨ ∃ a, v = .ref a) → AW X G pc' lv (v :: st) Z Y) : AW X G pc lv (st) Z Y := by
  obtain ⟨p, l, e, R, s, m, args, below, meth, c, A, cs, sl, Q⟩ := X
  obtain ⟨hx, hb, hml, hown, hts, hK, hA, hlk, hr, hR, hSt⟩ := hX
  subst hp
  intro H locs ls hL hP hD hS
  rcases hSt.1.2.2 with h | ⟨t, h⟩
  · exact va_gets hx hb h hS hown (hts _ hw) (fun _ h => h) hdg (k _ (Or.inl rfl) H locs ls hL hP hD hS)
  · exact va_gets hx hb h hS hown (hts _ hw) (fun _ h => h) hdg (k _ (Or.inr ⟨_, rfl⟩) H locs ls hL hP hD hS)

theorem a_i2c32 {X : aX} {G : aG} {own : String} {cc : ByteArray} {nL : Nat} {ret : Option FieldType} {fr lo : Nat} (hX : aOK X G own cc nL ret fr lo) {pc pc' : Nat} {lv : List (Option Value)} {st : List Value} {Z : aZ} {Y : aY} {x : Int32} (hdg : decode cc pc = .ok (.i2c, 1)) (hp : pc + 1 = pc') (k : AW X G pc' lv (.int (x.toUInt32 % 65536).toInt32 :: st) Z Y) : AW X G pc lv (.int x :: st) Z Y := by
  obtain ⟨p, l, e, R, s, m, args, below, meth, c, A, cs, sl, Q⟩ := X
  obtain ⟨hx, hb, hml, hown, hts, hK, hA, hlk, hr, hR, hSt⟩ := hX
  subst hp
  intro H locs ls hL hP hD hS
  exact lv_i2c hx hb hdg rfl (k H locs ls hL hP hD hS)

theorem a_aret {X : aX} {G : aG} {own : String} {cc : ByteArray} {nL : Nat} {fr lo : Nat} (hX : aOK X G own cc nL (some (.object "java/lang/String")) fr lo) {pc : Nat} {lv : List (Option Value)} {Z : aZ} {Y : aY} {v : Nat} (hdg : decode cc pc = .ok (.areturn, 1)) (kk : aRet X G (some (.ref v)) Z Y) : AW X G pc lv [.ref v] Z Y := by
  obtain ⟨p, l, e, R, s, m, args, below, meth, c, A, cs, sl, Q⟩ := X
  obtain ⟨hx, hb, hml, hown, hts, hK, hA, hlk, hr, hR, hSt⟩ := hX
  intro H locs ls hL hP hD hS
  obtain ⟨Qc, free, rfl, hq⟩ := kk
  exact W.aret (v := .ref v) hx hb hr (Or.inl ⟨_, rfl⟩) (Or.inr ⟨_, rfl⟩) (hq H locs hP hS).1 (hq H locs hP hS).2 hdg hlk

theorem a_nret {X : aX} {G : aG} {own : String} {cc : ByteArray} {nL : Nat} {fr lo : Nat} {pc : Nat} {lv : List (Option Value)} {Z : aZ} {Y : aY} {ty : FieldType} {v : Int32} (hX : aOK X G own cc nL (some ty) fr lo) (hn : narrow ty (.int v) = .int v) (hdg : decode cc pc = .ok (.ireturn, 1)) (kk : aRet X G (some (.int v)) Z Y) : AW X G pc lv [.int v] Z Y := by
  obtain ⟨p, l, e, R, s, m, args, below, meth, c, A, cs, sl, Q⟩ := X
  obtain ⟨hx, hb, hml, hown, hts, hK, hA, hlk, hr, hR, hSt⟩ := hX
  intro H locs ls hL hP hD hS
  obtain ⟨Qc, free, rfl, hq⟩ := kk
  exact W.zret (v := v) (ty := ty) hx hb hr hn (hq H locs hP hS).1 (hq H locs hP hS).2 hdg hlk

def aCVs (own : String) (idx : Nat) (y : MethodName) (b : ByteArray) (nL : Nat) (ret : Option FieldType) (n : Nat) : Prop := GoodIn aT (wsV own idx y.cls y (Cond.code y b nL ret :: aT)) ∧ y.cls = "java/lang/String" ∧ (parseMethodDescriptor y.desc).map (fun d => d.parameters.length) = some n
theorem aCVs.of {own : String} {idx n : Nat} {y : MethodName} {b : ByteArray} {nL : Nat} {ret : Option FieldType} (h1 : Cond.methodLink own idx y ∈ aT) (h2 : Cond.instanceMethod y ∈ aT) (h3 : Cond.selects y.cls y y ∈ aT) (h4 : Cond.initialized y.cls ∈ aT) (h5 : Cond.code y b nL ret ∈ aT) (hc : y.cls = "java/lang/String") (hn : (parseMethodDescriptor y.desc).map (fun d => d.parameters.length) = some n) : aCVs own idx y b nL ret n := by
  refine ⟨fun w hw => ?_, hc, hn⟩
  unfold wsV at hw
  rcases List.mem_append.mp hw with h | h
  · simp only [List.mem_cons, List.not_mem_nil, or_false] at h
    rcases h with rfl | rfl | rfl | rfl <;> exact aT_word (by assumption)
  · exact aT_goodT h5 w h

theorem a_cStrG {X : aX} {G : aG} {own : String} {cc : ByteArray} {nL : Nat} {ret : Option FieldType} {fr lo : Nat} (hX : aOK X G own cc nL ret fr lo) {pc pc' : Nat} {lv : List (Option Value)} {st : List Value} {Z : aZ} {Y : aY} {idx i n nL2 fr2 lo2 : Nat} {y : MethodName} {b : ByteArray} {ret2 : Option FieldType} {As st0 : List Value} {x : Int} (hc : aCVs own idx y b nL2 ret2 n) (hS2 : aSi G y b nL2 ret2 fr2 lo2 (.ref (G.2.2.2.1 i) :: As) Z Y x) (hi : i < 7) (hst : st0 = As.reverse ++ .ref (G.2.2.2.1 i) :: st) (hn : As.length = n) (hro : fr2 + 1 ≤ fr ∧ 8 + (nL2 + 11) + lo2 ≤ lo) (hW : (st.map fun v => v.category).sum ≤ 8) (hdg : decode cc pc = .ok (.invokevirtual idx, 3)) (hp : pc + 3 = pc') (kk : AW X G pc' lv (.int (aI x) :: st) Z Y) : AW X G pc lv st0 Z Y := by
  obtain ⟨p, l, e, R, s, m, args, below, meth, c, A, cs, sl, Q⟩ := X
  obtain ⟨hx, hb, hml, hown, hts, hK, hA, hlk, hr, hR, hSt⟩ := hX
  subst hp
  subst hst
  intro H locs ls hL hP hD hS
  obtain ⟨hc1, hc2, hc5⟩ := hc
  have hrec := vk_recv hSt.1.1 hi hS
  rw [← hc2] at hrec
  have hF : ∀ q, va_A (aW G Z Y) H.size q → A q := fun q hq => by
    rcases hq with ⟨k, e, h⟩ | h
    · exact hD.2 k _ h
    · exact hA q (Nat.le_trans hS.1 h)
  refine a_run (va_runV (As := As) (rest := st) ⟨hx, hb, hml, hown, hts⟩ (hS2 l H.size) (cwV n hts hc1 rfl rfl rfl ⟨rfl, by rw [hc2]; decide, by rw [hc2]; decide, hc5⟩ ⟨by show fr2 + 1 ≤ _; omega, by show 8 + (nL2 + 11) + lo2 ≤ _; omega⟩) ⟨aWorld_blind, hrec, aWorld_at hK hP hD hS hA hSt _⟩ rfl hn (hL.1.trans hml) rfl (lv_room hW) hdg ⟨by omega, by omega⟩) hS hF (fun r Z' Y' H1 locs1 hPo hP1 hS1 => ?_)
  obtain ⟨rfl, rfl, rfl⟩ := hPo
  exact kk H1 locs1 ls hL hP1 (aW_D hD) hS1
theorem a_cStr0 {X : aX} {G : aG} {own : String} {cc : ByteArray} {nL : Nat} {ret : Option FieldType} {fr lo : Nat} (hX : aOK X G own cc nL ret fr lo) {pc pc' : Nat} {lv : List (Option Value)} {st : List Value} {Z : aZ} {Y : aY} {idx i nL2 fr2 lo2 : Nat} {y : MethodName} {b : ByteArray} {ret2 : Option FieldType} {x : Int} (hc : aCVs own idx y b nL2 ret2 0) (hS2 : aSi G y b nL2 ret2 fr2 lo2 [.ref (G.2.2.2.1 i)] Z Y x) (hi : i < 7) (hro : fr2 + 1 ≤ fr ∧ 8 + (nL2 + 11) + lo2 ≤ lo) (hW : (st.map fun v => v.category).sum ≤ 8) (hdg : decode cc pc = .ok (.invokevirtual idx, 3)) (hp : pc + 3 = pc') (kk : AW X G pc' lv (.int (aI x) :: st) Z Y) : AW X G pc lv (.ref (G.2.2.2.1 i) :: st) Z Y :=
  a_cStrG hX (As := []) hc hS2 hi rfl rfl hro hW hdg hp kk
theorem a_cStr1 {X : aX} {G : aG} {own : String} {cc : ByteArray} {nL : Nat} {ret : Option FieldType} {fr lo : Nat} (hX : aOK X G own cc nL ret fr lo) {pc pc' : Nat} {lv : List (Option Value)} {st : List Value} {Z : aZ} {Y : aY} {idx i nL2 fr2 lo2 : Nat} {w0 : Value} {y : MethodName} {b : ByteArray} {ret2 : Option FieldType} {x : Int} (hc : aCVs own idx y b nL2 ret2 1) (hS2 : aSi G y b nL2 ret2 fr2 lo2 [.ref (G.2.2.2.1 i), w0] Z Y x) (hi : i < 7) (hro : fr2 + 1 ≤ fr ∧ 8 + (nL2 + 11) + lo2 ≤ lo) (hW : (st.map fun v => v.category).sum ≤ 8) (hdg : decode cc pc = .ok (.invokevirtual idx, 3)) (hp : pc + 3 = pc') (kk : AW X G pc' lv (.int (aI x) :: st) Z Y) : AW X G pc lv (w0 :: .ref (G.2.2.2.1 i) :: st) Z Y :=
  a_cStrG hX (As := [w0]) hc hS2 hi rfl rfl hro hW hdg hp kk

theorem wj_362 : Cond.methodLink RJ0 335 yJ0_coder_7d493 ∈ aT := aT_at (i := 362) (by decide +kernel) (by decide +kernel)

theorem wj_363 : Cond.instanceMethod yJ0_coder_7d493 ∈ aT := aT_at (i := 363) (by decide +kernel) (by decide +kernel)

theorem wj_364 : Cond.selects yJ0_coder_7d493.cls yJ0_coder_7d493 yJ0_coder_7d493 ∈ aT := aT_at (i := 364) (by decide +kernel) (by decide +kernel)

theorem wj_44 : Cond.initialized yJ0_coder_7d493.cls ∈ aT := aT_at (i := 44) (by decide +kernel) (by decide +kernel)

theorem wj_365 : Cond.code yJ0_coder_7d493 cJ0_coder_7d493 1 (some .byte) ∈ aT := aT_at (i := 365) (by decide +kernel) (by decide +kernel)

theorem cvs_J0_335 : aCVs RJ0 335 yJ0_coder_7d493 cJ0_coder_7d493 1 (some .byte) 0 := aCVs.of wj_362 wj_363 wj_364 wj_44 wj_365 rfl (by decide +kernel)

theorem wj_372 : Cond.methodLink RJ0 492 yJ0_isLatin1_aae02 ∈ aT := aT_at (i := 372) (by decide +kernel) (by decide +kernel)

theorem wj_373 : Cond.instanceMethod yJ0_isLatin1_aae02 ∈ aT := aT_at (i := 373) (by decide +kernel) (by decide +kernel)

theorem wj_374 : Cond.selects yJ0_isLatin1_aae02.cls yJ0_isLatin1_aae02 yJ0_isLatin1_aae02 ∈ aT := aT_at (i := 374) (by decide +kernel) (by decide +kernel)

theorem wj_375 : Cond.code yJ0_isLatin1_aae02 cJ0_isLatin1_aae02 1 (some .boolean) ∈ aT := aT_at (i := 375) (by decide +kernel) (by decide +kernel)

theorem cvs_J0_492 : aCVs RJ0 492 yJ0_isLatin1_aae02 cJ0_isLatin1_aae02 1 (some .boolean) 0 := aCVs.of wj_372 wj_373 wj_374 wj_44 wj_375 rfl (by decide +kernel)

theorem wj_376 : Cond.methodLink RJ0 495 yJ1_charAt_3b067 ∈ aT := aT_at (i := 376) (by decide +kernel) (by decide +kernel)

theorem wj_377 : Cond.static yJ1_charAt_3b067 ∈ aT := aT_at (i := 377) (by decide +kernel) (by decide +kernel)

theorem wj_45 : Cond.initialized yJ1_charAt_3b067.cls ∈ aT := aT_at (i := 45) (by decide +kernel) (by decide +kernel)

theorem wj_378 : Cond.code yJ1_charAt_3b067 cJ1_charAt_3b067 2 (some .char) ∈ aT := aT_at (i := 378) (by decide +kernel) (by decide +kernel)

theorem css_J0_495 : aCS RJ0 495 yJ1_charAt_3b067 cJ1_charAt_3b067 2 (some .char) 2 := aCS.of wj_376 wj_377 wj_45 wj_378 (by decide +kernel) (by decide +kernel)

theorem wj_379 : Cond.methodLink RJ1 9 yJ0_checkIndex_df160 ∈ aT := aT_at (i := 379) (by decide +kernel) (by decide +kernel)

theorem wj_380 : Cond.static yJ0_checkIndex_df160 ∈ aT := aT_at (i := 380) (by decide +kernel) (by decide +kernel)

theorem wj_381 : Cond.code yJ0_checkIndex_df160 cJ0_checkIndex_df160 2 none ∈ aT := aT_at (i := 381) (by decide +kernel) (by decide +kernel)

theorem css_J1_9 : aCS RJ1 9 yJ0_checkIndex_df160 cJ0_checkIndex_df160 2 none 2 := aCS.of wj_379 wj_380 wj_44 wj_381 (by decide +kernel) (by decide +kernel)

theorem wj_358 : Cond.methodLink RX5 31 yJ0_length_8abf5 ∈ aT := aT_at (i := 358) (by decide +kernel) (by decide +kernel)

theorem wj_359 : Cond.instanceMethod yJ0_length_8abf5 ∈ aT := aT_at (i := 359) (by decide +kernel) (by decide +kernel)

theorem wj_360 : Cond.selects yJ0_length_8abf5.cls yJ0_length_8abf5 yJ0_length_8abf5 ∈ aT := aT_at (i := 360) (by decide +kernel) (by decide +kernel)

theorem wj_361 : Cond.code yJ0_length_8abf5 cJ0_length_8abf5 1 (some .int) ∈ aT := aT_at (i := 361) (by decide +kernel) (by decide +kernel)

theorem cvs_X5_31 : aCVs RX5 31 yJ0_length_8abf5 cJ0_length_8abf5 1 (some .int) 0 := aCVs.of wj_358 wj_359 wj_360 wj_44 wj_361 rfl (by decide +kernel)

theorem wj_406 : Cond.methodLink RX5 36 yJ0_isEmpty_aae02 ∈ aT := aT_at (i := 406) (by decide +kernel) (by decide +kernel)

theorem wj_407 : Cond.instanceMethod yJ0_isEmpty_aae02 ∈ aT := aT_at (i := 407) (by decide +kernel) (by decide +kernel)

theorem wj_408 : Cond.selects yJ0_isEmpty_aae02.cls yJ0_isEmpty_aae02 yJ0_isEmpty_aae02 ∈ aT := aT_at (i := 408) (by decide +kernel) (by decide +kernel)

theorem wj_409 : Cond.code yJ0_isEmpty_aae02 cJ0_isEmpty_aae02 1 (some .boolean) ∈ aT := aT_at (i := 409) (by decide +kernel) (by decide +kernel)

theorem cvs_X5_36 : aCVs RX5 36 yJ0_isEmpty_aae02 cJ0_isEmpty_aae02 1 (some .boolean) 0 := aCVs.of wj_406 wj_407 wj_408 wj_44 wj_409 rfl (by decide +kernel)

theorem wj_368 : Cond.methodLink RX5 43 yJ0_charAt_5068e ∈ aT := aT_at (i := 368) (by decide +kernel) (by decide +kernel)

theorem wj_369 : Cond.instanceMethod yJ0_charAt_5068e ∈ aT := aT_at (i := 369) (by decide +kernel) (by decide +kernel)

theorem wj_370 : Cond.selects yJ0_charAt_5068e.cls yJ0_charAt_5068e yJ0_charAt_5068e ∈ aT := aT_at (i := 370) (by decide +kernel) (by decide +kernel)

theorem wj_371 : Cond.code yJ0_charAt_5068e cJ0_charAt_5068e 2 (some .char) ∈ aT := aT_at (i := 371) (by decide +kernel) (by decide +kernel)

theorem cvs_X5_43 : aCVs RX5 43 yJ0_charAt_5068e cJ0_charAt_5068e 2 (some .char) 1 := aCVs.of wj_368 wj_369 wj_370 wj_44 wj_371 rfl (by decide +kernel)

theorem wj_384 : Cond.methodLink RJ0 1059 yJ3_checkIndex_8e157 ∈ aT := aT_at (i := 384) (by decide +kernel) (by decide +kernel)

theorem wj_385 : Cond.static yJ3_checkIndex_8e157 ∈ aT := aT_at (i := 385) (by decide +kernel) (by decide +kernel)

theorem wj_46 : Cond.initialized yJ3_checkIndex_8e157.cls ∈ aT := aT_at (i := 46) (by decide +kernel) (by decide +kernel)

theorem wj_386 : Cond.code yJ3_checkIndex_8e157 cJ3_checkIndex_8e157 3 (some .int) ∈ aT := aT_at (i := 386) (by decide +kernel) (by decide +kernel)

theorem css_J0_1059 : aCS RJ0 1059 yJ3_checkIndex_8e157 cJ3_checkIndex_8e157 3 (some .int) 3 := aCS.of wj_384 wj_385 wj_46 wj_386 (by decide +kernel) (by decide +kernel)

theorem wj_1177 : Cond.fieldLink RJ0 9 "java/lang/String" "value" "[B" ∈ aT := aT_at (i := 1177) (by decide +kernel) (by decide +kernel)

theorem wj_1178 : Cond.fieldLink RJ0 15 "java/lang/String" "coder" "B" ∈ aT := aT_at (i := 1178) (by decide +kernel) (by decide +kernel)

theorem wj_366 : Cond.fieldLink RJ0 38 "java/lang/String" "COMPACT_STRINGS" "Z" ∈ aT := aT_at (i := 366) (by decide +kernel) (by decide +kernel)

theorem wj_382 : Cond.fieldLink RJ0 1053 "jdk/internal/util/Preconditions" "SIOOBE_FORMATTER" "Ljava/util/function/BiFunction;" ∈ aT := aT_at (i := 382) (by decide +kernel) (by decide +kernel)

/-- the char at a place of a constant -/
def aSc (i : Nat) (z : Int) : Int := (([[48], [48, 49, 48], [48, 49, 49, 48], [], [50], [53, 57, 51], [53, 57, 57, 51]] : List (List Int)).getD i []).getD z.toNat 0
theorem aSl_lt {i : Nat} (hi : i < 7) : aSl.getD i 0 < 10 := by
  have : ∀ i, i < 7 → aSl.getD i 0 < 10 := by decide
  exact this i hi
theorem aSc_ok {i : Nat} {z : Int} (hi : i < 7) (hz : 0 ≤ z ∧ z < (aSl.getD i 0 : Nat)) : ((((aSb.getD i []).getD z.toNat 0) &&& aI 255).toUInt32 % 65536).toInt32 = aI (aSc i z) ∧ narrow .char (.int (aI (aSc i z))) = .int (aI (aSc i z)) := by
  obtain ⟨n, rfl⟩ := Int.eq_ofNat_of_zero_le hz.1
  have : ∀ i, i < 7 → ∀ n : Nat, n < aSl.getD i 0 → (((((aSb.getD i []).getD n 0) &&& aI 255).toUInt32 % 65536).toInt32 = aI (aSc i (n : Int)) ∧ narrow .char (.int (aI (aSc i (n : Int)))) = .int (aI (aSc i (n : Int)))) := by decide +kernel
  exact this i hi n (by omega)
theorem aSc_rng {i : Nat} (z : Int) (hi : i < 7) : 0 ≤ aSc i z ∧ aSc i z ≤ 57 := by
  have : ∀ i, i < 7 → ∀ n : Nat, n < 5 → 0 ≤ aSc i (n : Int) ∧ aSc i (n : Int) ≤ 57 := by decide +kernel
  by_cases h : z.toNat < 5
  · have e : aSc i z = aSc i (z.toNat : Int) := by unfold aSc; rw [Int.toNat_natCast]
    rw [e]
    exact this i hi z.toNat h
  · have e : aSc i z = 0 := by
      unfold aSc
      rw [List.getD_eq_getElem?_getD, List.getElem?_eq_none]
      · rfl
      have : ∀ i, i < 7 → (([[48], [48, 49, 48], [48, 49, 49, 48], [], [50], [53, 57, 51], [53, 57, 57, 51]] : List (List Int)).getD i []).length < 5 := by decide +kernel
      have := this i hi
      omega
    omega

set_option maxHeartbeats 4000000 in
set_option maxRecDepth 100000 in
theorem j_coder {G : aG} {Z : aZ} {Y : aY} {i : Nat} (hi : i < 7) : aSi G yJ0_coder_7d493 cJ0_coder_7d493 1 (some .byte) 0 0 [.ref (G.2.2.2.1 i)] Z Y 0 := by
  refine aS.ofF (own := RJ0) (by decide +kernel) rfl 0 (Nat.le_of_ble_eq_true rfl) (fun X hX hE => ?_)
  show AW X G 0 [some (.ref (G.2.2.2.1 i))] [] Z Y
  refine a_gsC hX wj_366 dJ0_coder_7d493_0 (pc' := 3) rfl ?_
  refine a_if_eq hX (by decide) dJ0_coder_7d493_3 (pc' := 6) rfl (tgt := 13) (by decide) (fun c3 => absurd c3 (by decide)) (fun c3 => ?_)
  refine a_aload_n hX rfl rfl dJ0_coder_7d493_6 (pc' := 7) rfl ?_
  refine a_strC hX hi wj_1178 dJ0_coder_7d493_7 (pc' := 10) rfl ?_
  refine a_goto hX dJ0_coder_7d493_10 (tgt := 14) (by decide) ?_
  exact a_nret hX rfl dJ0_coder_7d493_14 (hE _ _ _ ⟨rfl, rfl, rfl⟩)

set_option maxHeartbeats 4000000 in
set_option maxRecDepth 100000 in
theorem j_isLatin1 {G : aG} {Z : aZ} {Y : aY} {i : Nat} (hi : i < 7) : aSi G yJ0_isLatin1_aae02 cJ0_isLatin1_aae02 1 (some .boolean) 0 0 [.ref (G.2.2.2.1 i)] Z Y 1 := by
  refine aS.ofF (own := RJ0) (by decide +kernel) rfl 0 (Nat.le_of_ble_eq_true rfl) (fun X hX hE => ?_)
  show AW X G 0 [some (.ref (G.2.2.2.1 i))] [] Z Y
  refine a_gsC hX wj_366 dJ0_isLatin1_aae02_0 (pc' := 3) rfl ?_
  refine a_if_eq hX (by decide) dJ0_isLatin1_aae02_3 (pc' := 6) rfl (tgt := 17) (by decide) (fun c3 => absurd c3 (by decide)) (fun c3 => ?_)
  refine a_aload_n hX rfl rfl dJ0_isLatin1_aae02_6 (pc' := 7) rfl ?_
  refine a_strC hX hi wj_1178 dJ0_isLatin1_aae02_7 (pc' := 10) rfl ?_
  refine a_if_ne hX (by decide) dJ0_isLatin1_aae02_10 (pc' := 13) rfl (tgt := 17) (by decide) (fun c3 => absurd rfl c3) (fun c3 => ?_)
  refine a_iconst hX dJ0_isLatin1_aae02_13 (pc' := 14) rfl ?_
  refine a_goto hX dJ0_isLatin1_aae02_14 (tgt := 18) (by decide) ?_
  exact a_nret hX rfl dJ0_isLatin1_aae02_18 (hE _ _ _ ⟨rfl, rfl, rfl⟩)

set_option maxHeartbeats 4000000 in
set_option maxRecDepth 100000 in
theorem j_length {G : aG} {Z : aZ} {Y : aY} {i : Nat} (hi : i < 7) : aSi G yJ0_length_8abf5 cJ0_length_8abf5 1 (some .int) 1 20 [.ref (G.2.2.2.1 i)] Z Y (aSl.getD i 0 : Nat) := by
  refine aS.ofF (own := RJ0) (by decide +kernel) rfl 0 (Nat.le_of_ble_eq_true rfl) (fun X hX hE => ?_)
  show AW X G 0 [some (.ref (G.2.2.2.1 i))] [] Z Y
  refine a_aload_n hX rfl rfl dJ0_length_8abf5_0 (pc' := 1) rfl ?_
  refine a_strV hX hi wj_1177 dJ0_length_8abf5_1 (pc' := 4) rfl ?_
  refine a_strLen hX hi dJ0_length_8abf5_4 (pc' := 5) rfl ?_
  refine a_aload_n hX rfl rfl dJ0_length_8abf5_5 (pc' := 6) rfl ?_
  refine a_cStr0 hX cvs_J0_335 (j_coder hi) hi ⟨by decide, by decide⟩ (Nat.le_of_ble_eq_true rfl) dJ0_length_8abf5_6 (pc' := 9) rfl ?_
  have hq := aSl_lt hi
  refine a_ishr hX (by omega) (by omega) dJ0_length_8abf5_9 (pc' := 10) rfl ?_
  refine a_iret hX dJ0_length_8abf5_10 (hE _ _ _ ⟨aLf ?_, rfl, rfl⟩)
  exact Int.ediv_one _

set_option maxHeartbeats 4000000 in
set_option maxRecDepth 100000 in
theorem j_isEmpty {G : aG} {Z : aZ} {Y : aY} {i : Nat} (hi : i < 7) : aSi G yJ0_isEmpty_aae02 cJ0_isEmpty_aae02 1 (some .boolean) 0 0 [.ref (G.2.2.2.1 i)] Z Y (aTr (decide (aSl.getD i 0 = 0))) := by
  refine aS.ofF (own := RJ0) (by decide +kernel) rfl 0 (Nat.le_of_ble_eq_true rfl) (fun X hX hE => ?_)
  show AW X G 0 [some (.ref (G.2.2.2.1 i))] [] Z Y
  refine a_aload_n hX rfl rfl dJ0_isEmpty_aae02_0 (pc' := 1) rfl ?_
  refine a_strV hX hi wj_1177 dJ0_isEmpty_aae02_1 (pc' := 4) rfl ?_
  refine a_strLen hX hi dJ0_isEmpty_aae02_4 (pc' := 5) rfl ?_
  have hq := aSl_lt hi
  refine a_if_ne hX (by omega) dJ0_isEmpty_aae02_5 (pc' := 8) rfl (tgt := 12) (by decide) (fun c3 => ?_) (fun c3 => ?_)
  · refine a_iconst hX dJ0_isEmpty_aae02_12 (pc' := 13) rfl ?_
    exact a_zret hX (by omega) dJ0_isEmpty_aae02_13 (hE _ _ _ ⟨aLf (aTr_neg (by omega)).symm, rfl, rfl⟩)
  · refine a_iconst hX dJ0_isEmpty_aae02_8 (pc' := 9) rfl ?_
    refine a_goto hX dJ0_isEmpty_aae02_9 (tgt := 13) (by decide) ?_
    exact a_zret hX (by omega) dJ0_isEmpty_aae02_13 (hE _ _ _ ⟨aLf (aTr_pos (by omega)).symm, rfl, rfl⟩)

set_option maxHeartbeats 4000000 in
set_option maxRecDepth 100000 in
theorem j_checkP {G : aG} {Z : aZ} {Y : aY} {x n : Int} {v : Value} (hx : 0 ≤ x ∧ x < n) (hn : n < 1000) (hv : v = .null ∨ ∃ a, v = .ref a) : aSi G yJ3_checkIndex_8e157 cJ3_checkIndex_8e157 3 (some .int) 0 0 [.int (aI x), .int (aI n), v] Z Y x := by
  rcases hv with rfl | ⟨a, rfl⟩
  · refine aS.ofF (own := RJ3) (by decide +kernel) rfl 0 (Nat.le_of_ble_eq_true rfl) (fun X hX hE => ?_)
    show AW X G 0 [some (.int (aI x)), some (.int (aI n)), some .null] [] Z Y
    refine a_iload_n hX rfl rfl dJ3_checkIndex_8e157_0 (pc' := 1) rfl ?_
    refine a_if_lt hX (by omega) dJ3_checkIndex_8e157_1 (pc' := 4) rfl (tgt := 9) (by decide) (fun c1 => by omega) (fun c1 => ?_)
    refine a_iload_n hX rfl rfl dJ3_checkIndex_8e157_4 (pc' := 5) rfl ?_
    refine a_iload_n hX rfl rfl dJ3_checkIndex_8e157_5 (pc' := 6) rfl ?_
    refine a_icmp_lt hX (by omega) (by omega) dJ3_checkIndex_8e157_6 (pc' := 9) rfl (tgt := 16) (by decide) (fun c6 => ?_) (fun c6 => by omega)
    refine a_iload_n hX rfl rfl dJ3_checkIndex_8e157_16 (pc' := 17) rfl ?_
    exact a_iret hX dJ3_checkIndex_8e157_17 (hE _ _ _ ⟨rfl, rfl, rfl⟩)
  · refine aS.ofF (own := RJ3) (by decide +kernel) rfl 0 (Nat.le_of_ble_eq_true rfl) (fun X hX hE => ?_)
    show AW X G 0 [some (.int (aI x)), some (.int (aI n)), some (.ref a)] [] Z Y
    refine a_iload_n hX rfl rfl dJ3_checkIndex_8e157_0 (pc' := 1) rfl ?_
    refine a_if_lt hX (by omega) dJ3_checkIndex_8e157_1 (pc' := 4) rfl (tgt := 9) (by decide) (fun c1 => by omega) (fun c1 => ?_)
    refine a_iload_n hX rfl rfl dJ3_checkIndex_8e157_4 (pc' := 5) rfl ?_
    refine a_iload_n hX rfl rfl dJ3_checkIndex_8e157_5 (pc' := 6) rfl ?_
    refine a_icmp_lt hX (by omega) (by omega) dJ3_checkIndex_8e157_6 (pc' := 9) rfl (tgt := 16) (by decide) (fun c6 => ?_) (fun c6 => by omega)
    refine a_iload_n hX rfl rfl dJ3_checkIndex_8e157_16 (pc' := 17) rfl ?_
    exact a_iret hX dJ3_checkIndex_8e157_17 (hE _ _ _ ⟨rfl, rfl, rfl⟩)

set_option maxHeartbeats 4000000 in
set_option maxRecDepth 100000 in
theorem j_checkIndex {G : aG} {Z : aZ} {Y : aY} {x n : Int} (hx : 0 ≤ x ∧ x < n) (hn : n < 1000) : aSV G yJ0_checkIndex_df160 cJ0_checkIndex_df160 2 none 1 22 [.int (aI x), .int (aI n)] Z Y (fun Z' Y' => Z' = Z ∧ Y' = Y) := by
  refine aS.ofF (own := RJ0) (by decide +kernel) rfl 0 (Nat.le_of_ble_eq_true rfl) (fun X hX hE => ?_)
  show AW X G 0 [some (.int (aI x)), some (.int (aI n))] [] Z Y
  refine a_iload_n hX rfl rfl dJ0_checkIndex_df160_0 (pc' := 1) rfl ?_
  refine a_iload_n hX rfl rfl dJ0_checkIndex_df160_1 (pc' := 2) rfl ?_
  refine a_gsF hX wj_382 dJ0_checkIndex_df160_2 (pc' := 5) rfl (fun v hv => ?_)
  refine a_cS3i hX css_J0_1059 (j_checkP hx hn hv) ⟨by decide, by decide⟩ (Nat.le_of_ble_eq_true rfl) dJ0_checkIndex_df160_5 (pc' := 8) rfl ?_
  refine a_pop hX rfl dJ0_checkIndex_df160_8 (pc' := 9) rfl ?_
  exact a_vret hX dJ0_checkIndex_df160_9 (hE _ _ _ ⟨rfl, rfl, rfl⟩)

set_option maxHeartbeats 4000000 in
set_option maxRecDepth 100000 in
theorem j_charAtL {G : aG} {Z : aZ} {Y : aY} {i : Nat} {z : Int} (hi : i < 7) (hz : 0 ≤ z ∧ z < (aSl.getD i 0 : Nat)) : aSi G yJ1_charAt_3b067 cJ1_charAt_3b067 2 (some .char) 2 43 [.ref (G.2.2.2.2 i), .int (aI z)] Z Y (aSc i z) := by
  refine aS.ofF (own := RJ1) (by decide +kernel) rfl 0 (Nat.le_of_ble_eq_true rfl) (fun X hX hE => ?_)
  show AW X G 0 [some (.ref (G.2.2.2.2 i)), some (.int (aI z))] [] Z Y
  have hq := aSl_lt hi
  refine a_iload_n hX rfl rfl dJ1_charAt_3b067_0 (pc' := 1) rfl ?_
  refine a_aload_n hX rfl rfl dJ1_charAt_3b067_1 (pc' := 2) rfl ?_
  refine a_strLen hX hi dJ1_charAt_3b067_2 (pc' := 3) rfl ?_
  refine a_cS2V hX css_J1_9 (j_checkIndex hz (by omega)) ⟨by decide, by decide⟩ (Nat.le_of_ble_eq_true rfl) dJ1_charAt_3b067_3 (pc' := 6) rfl (fun Z1 Y1 h => ?_)
  obtain ⟨rfl, rfl⟩ := h
  refine a_aload_n hX rfl rfl dJ1_charAt_3b067_6 (pc' := 7) rfl ?_
  refine a_iload_n hX rfl rfl dJ1_charAt_3b067_7 (pc' := 8) rfl ?_
  refine a_strB hX hi hz hq dJ1_charAt_3b067_8 (pc' := 9) rfl ?_
  refine a_sipush hX rfl dJ1_charAt_3b067_9 (pc' := 12) rfl ?_
  refine a_iand32 hX dJ1_charAt_3b067_12 (pc' := 13) rfl ?_
  refine a_i2c32 hX dJ1_charAt_3b067_13 (pc' := 14) rfl ?_
  rw [(aSc_ok hi hz).1]
  exact a_nret hX (aSc_ok hi hz).2 dJ1_charAt_3b067_14 (hE _ _ _ ⟨rfl, rfl, rfl⟩)

set_option maxHeartbeats 4000000 in
set_option maxRecDepth 100000 in
theorem j_charAt {G : aG} {Z : aZ} {Y : aY} {i : Nat} {z : Int} (hi : i < 7) (hz : 0 ≤ z ∧ z < (aSl.getD i 0 : Nat)) : aSi G yJ0_charAt_5068e cJ0_charAt_5068e 2 (some .char) 3 64 [.ref (G.2.2.2.1 i), .int (aI z)] Z Y (aSc i z) := by
  refine aS.ofF (own := RJ0) (by decide +kernel) rfl 0 (Nat.le_of_ble_eq_true rfl) (fun X hX hE => ?_)
  show AW X G 0 [some (.ref (G.2.2.2.1 i)), some (.int (aI z))] [] Z Y
  refine a_aload_n hX rfl rfl dJ0_charAt_5068e_0 (pc' := 1) rfl ?_
  refine a_cStr0 hX cvs_J0_492 (j_isLatin1 hi) hi ⟨by decide, by decide⟩ (Nat.le_of_ble_eq_true rfl) dJ0_charAt_5068e_1 (pc' := 4) rfl ?_
  refine a_if_eq hX (by decide) dJ0_charAt_5068e_4 (pc' := 7) rfl (tgt := 16) (by decide) (fun c3 => absurd c3 (by decide)) (fun c3 => ?_)
  refine a_aload_n hX rfl rfl dJ0_charAt_5068e_7 (pc' := 8) rfl ?_
  refine a_strV hX hi wj_1177 dJ0_charAt_5068e_8 (pc' := 11) rfl ?_
  refine a_iload_n hX rfl rfl dJ0_charAt_5068e_11 (pc' := 12) rfl ?_
  refine a_cS2i hX css_J0_495 (j_charAtL hi hz) ⟨by decide, by decide⟩ (Nat.le_of_ble_eq_true rfl) dJ0_charAt_5068e_12 (pc' := 15) rfl ?_
  exact a_nret hX (aSc_ok hi hz).2 dJ0_charAt_5068e_15 (hE _ _ _ ⟨rfl, rfl, rfl⟩)

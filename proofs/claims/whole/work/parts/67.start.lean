theorem v_52 : Cond.classLink RL 7 RX9 ∈ aT := aT_at (i := 52) (by decide +kernel) (by decide +kernel)
theorem v_53 : Cond.instantiable RX9 14 ∈ aT := aT_at (i := 53) (by decide +kernel) (by decide +kernel)
theorem v_34 : Cond.initialized RX9 ∈ aT := aT_at (i := 34) (by decide +kernel) (by decide +kernel)
theorem v_54 : Cond.methodLink RL 9 yX9_init ∈ aT := aT_at (i := 54) (by decide +kernel) (by decide +kernel)
theorem v_55 : Cond.instanceMethod yX9_init ∈ aT := aT_at (i := 55) (by decide +kernel) (by decide +kernel)
theorem v_56 : Cond.code yX9_init cX9_init 1 none ∈ aT := aT_at (i := 56) (by decide +kernel) (by decide +kernel)
theorem v_800 : Cond.classLink RL 10 RX10 ∈ aT := aT_at (i := 800) (by decide +kernel) (by decide +kernel)
theorem v_801 : Cond.instantiable RX10 31 ∈ aT := aT_at (i := 801) (by decide +kernel) (by decide +kernel)
theorem v_43 : Cond.initialized RX10 ∈ aT := aT_at (i := 43) (by decide +kernel) (by decide +kernel)
theorem v_802 : Cond.methodLink RL 12 yX10_init ∈ aT := aT_at (i := 802) (by decide +kernel) (by decide +kernel)
theorem v_803 : Cond.instanceMethod yX10_init ∈ aT := aT_at (i := 803) (by decide +kernel) (by decide +kernel)
theorem v_804 : Cond.code yX10_init cX10_init 1 none ∈ aT := aT_at (i := 804) (by decide +kernel) (by decide +kernel)
section BRULES2
variable {X : aX} {D : va_G} {T : Nat → ClassId} {own : String} {cc : ByteArray} {nL : Nat} {ret : Option FieldType} {fr lo mc ms : Nat} {k n pc pc' : Nat} {lv : List (Option Value)} {st : List Value} {ws : va_W}
theorem b_astore (hX : bOK X D T own cc nL ret fr lo mc ms) {q : Fin 4} {i x : Nat} (hi : (q : Nat) = i) (hn : i < nL) (h1 : ∀ j, i = j + 1 → aC1 (lv.getD j none) = true) (hdg : decode cc pc = .ok (.astore_n q, 1)) (hp : pc + 1 = pc') (kk : BW X D k n pc' (lv.set i (some (.ref x))) st ws) : BW X D k n pc lv (.ref x :: st) ws := by
  obtain ⟨p, l, e, R, s, m, args, below, meth, c, A, cs, sl, Q⟩ := X
  obtain ⟨hx, hb, hml, hown, hts, hK, hA, hlk, hr, hR, hAO, -, -⟩ := hX
  subst hp
  intro H locs ls hL hP hD hS
  refine lv_astore_n hx hb hdg hi (aLoc_has hL) (by rw [hml]; exact hn) rfl (fun ls' h' => ?_)
  exact kk H locs ls' (aLoc_put h' (aC1_of h1)) hP hD hS
theorem b_istore (hX : bOK X D T own cc nL ret fr lo mc ms) {q : Fin 4} {i : Nat} {x : Int32} (hi : (q : Nat) = i) (hn : i < nL) (h1 : ∀ j, i = j + 1 → aC1 (lv.getD j none) = true) (hdg : decode cc pc = .ok (.istore_n q, 1)) (hp : pc + 1 = pc') (kk : BW X D k n pc' (lv.set i (some (.int x))) st ws) : BW X D k n pc lv (.int x :: st) ws := by
  obtain ⟨p, l, e, R, s, m, args, below, meth, c, A, cs, sl, Q⟩ := X
  obtain ⟨hx, hb, hml, hown, hts, hK, hA, hlk, hr, hR, hAO, -, -⟩ := hX
  subst hp
  intro H locs ls hL hP hD hS
  refine lv_istore_n hx hb hdg hi (aLoc_has hL) (by rw [hml]; exact hn) rfl (fun ls' h' => ?_)
  exact kk H locs ls' (aLoc_put h' (aC1_of h1)) hP hD hS
end BRULES2
set_option maxHeartbeats 4000000 in
set_option maxRecDepth 100000 in
/-- THE LAW, from its entry -/
theorem whole_start {p : Program} {e : Env} {s : State} {m : MethodId} {below : List Frame} {meth : Method} {c : Code} (l : Launch) (hflags : l.flags = flags0) {b L : Nat} {xs : Nat → Int32} (hL : L ≤ 3072) (C0 : lw_At p s m meth c b L xs) : W p l e room_1 s m #[Value.ref b] below meth c s.heap [] 0 0 (lw_Z below #[Value.ref b] s) (entryFrame m ([Value.ref b] : List Value).toArray 4) := by
  obtain ⟨hx, hb, hr, hml, hown, hts, hXs, hbl, hlocks, hgv⟩ := id C0
  have htsA : ∀ w ∈ aT, w.before #[Value.ref b] s = true := fun w hw => hts w (aT_in hw)
  obtain ⟨D, hKn⟩ := vKnown htsA
  have hAO0 : (Cond.arrayOver (.array .int)).before #[Value.ref b] s = true := hts _ (List.mem_of_getElem? (i := 177) (by decide +kernel))
  obtain ⟨T, hK⟩ := vTys (htsA _ v_75) (htsA _ v_317) hAO0 hKn
  have hA : ∀ a : Nat, a < s.heap.size → ¬ (fun q : Nat => s.heap.size ≤ q) a := fun a h => Nat.not_le.mpr h
  obtain ⟨sK, sV, hSt⟩ := vStr (A := fun q : Nat => s.heap.size ≤ q) (flat_of_before _ hgv) hts hA
  have hAO : va_AOA .int s := hAO0
  obtain ⟨X, hXe⟩ : ∃ X : aX, X = (p, l, e, room_1, s, m, #[Value.ref b], below, meth, c, (fun q : Nat => s.heap.size ≤ q), 80, 998, lw_Z below #[Value.ref b] s) := ⟨_, rfl⟩
  have hroom : 10 ≤ room_1.frames ∧ 358 ≤ room_1.locals ∧ 80 ≤ room_1.cells ∧ 998 ≤ room_1.slots := ⟨Nat.le_of_ble_eq_true rfl, Nat.le_of_ble_eq_true rfl, Nat.le_of_ble_eq_true rfl, Nat.le_of_ble_eq_true rfl⟩
  have hX : bOK X D T RL cL_law 4 ret 10 358 80 998 := by
    subst hXe
    exact ⟨hx, hb, hml, hown, htsA, hK, fun q h => h, hlocks, hr, hroom, hAO, rfl, rfl⟩
  have hSc : lSc X b L xs := by
    subst hXe
    exact ⟨hXs, hbl, hA b hbl⟩
  have main : BW X D 0 0 0 [some (.ref b), none, none, none] [] [] := by
    refine b_new (fs := [.null, .null, .null, .null, .null, .null, .null, .null, .null, .null, .null, .null, .null, .long 0]) hX cl_8 v_52 v_53 v_34 (fun j hj => by rcases (show j = 0 ∨ j = 1 ∨ j = 2 ∨ j = 3 ∨ j = 4 ∨ j = 5 ∨ j = 6 ∨ j = 7 ∨ j = 8 ∨ j = 9 ∨ j = 10 ∨ j = 11 ∨ j = 12 ∨ j = 13 by omega) with rfl | rfl | rfl | rfl | rfl | rfl | rfl | rfl | rfl | rfl | rfl | rfl | rfl | rfl <;> rfl) ⟨by decide, by decide⟩ dL_law_0 (pc' := 3) rfl (fun q0 => ?_)
    change BW X D _ _ _ _ _ [(q0, .inr (8, [.null, .null, .null, .null, .null, .null, .null, .null, .null, .null, .null, .null, .null, .long 0]))]
    refine b_dup hX dL_law_3 (pc' := 4) rfl ?_
    refine b_call (na := 0) (As := []) (wr := []) hX bcSnow_init rfl v_54 v_55 v_34 v_56 ⟨by decide +kernel, by decide +kernel, by decide +kernel⟩ rfl rfl rfl ⟨by decide, by decide⟩ ⟨by decide, by decide⟩ (Nat.le_of_ble_eq_true rfl) dL_law_4 (pc' := 7) rfl (fun u => ?_)
    refine b_astore hX (i := 1) rfl (by decide) (fun j hj => by rw [show j = 0 by omega]; rfl) dL_law_7 (pc' := 8) rfl ?_
    change BW X D _ _ _ [some (.ref b), some (.ref q0), none, none] [] (bcSnow T q0 u)
    refine b_new (fs := [.int (aI 0), .int (aI 0), .int (aI 0), .null, .null, .null, .null, .null, .null, .null, .null, .null, .null, .int (aI 0), .int (aI 0), .int (aI 0), .null, .int (aI 0), .int (aI 0), .int (aI 0), .int (aI 0), .null, .int (aI 0), .int (aI 0), .null, .int (aI 0), .null, .null, .long 0, .null, .null]) hX cl_9 v_800 v_801 v_43 (fun j hj => by rcases (show j = 0 ∨ j = 1 ∨ j = 2 ∨ j = 3 ∨ j = 4 ∨ j = 5 ∨ j = 6 ∨ j = 7 ∨ j = 8 ∨ j = 9 ∨ j = 10 ∨ j = 11 ∨ j = 12 ∨ j = 13 ∨ j = 14 ∨ j = 15 ∨ j = 16 ∨ j = 17 ∨ j = 18 ∨ j = 19 ∨ j = 20 ∨ j = 21 ∨ j = 22 ∨ j = 23 ∨ j = 24 ∨ j = 25 ∨ j = 26 ∨ j = 27 ∨ j = 28 ∨ j = 29 ∨ j = 30 by omega) with rfl | rfl | rfl | rfl | rfl | rfl | rfl | rfl | rfl | rfl | rfl | rfl | rfl | rfl | rfl | rfl | rfl | rfl | rfl | rfl | rfl | rfl | rfl | rfl | rfl | rfl | rfl | rfl | rfl | rfl | rfl <;> rfl) ⟨by decide, by decide⟩ dL_law_8 (pc' := 11) rfl (fun q8 => ?_)
    refine b_dup hX dL_law_11 (pc' := 12) rfl ?_
    refine b_call (na := 0) (As := []) (wr := bcSnow T q0 u) hX bcModel_init rfl v_802 v_803 v_43 v_804 ⟨by decide +kernel, by decide +kernel, by decide +kernel⟩ rfl rfl rfl ⟨by decide, by decide⟩ ⟨by decide, by decide⟩ (Nat.le_of_ble_eq_true rfl) dL_law_12 (pc' := 15) rfl (fun v => ?_)
    refine b_astore hX (i := 2) rfl (by decide) (fun j hj => by rw [show j = 1 by omega]; rfl) dL_law_15 (pc' := 16) rfl ?_
    refine b_iconst hX dL_law_16 (pc' := 17) rfl ?_
    refine b_istore hX (i := 3) rfl (by decide) (fun j hj => by rw [show j = 2 by omega]; rfl) dL_law_17 (pc' := 18) rfl ?_
    rw [bWorld (D := D) (sK := sK) (sV := sV)]
    have aX0 : aOK X (bGG T D sK sV q0 q8 u v) RL cL_law 4 ret 10 358 := by
      subst hXe
      exact ⟨hx, hb, hml, hown, htsA, hK, fun q h => h, hlocks, hr, hroom, hSt⟩
    have hend : ∀ (i : Int) (Z : aZ) (Y : aY), AW X (bGG T D sK sV q0 q8 u v) 979 [some (.ref b), some (.ref ((bGG T D sK sV q0 q8 u v).1 0)), some (.ref ((bGG T D sK sV q0 q8 u v).1 62)), some (.int (aI i))] [] Z Y := fun i Z Y => by
      refine a_iconst aX0 dL_law_979 (pc' := 980) rfl ?_
      subst hXe
      intro H locs ls hL1 hP1 hD1 hS1
      refine va_forget hS1.2.2 ?_
      refine W.widen (k := 600000) (n := 7302250) (Nat.le_of_ble_eq_true rfl) (Nat.le_of_ble_eq_true rfl) ?_
      exact lw_ret hx hb hr hlocks dL_law_980
    have H0 := lk_loop aX0 hSc hL hend 3090 0 Z0 Y0 (by omega) Rel0 (by omega)
    subst hXe
    intro H locs ls hL1 hP1 hD1 hS1
    exact H0 H locs ls hL1 hP1 hD1 hS1
  subst hXe
  have hl := aLoc_entry [Value.ref b] (n := 4) (Nat.le_of_ble_eq_true rfl) 3
  rw [lg_entry_eq]
  exact main s.heap [] _ (by rw [hml]; exact hl) (fun k q h => by simp at h) ⟨fun i j p q h => by simp at h, fun k q h => by simp at h⟩ va_S.rf

/-! CONSTRUCTION: W at a frame over a list of cells that grows -/
theorem va_AOA.moved {ty : FieldType} {u U : State} (hvm : u.vm.Alike U.vm) (h : va_AOA ty u) : va_AOA ty U := by
  have e := Cond.arrayOver_setVmC (args := #[]) hvm (.array ty)
  unfold va_AOA at h ⊢
  rw [h] at e
  exact e
theorem va_nd_of : ∀ l : List Nat, l.Nodup → va_nd l = true
  | [], _ => rfl
  | a :: l, h => by
    simp only [va_nd, Bool.and_eq_true, decide_eq_true_eq]
    exact ⟨(List.nodup_cons.mp h).1, va_nd_of l (List.nodup_cons.mp h).2⟩
def bTys (T : Nat → ClassId) : List (ClassId × FieldType) := [(T 0, .int), (T 1, .boolean), (T 2, .array .int)]
def BW (X : aX) (D : va_G) (k n : Nat) (pc : Nat) (lv : List (Option Value)) (st : List Value) (ws : va_W) : Prop :=
  match X with
  | (p, l, e, R, s, m, args, below, meth, c, A, _, _, Q) => ∀ (H : Heap) (locs : List Loc) (ls : Array Slot), aLoc ls c.maxLocals lv → va_P D vwCl ws H → va_D A ws → va_S A s.heap H locs → W p l e R s m args below meth c H locs k n Q (F0 m pc ls st)
def bOK (X : aX) (D : va_G) (T : Nat → ClassId) (own : String) (cc : ByteArray) (nL : Nat) (ret : Option FieldType) (fr lo mc ms : Nat) : Prop :=
  match X with
  | (p, _, _, R, s, m, args, _, meth, c, A, cs, sl, _) => p.tables.exec = Jvm.exec ∧ c.code = cc ∧ c.maxLocals = nL ∧ s.vm.findClass own = some m.cls ∧ (∀ w ∈ aT, w.before args s = true) ∧ va_K D vwCl (bTys T) s ∧ (∀ q, s.heap.size ≤ q → A q) ∧ meth.locks = false ∧ meth.sig.returnType = ret ∧ (fr ≤ R.frames ∧ lo ≤ R.locals ∧ mc ≤ R.cells ∧ ms ≤ R.slots) ∧ va_AOA .int s ∧ cs = mc ∧ sl = ms
def bIn (X : aX) : Prop :=
  match X with
  | (_, _, _, _, _, _, _, _, meth, _, _, _, _, _) => meth.name = "<init>"
def bRet (X : aX) (D : va_G) (ws : va_W) : Prop :=
  match X with
  | (_, _, _, _, s, _, args, below, _, _, A, cs, sl, Q) => ∃ (Qc : Array Value → State → Outcome → State → Prop) (free : Addr → Prop), Q = MQ below Qc args s cs sl free ∧ ∀ (H : Heap) (locs : List Loc), va_P D vwCl ws H → va_D A ws → va_S A s.heap H locs → (∀ t : State, t.heap = H → s.WarmedH t.vm → Qc args s (.returned none) t) ∧ ∀ q ∈ locs, free q.base
/-- a constructor's contract: from a world of its own cell to the cells that it made, at addresses u -/
def bS (D : va_G) (T : Nat → ClassId) (y : MethodName) (cc : ByteArray) (nL : Nat) (fr lo mc ms : Nat) (av : List Value) (w0 : va_W) (cells : (Nat → Nat) → va_W) : Prop :=
  ∀ (l : Launch) (sz : Nat), Met l y (Cond.code y cc nL none :: aT) { frames := fr, cells := mc, slots := ms, locals := lo } (va_Pc av (fun U => U.heap.size = sz ∧ va_P D vwCl w0 U.heap ∧ va_K D vwCl (bTys T) U ∧ va_D (fun _ => True) w0 ∧ va_AOA .int U)) (va_Qv (fun _ : Nat → Nat => True) (fun u t => va_P D vwCl (cells u) t.heap ∧ va_D (va_A w0 sz) (cells u)) (va_A w0 sz)) mc ms (va_A w0 sz)
set_option maxHeartbeats 1000000 in
theorem bS.of {D : va_G} {T : Nat → ClassId} {y : MethodName} {cc : ByteArray} {nL : Nat} {fr lo mc ms : Nat} {av : List Value} {w0 : va_W} {cells : (Nat → Nat) → va_W} {own : String} (hy : plainName y.cls = true) (ho : y.cls = own) (hi : y.name = "<init>") (k : Nat) (hn : (lg_sl av).length ≤ nL)
    (h : ∀ X : aX, bOK X D T own cc nL none fr lo mc ms → bIn X → (∀ u, bRet X D (cells u)) → BW X D 0 0 0 (aEnt av ++ List.replicate k none) [] w0) : bS D T y cc nL fr lo mc ms av w0 cells := by
  intro l sz
  refine Met.ofW (cc := cc) (maxL := nL) (ret := none) hy rfl ?_
  intro p e s m args below meth c s₁ B hml hv
  obtain ⟨rfl, hsz, hP, hK, hD0, hAO⟩ := hv
  have hts := atoms_spec (ws := Cond.code y cc nL none :: aT) B.pre
  have hown : s.vm.findClass own = some m.cls := by rw [← ho]; exact findClass_of_methodNamed B.named
  have hin : meth.name = "<init>" := by rw [← hi]; exact (name_of_methodNamed B.named B.method).1
  subst hsz
  have hD := hD0.self (sz := s.heap.size)
  have hS : va_S (va_A w0 s.heap.size) s.heap s.heap [] := va_S.rf
  have hl := aLoc_entry av hn k
  rw [lg_entry_eq]
  exact h (p, l, e, (headSpec (Cond.code y cc nL none :: aT) { frames := fr, cells := mc, slots := ms, locals := lo }).room, s, m, av.toArray, below, meth, c, va_A w0 s.heap.size, mc, ms, MQ below (va_Qv (fun _ : Nat → Nat => True) (fun u t => va_P D vwCl (cells u) t.heap ∧ va_D (va_A w0 s.heap.size) (cells u)) (va_A w0 s.heap.size)) av.toArray s mc ms (va_A w0 s.heap.size))
    ⟨B.exec, B.bytes, hml, hown, fun w hw => hts w (List.mem_cons_of_mem _ hw), hK, fun q hq => Or.inr hq, B.notSynchronized, B.returns, ⟨Nat.le_refl _, Nat.le_refl _, Nat.le_refl _, Nat.le_refl _⟩, hAO, rfl, rfl⟩ hin
    (fun u => ⟨_, _, rfl, fun H locs hP' hD' hS' => ⟨fun t ht hW => ⟨⟨u, rfl, trivial, by rw [ht]; exact hP', hD'⟩, hS'.F ht⟩, hS'.2.2⟩⟩)
    s.heap [] _ (by rw [hml]; exact hl) hP hD hS
section BRULES
variable {X : aX} {D : va_G} {T : Nat → ClassId} {own : String} {cc : ByteArray} {nL : Nat} {ret : Option FieldType} {fr lo mc ms : Nat} {k n pc pc' : Nat} {lv : List (Option Value)} {st : List Value} {ws : va_W}
theorem b_aload (hX : bOK X D T own cc nL ret fr lo mc ms) {q : Fin 4} {i x : Nat} (hi : (q : Nat) = i) (hl : lv[i]? = some (some (.ref x))) (hdg : decode cc pc = .ok (.aload_n q, 1)) (hp : pc + 1 = pc') (kk : BW X D k n pc' lv (.ref x :: st) ws) : BW X D k n pc lv st ws := by
  obtain ⟨p, l, e, R, s, m, args, below, meth, c, A, cs, sl, Q⟩ := X
  obtain ⟨hx, hb, hml, hown, hts, hK, hA, hlk, hr, hR, hAO, -, -⟩ := hX
  subst hp
  intro H locs ls hL hP hD hS
  refine lv_aload_n hx hb hdg hi (hL.2.2 i _ hl) ?_
  exact kk H locs ls hL hP hD hS
theorem b_iconst (hX : bOK X D T own cc nL ret fr lo mc ms) {v : Int} (hdg : decode cc pc = .ok (.iconst v, 1)) (hp : pc + 1 = pc') (kk : BW X D k n pc' lv (.int (aI v) :: st) ws) : BW X D k n pc lv st ws := by
  obtain ⟨p, l, e, R, s, m, args, below, meth, c, A, cs, sl, Q⟩ := X
  obtain ⟨hx, hb, hml, hown, hts, hK, hA, hlk, hr, hR, hAO, -, -⟩ := hX
  subst hp
  intro H locs ls hL hP hD hS
  refine lv_iconst hx hb hdg rfl ?_
  exact kk H locs ls hL hP hD hS
theorem b_bipush (hX : bOK X D T own cc nL ret fr lo mc ms) {v : Int} (hn : (Int8.ofInt v).toInt32 = aI v) (hdg : decode cc pc = .ok (.bipush v, 2)) (hp : pc + 2 = pc') (kk : BW X D k n pc' lv (.int (aI v) :: st) ws) : BW X D k n pc lv st ws := by
  obtain ⟨p, l, e, R, s, m, args, below, meth, c, A, cs, sl, Q⟩ := X
  obtain ⟨hx, hb, hml, hown, hts, hK, hA, hlk, hr, hR, hAO, -, -⟩ := hX
  subst hp
  intro H locs ls hL hP hD hS
  refine lv_bipush hx hb hdg hn ?_
  exact kk H locs ls hL hP hD hS
theorem b_sipush (hX : bOK X D T own cc nL ret fr lo mc ms) {v : Int} (hn : (Int16.ofInt v).toInt32 = aI v) (hdg : decode cc pc = .ok (.sipush v, 3)) (hp : pc + 3 = pc') (kk : BW X D k n pc' lv (.int (aI v) :: st) ws) : BW X D k n pc lv st ws := by
  obtain ⟨p, l, e, R, s, m, args, below, meth, c, A, cs, sl, Q⟩ := X
  obtain ⟨hx, hb, hml, hown, hts, hK, hA, hlk, hr, hR, hAO, -, -⟩ := hX
  subst hp
  intro H locs ls hL hP hD hS
  refine lv_sipush hx hb hdg hn ?_
  exact kk H locs ls hL hP hD hS
theorem b_lconst0 (hX : bOK X D T own cc nL ret fr lo mc ms) (hdg : decode cc pc = .ok (.lconst 0, 1)) (hp : pc + 1 = pc') (kk : BW X D k n pc' lv (.long 0 :: st) ws) : BW X D k n pc lv st ws := by
  obtain ⟨p, l, e, R, s, m, args, below, meth, c, A, cs, sl, Q⟩ := X
  obtain ⟨hx, hb, hml, hown, hts, hK, hA, hlk, hr, hR, hAO, -, -⟩ := hX
  subst hp
  intro H locs ls hL hP hD hS
  refine lv_lconst (v := 0) hx hb hdg rfl ?_
  exact kk H locs ls hL hP hD hS
theorem b_dup (hX : bOK X D T own cc nL ret fr lo mc ms) {x : Nat} (hdg : decode cc pc = .ok (.dup, 1)) (hp : pc + 1 = pc') (kk : BW X D k n pc' lv (.ref x :: .ref x :: st) ws) : BW X D k n pc lv (.ref x :: st) ws := by
  obtain ⟨p, l, e, R, s, m, args, below, meth, c, A, cs, sl, Q⟩ := X
  obtain ⟨hx, hb, hml, hown, hts, hK, hA, hlk, hr, hR, hAO, -, -⟩ := hX
  subst hp
  intro H locs ls hL hP hD hS
  refine lv_dup hx hb hdg rfl ?_
  exact kk H locs ls hL hP hD hS
theorem b_objInit (hX : bOK X D T own cc nL ret fr lo mc ms) {idx x : Nat} (h1 : Cond.methodLink own idx objectInit ∈ aT) (h2 : Cond.instanceMethod objectInit ∈ aT) (h3 : Cond.code objectInit ⟨#[0xb1]⟩ 1 none ∈ aT) (hf : 1 ≤ fr ∧ 12 ≤ lo) (hdg : decode cc pc = .ok (.invokespecial idx, 3)) (hp : pc + 3 = pc') (kk : BW X D k n pc' lv [] ws) : BW X D k n pc lv [.ref x] ws := by
  obtain ⟨p, l, e, R, s, m, args, below, meth, c, A, cs, sl, Q⟩ := X
  obtain ⟨hx, hb, hml, hown, hts, hK, hA, hlk, hr, hR, hAO, -, -⟩ := hX
  subst hp
  intro H locs ls hL hP hD hS
  refine W.objInit hx hb hown (hts _ h1) (hts _ h2) (hts _ h3) rfl hL.1 (a := x) (rest := []) rfl hdg (by omega) (Nat.le_trans (show 2 * (F0 m pc ls [Value.ref x]).monitorRoom + (([] : List Value).map fun v => v.category).sum + 12 ≤ 12 from Nat.le_refl _) (by omega)) ?_
  refine W.eq (g2 := F0 m (pc + 3) ls []) rfl ?_
  exact kk H locs ls hL hP hD hS
/-- new int[n], new boolean[n]: zeros -/
def bArr (T : Nat → ClassId) (t n : Nat) : va_E := .inl (T t, n, .inl (fun _ => aI 0))
theorem b_newaI (hX : bOK X D T own cc nL ret fr lo mc ms) {v : Int} {N : Nat} (hw : Cond.arrayClass .int ∈ aT) (hN : ¬ aI v < 0 ∧ (aI v).toNatClampNeg = N) (hb0 : N ≤ 1000) (hk : k + 1 ≤ mc ∧ n + N ≤ ms) (hdg : decode cc pc = .ok (.newarray .int, 2)) (hp : pc + 2 = pc') (kk : ∀ q : Nat, BW X D (k + 1) (n + N) pc' lv (.ref q :: st) (ws ++ [(q, bArr T 0 N)])) : BW X D k n pc lv (.int (aI v) :: st) ws := by
  obtain ⟨p, l, e, R, s, m, args, below, meth, c, A, cs, sl, Q⟩ := X
  obtain ⟨hx, hb, hml, hown, hts, hK, hA, hlk, hr, hR, hAO, hcs, hsl⟩ := hX
  subst hp
  intro H locs ls hL hP hD hS
  refine va_newa (atype := .int) (ty := .int) (a0 := (N, .inl (fun _ => aI 0))) hx hb (hts _ hw) rfl hK hP hD hS hA (fun _ => rfl) hN.1 hN.2 (by show N * 4 ≤ _; omega) (by omega) (by omega) hdg (fun q cA H1 hK1 hP1 hD1 hS1 => ?_)
  have e1 : cA = T 0 := by
    have a1 := (hK1.2 3 (cA, .int) rfl).2
    have a2 := (hK.2 0 (T 0, .int) rfl).2
    exact Option.some.inj (a1.symm.trans a2)
  rw [e1] at hP1 hD1
  exact kk q H1 locs ls hL hP1 hD1 hS1
theorem b_newaZ (hX : bOK X D T own cc nL ret fr lo mc ms) {v : Int} {N : Nat} (hw : Cond.arrayClass .boolean ∈ aT) (hN : ¬ aI v < 0 ∧ (aI v).toNatClampNeg = N) (hb0 : N ≤ 1000) (hk : k + 1 ≤ mc ∧ n + N ≤ ms) (hdg : decode cc pc = .ok (.newarray .boolean, 2)) (hp : pc + 2 = pc') (kk : ∀ q : Nat, BW X D (k + 1) (n + N) pc' lv (.ref q :: st) (ws ++ [(q, bArr T 1 N)])) : BW X D k n pc lv (.int (aI v) :: st) ws := by
  obtain ⟨p, l, e, R, s, m, args, below, meth, c, A, cs, sl, Q⟩ := X
  obtain ⟨hx, hb, hml, hown, hts, hK, hA, hlk, hr, hR, hAO, hcs, hsl⟩ := hX
  subst hp
  intro H locs ls hL hP hD hS
  refine va_newa (atype := .boolean) (ty := .boolean) (a0 := (N, .inl (fun _ => aI 0))) hx hb (hts _ hw) rfl hK hP hD hS hA (fun _ => rfl) hN.1 hN.2 (by show N * 1 ≤ _; omega) (by omega) (by omega) hdg (fun q cA H1 hK1 hP1 hD1 hS1 => ?_)
  have e1 : cA = T 1 := by
    have a1 := (hK1.2 3 (cA, .boolean) rfl).2
    have a2 := (hK.2 1 (T 1, .boolean) rfl).2
    exact Option.some.inj (a1.symm.trans a2)
  rw [e1] at hP1 hD1
  exact kk q H1 locs ls hL hP1 hD1 hS1
/-- new int[N][K]: an array of arrays, and its rows -/
def bArr2 (T : Nat → ClassId) (N : Nat) (r : Nat → Nat) : va_E := .inl (T 2, N, .inr (.inr (.inr (.inr (fun i => if i < N then some (r i) else none)))))
theorem b_mna (hX : bOK X D T own cc nL ret fr lo mc ms) {v w : Int} {N K idx : Nat} (hw1 : Cond.classLink own idx "[[I" ∈ aT) (hw2 : Cond.arrayClass .int ∈ aT) (hN : ¬ aI v < 0 ∧ (aI v).toNatClampNeg = N) (hK2 : ¬ aI w < 0 ∧ (aI w).toNatClampNeg = K) (hb0 : N ≤ 1000 ∧ K ≤ 1000) (hk : k + (1 + N) ≤ mc ∧ n + (N + N * K) ≤ ms) (hdg : decode cc pc = .ok (.multianewarray idx 2, 4)) (hp : pc + 4 = pc') (kk : ∀ (q : Nat) (r : Nat → Nat), BW X D (k + 1 + N) (n + N + N * K) pc' lv (.ref q :: st) ((ws ++ [(q, bArr2 T N r)]) ++ (List.range N).map (fun i => (r i, bArr T 0 K)))) : BW X D k n pc lv (.int (aI w) :: .int (aI v) :: st) ws := by
  obtain ⟨p, l, e, R, s, m, args, below, meth, c, A, cs, sl, Q⟩ := X
  obtain ⟨hx, hb, hml, hown, hts, hK, hA, hlk, hr, hR, hAO, hcs, hsl⟩ := hX
  subst hp
  intro H locs ls hL hP hD hS
  have e0 : ws = ws ++ va_pl [] (fun _ => bArr T 0 0) := by simp [va_pl]
  rw [e0] at hP hD
  have hcy : s.vm.findClass (FieldType.array .int).toString = some (T 0) := (hK.2 0 (T 0, .int) rfl).2
  refine va_mna (ty := .int) (cy := T 0) (X := ws) (L := []) (z := (K, .inl (fun _ => aI 0))) hx hb hown (hts _ hw1) hAO (hts _ hw2) hcy hK hP hD hS hA hN.1 hK2.1 hN.2 hK2.2 (by omega) (by show K * 4 ≤ _; omega) (by omega) rfl rfl (by omega) (by omega) (fun c9 => by rw [show vp_cell c9 (K, .inl (fun _ => aI 0)) = arrV c9 K (fun _ => defaultValue .int) from rfl, ← arrV_new]; rfl) hdg (fun q r cA H1 hr1 hr2 hK1 hP1 hD1 hS1 => ?_)
  have e1 : cA = T 2 := by
    have a1 := (hK1.2 3 (cA, .array .int) rfl).2
    have a2 := (hK.2 2 (T 2, .array .int) rfl).2
    exact Option.some.inj (a1.symm.trans a2)
  have e2 : va_pl ([] ++ (List.range N).map r) (vr_up (fun _ => bArr T 0 0) ((List.range N).map r) (.inl (T 0, (K, .inl (fun _ => aI 0))))) = (List.range N).map (fun i => (r i, bArr T 0 K)) := by
    rw [← vr_rows (fun a _ h => by cases h)]
    simp [va_pl, bArr]
  rw [e2, e1] at hP1 hD1
  exact kk q r H1 locs ls hL hP1 hD1 hS1
theorem b_new (hX : bOK X D T own cc nL ret fr lo mc ms) {ci idx N : Nat} {C : String} {TT : u_T} {ty : Nat → FieldType} {fs : List Value} (hc : aCl ci C TT N ty) (h1 : Cond.classLink own idx C ∈ aT) (h2 : Cond.instantiable C N ∈ aT) (h3 : Cond.initialized C ∈ aT) (hfs : ∀ j, j < N → defaultValue (ty j) = vp_V fs j) (hk : k + 1 ≤ mc ∧ n + N ≤ ms) (hdg : decode cc pc = .ok (.new idx, 3)) (hp : pc + 3 = pc') (kk : ∀ q : Nat, BW X D (k + 1) (n + N) pc' lv (.ref q :: st) (ws ++ [(q, .inr (ci, fs))])) : BW X D k n pc lv st ws := by
  obtain ⟨p, l, e, R, s, m, args, below, meth, c, A, cs, sl, Q⟩ := X
  obtain ⟨hx, hb, hml, hown, hts, hK, hA, hlk, hr, hR, hAO, hcs, hsl⟩ := hX
  obtain ⟨hc1, hc2, hc3, hc4⟩ := hc
  subst hp
  intro H locs ls hL hP hD hS
  refine va_new (ci := ci) (fs := fs) (C := C) (T := TT) (N := N) hx hb hts hc2 ty hc3 hown (hts _ h1) (hts _ h2) (hts _ h3) hK hP hD hS hA hc1 hfs (by omega) (by omega) hdg (fun q H1 hP1 hD1 hS1 => ?_)
  exact kk q H1 locs ls hL hP1 hD1 hS1
theorem b_getf (hX : bOK X D T own cc nL ret fr lo mc ms) {idx ci j : Nat} {t : FieldType} {fs : List Value} {v : Value} {a : Nat} (q0 : Nat) (hf : aFl own idx ci j t) (he : ws[q0]? = some (a, .inr (ci, fs))) (hv : fs[j]? = some v) (hdg : decode cc pc = .ok (.getfield idx, 3)) (hp : pc + 3 = pc') (kk : BW X D k n pc' lv (v :: st) ws) : BW X D k n pc lv (.ref a :: st) ws := by
  obtain ⟨p, l, e, R, s, m, args, below, meth, c, A, cs, sl, Q⟩ := X
  obtain ⟨hx, hb, hml, hown, hts, hK, hA, hlk, hr, hR, hAO, -, -⟩ := hX
  obtain ⟨C, TT, N, ty, ⟨hc1, hc2, hc3, hc4⟩, hj, h1, h3, hl⟩ := hf
  subst hp
  intro H locs ls hL hP hD hS
  refine va_get (C := C) (T := TT) (N := N) hx hb hts hc2 hown hK hP q0 he hc1 j hj (hts _ hl) (fun x9 h9 => by rw [h1] at h9; exact h9) hv hdg ?_
  exact kk H locs ls hL hP hD hS
theorem b_putF (hX : bOK X D T own cc nL ret fr lo mc ms) (hI : bIn X) {idx ci j : Nat} {t : FieldType} {fs : List Value} {v : Value} {a : Nat} {ws' : va_W} (q0 : Nat) (hf : aFl own idx ci j t) (hown2 : ∀ r : vw_C, vwCl[ci]? = some r → r.1 = own) (hfin : ∀ r : vw_C, vwCl[ci]? = some r → (r.2.1 j).2.2.2 = true) (he : ws[q0]? = some (a, .inr (ci, fs))) (hj2 : j < fs.length) (hn : narrow t v = v) (hfit : fits t v = true) (hw : ws.set q0 (a, .inr (ci, fs.set j v)) = ws') (hdg : decode cc pc = .ok (.putfield idx, 3)) (hp : pc + 3 = pc') (kk : BW X D k n pc' lv st ws') : BW X D k n pc lv (v :: .ref a :: st) ws := by
  obtain ⟨p, l, e, R, s, m, args, below, meth, c, A, cs, sl, Q⟩ := X
  obtain ⟨hx, hb, hml, hown, hts, hK, hA, hlk, hr, hR, hAO, -, -⟩ := hX
  obtain ⟨C, TT, N, ty, ⟨hc1, hc2, hc3, hc4⟩, hj, h1, h3, hl⟩ := hf
  subst hp
  subst hw
  intro H locs ls hL hP hD hS
  have hd := hc3 j hj
  rw [h3] at hd
  refine va_putF (C := C) (T := TT) (N := N) hx hb hts hc2 ty hc3 hc4 hown hK hP hD hS q0 he hc1 j hj (hts _ hl) (fun x9 h9 => by rw [h1] at h9; exact h9) (hfin _ hc1) hI (by rw [h1]; exact hown2 _ hc1) hd hn hfit hj2 hdg (fun H1 locs1 hP1 hD1 hS1 => ?_)
  exact kk H1 locs1 ls hL hP1 hD1 hS1
theorem b_put (hX : bOK X D T own cc nL ret fr lo mc ms) {idx ci j : Nat} {t : FieldType} {fs : List Value} {v : Value} {a : Nat} {ws' : va_W} (q0 : Nat) (hf : aFl own idx ci j t) (hnf : aNf ci j) (he : ws[q0]? = some (a, .inr (ci, fs))) (hj2 : j < fs.length) (hn : narrow t v = v) (hfit : fits t v = true) (hw : ws.set q0 (a, .inr (ci, fs.set j v)) = ws') (hdg : decode cc pc = .ok (.putfield idx, 3)) (hp : pc + 3 = pc') (kk : BW X D k n pc' lv st ws') : BW X D k n pc lv (v :: .ref a :: st) ws := by
  obtain ⟨p, l, e, R, s, m, args, below, meth, c, A, cs, sl, Q⟩ := X
  obtain ⟨hx, hb, hml, hown, hts, hK, hA, hlk, hr, hR, hAO, -, -⟩ := hX
  obtain ⟨C, TT, N, ty, ⟨hc1, hc2, hc3, hc4⟩, hj, h1, h3, hl⟩ := hf
  subst hp
  subst hw
  intro H locs ls hL hP hD hS
  have hd := hc3 j hj
  rw [h3] at hd
  refine va_put (C := C) (T := TT) (N := N) hx hb hts hc2 ty hc3 hc4 hown hK hP hD hS q0 he hc1 j hj (hts _ hl) (fun x9 h9 => by rw [h1] at h9; exact h9) (hnf _ hc1) hd hn hfit hj2 hdg (fun H1 locs1 hP1 hD1 hS1 => ?_)
  exact kk H1 locs1 ls hL hP1 hD1 hS1
theorem b_vret (hX : bOK X D T own cc nL none fr lo mc ms) (hk : k ≤ mc ∧ n ≤ ms) (hdg : decode cc pc = .ok (.return_, 1)) (kk : bRet X D ws) : BW X D k n pc lv [] ws := by
  obtain ⟨p, l, e, R, s, m, args, below, meth, c, A, cs, sl, Q⟩ := X
  obtain ⟨hx, hb, hml, hown, hts, hK, hA, hlk, hr, hR, hAO, rfl, rfl⟩ := hX
  intro H locs ls hL hP hD hS
  obtain ⟨Qc, free, rfl, hq⟩ := kk
  refine W.widen (k := cs) (n := sl) hk.1 hk.2 ?_
  exact W.vret hx hb hr (hq H locs hP hD hS).1 (hq H locs hP hD hS).2 hdg hlk
/-- a constructor's call on the cell made last -/
theorem b_call (hX : bOK X D T own cc nL ret fr lo mc ms) {idx na nL2 fr2 lo2 mc2 ms2 : Nat} {y : MethodName} {b : ByteArray} {As st0 : List Value} {wr : va_W} {x : Nat} {cell : va_E} {cells : (Nat → Nat) → va_W} (hS2 : bS D T y b nL2 fr2 lo2 mc2 ms2 (.ref x :: As) [(x, cell)] cells) (hi : y.name = "<init>") (h1 : Cond.methodLink own idx y ∈ aT) (h2 : Cond.instanceMethod y ∈ aT) (h3 : Cond.initialized y.cls ∈ aT) (h4 : Cond.code y b nL2 none ∈ aT)
    (hm : y.cls ≠ "java/lang/invoke/MethodHandle" ∧ y.cls ≠ "java/lang/invoke/VarHandle" ∧ (parseMethodDescriptor y.desc).map (fun d => d.parameters.length) = some na) (hws : ws = wr ++ [(x, cell)]) (hst : st0 = As.reverse ++ .ref x :: st) (hna : As.length = na) (hro : fr2 + 1 ≤ fr ∧ 8 + (nL2 + 11) + lo2 ≤ lo) (hcap : k + mc2 ≤ mc ∧ n + ms2 ≤ ms) (hW : (st.map fun v => v.category).sum ≤ 8) (hdg : decode cc pc = .ok (.invokespecial idx, 3)) (hp : pc + 3 = pc') (kk : ∀ u : Nat → Nat, BW X D (k + mc2) (n + ms2) pc' lv st (wr ++ cells u)) : BW X D k n pc lv st0 ws := by
  obtain ⟨p, l, e, R, s, m, args, below, meth, c, A, cs, sl, Q⟩ := X
  obtain ⟨hx, hb, hml, hown, hts, hK, hA, hlk, hr, hR, hAO, hcs, hsl⟩ := hX
  subst hp
  subst hst
  subst hws
  intro H locs ls hL hP hD hS
  have hlen : (wr ++ [(x, cell)])[wr.length]? = some (x, cell) := by simp
  have hC : [wr.length].map (fun i => (wr ++ [(x, cell)])[i]?) = [(x, cell)].map some := by simp
  have hPc : va_P D vwCl [(x, cell)] H := fun i q hq => by
    have hz : i < 1 := (List.getElem?_eq_some_iff.mp hq).1
    rw [show i = 0 by omega] at hq
    cases hq
    exact hP wr.length _ hlen
  have hDc : va_D (fun _ => True) [(x, cell)] := ⟨fun i j p q hi hj _ => by
    have := (List.getElem?_eq_some_iff.mp hi).1
    have := (List.getElem?_eq_some_iff.mp hj).1
    simp at *
    omega, fun _ _ _ => trivial⟩
  have hFc := va_free (wc := [(x, cell)]) hD hS hA [wr.length] hC
  have hG : GoodIn aT (Cond.code y b nL2 none :: aT) := aT_goodT h4
  refine va_callv (va_runI (As := As) (rest := st) ⟨hx, hb, hml, hown, hts⟩ (hS2 l H.size) (cwI na hts hG rfl rfl rfl (hts _ h3) (hts _ h1) (hts _ h2) hi hm ⟨by show fr2 + 1 ≤ _; omega, by show 8 + (nL2 + 11) + lo2 ≤ _; omega⟩) ⟨fun a U g mk q => by obtain ⟨q0, q1, qP, qK, qD, qO⟩ := q; exact ⟨q0, q1, qP, va_K.moved (u := U) (U := U.calling g mk a) (Vm.Alike.refl U.vm) qK, qD, va_AOA.moved (u := U) (U := U.calling g mk a) (Vm.Alike.refl U.vm) qO⟩, fun U hU hW => ⟨rfl, by rw [hU], by rw [hU]; exact hPc, va_K.moved hW.alike hK, hDc, va_AOA.moved hW.alike hAO⟩⟩ rfl hna (hL.1.trans hml) rfl (lv_room hW) hdg ⟨by omega, by omega⟩) hS (fun q _ h => hFc q h) hFc (fun u t H1 locs1 ht hvm _ hB hz1 hk1 hS1 => ?_)
  obtain ⟨hP1, hD1⟩ := hB
  rw [ht] at hP1
  obtain ⟨hP2, hD2⟩ := va_join (wr := wr) (w1 := cells u) hP hD [wr.length] (List.range wr.length) hC (by
    apply List.ext_getElem?
    intro i
    rw [List.getElem?_map, List.getElem?_map]
    by_cases hi : i < wr.length
    · rw [List.getElem?_range hi, List.getElem?_eq_getElem hi]
      simp [List.getElem?_append_left hi]
    · rw [List.getElem?_eq_none (by simp; omega), List.getElem?_eq_none (by omega)]
      rfl) (va_nd_of _ List.nodup_range) (fun i hi => by
    have := List.mem_range.mp hi
    simp
    omega) hk1 hFc hP1 hD1
  exact kk u H1 locs1 ls hL hP2 hD2 hS1
end BRULES

section
-- ===== PART A: goes FIRST, ahead of the names: the tables' words, and 'selects' of the private methods out of them =====
/-- a private method of a class that the tables say can be made, by its rows of tables_1 -/
def lw_okq (q : MethodName × Nat) : Prop := (q.1.cls ≠ "java/lang/invoke/MethodHandle" ∧ q.1.cls ≠ "java/lang/invoke/VarHandle") ∧ Cond.instantiable q.1.cls q.2 ∈ tables_1 ∧ Cond.privateMethod q.1 ∈ tables_1 ∧ Cond.instanceMethod q.1 ∈ tables_1
theorem lw_p0 : lw_okq (⟨"PromisedSnow", "copyToTrial", "()V"⟩, 14) := ⟨⟨by decide +kernel, by decide +kernel⟩, List.mem_of_getElem? (i := 20) (by decide +kernel), List.mem_of_getElem? (i := 617) (by decide +kernel), List.mem_of_getElem? (i := 618) (by decide +kernel)⟩
theorem lw_p1 : lw_okq (⟨"PromisedSnow", "playSeason", "(I)V"⟩, 14) := ⟨⟨by decide +kernel, by decide +kernel⟩, List.mem_of_getElem? (i := 20) (by decide +kernel), List.mem_of_getElem? (i := 741) (by decide +kernel), List.mem_of_getElem? (i := 742) (by decide +kernel)⟩
theorem lw_p2 : lw_okq (⟨"PromisedSnowModel", "readText", "()I"⟩, 31) := ⟨⟨by decide +kernel, by decide +kernel⟩, List.mem_of_getElem? (i := 768) (by decide +kernel), List.mem_of_getElem? (i := 884) (by decide +kernel), List.mem_of_getElem? (i := 885) (by decide +kernel)⟩
theorem lw_p3 : lw_okq (⟨"PromisedSnowModel", "readPart", "(I)V"⟩, 31) := ⟨⟨by decide +kernel, by decide +kernel⟩, List.mem_of_getElem? (i := 768) (by decide +kernel), List.mem_of_getElem? (i := 888) (by decide +kernel), List.mem_of_getElem? (i := 889) (by decide +kernel)⟩
theorem lw_p4 : lw_okq (⟨"PromisedSnowModel", "figureOf", "(II)I"⟩, 31) := ⟨⟨by decide +kernel, by decide +kernel⟩, List.mem_of_getElem? (i := 768) (by decide +kernel), List.mem_of_getElem? (i := 892) (by decide +kernel), List.mem_of_getElem? (i := 893) (by decide +kernel)⟩
theorem lw_p5 : lw_okq (⟨"PromisedSnowModel", "isCloud", "(I)Z"⟩, 31) := ⟨⟨by decide +kernel, by decide +kernel⟩, List.mem_of_getElem? (i := 768) (by decide +kernel), List.mem_of_getElem? (i := 904) (by decide +kernel), List.mem_of_getElem? (i := 905) (by decide +kernel)⟩
theorem lw_p6 : lw_okq (⟨"PromisedSnowModel", "holds", "(II)I"⟩, 31) := ⟨⟨by decide +kernel, by decide +kernel⟩, List.mem_of_getElem? (i := 768) (by decide +kernel), List.mem_of_getElem? (i := 908) (by decide +kernel), List.mem_of_getElem? (i := 909) (by decide +kernel)⟩
theorem lw_p7 : lw_okq (⟨"PromisedSnowModel", "fallsOn", "(I)I"⟩, 31) := ⟨⟨by decide +kernel, by decide +kernel⟩, List.mem_of_getElem? (i := 768) (by decide +kernel), List.mem_of_getElem? (i := 912) (by decide +kernel), List.mem_of_getElem? (i := 913) (by decide +kernel)⟩
theorem lw_p8 : lw_okq (⟨"PromisedSnowModel", "canFall", "(III)Z"⟩, 31) := ⟨⟨by decide +kernel, by decide +kernel⟩, List.mem_of_getElem? (i := 768) (by decide +kernel), List.mem_of_getElem? (i := 916) (by decide +kernel), List.mem_of_getElem? (i := 917) (by decide +kernel)⟩
theorem lw_p9 : lw_okq (⟨"PromisedSnowModel", "isPaper", "(I)Z"⟩, 31) := ⟨⟨by decide +kernel, by decide +kernel⟩, List.mem_of_getElem? (i := 768) (by decide +kernel), List.mem_of_getElem? (i := 920) (by decide +kernel), List.mem_of_getElem? (i := 921) (by decide +kernel)⟩
theorem lw_p10 : lw_okq (⟨"PromisedSnowModel", "owed", "(II)I"⟩, 31) := ⟨⟨by decide +kernel, by decide +kernel⟩, List.mem_of_getElem? (i := 768) (by decide +kernel), List.mem_of_getElem? (i := 924) (by decide +kernel), List.mem_of_getElem? (i := 925) (by decide +kernel)⟩
theorem lw_p11 : lw_okq (⟨"PromisedSnowModel", "takes", "(II)Z"⟩, 31) := ⟨⟨by decide +kernel, by decide +kernel⟩, List.mem_of_getElem? (i := 768) (by decide +kernel), List.mem_of_getElem? (i := 931) (by decide +kernel), List.mem_of_getElem? (i := 932) (by decide +kernel)⟩
theorem lw_p12 : lw_okq (⟨"PromisedSnowModel", "windOf", "(I)I"⟩, 31) := ⟨⟨by decide +kernel, by decide +kernel⟩, List.mem_of_getElem? (i := 768) (by decide +kernel), List.mem_of_getElem? (i := 935) (by decide +kernel), List.mem_of_getElem? (i := 936) (by decide +kernel)⟩
theorem lw_p13 : lw_okq (⟨"PromisedSnowModel", "serves", "(II)I"⟩, 31) := ⟨⟨by decide +kernel, by decide +kernel⟩, List.mem_of_getElem? (i := 768) (by decide +kernel), List.mem_of_getElem? (i := 939) (by decide +kernel), List.mem_of_getElem? (i := 940) (by decide +kernel)⟩
theorem lw_p14 : lw_okq (⟨"PromisedSnowModel", "canServe", "(III)Z"⟩, 31) := ⟨⟨by decide +kernel, by decide +kernel⟩, List.mem_of_getElem? (i := 768) (by decide +kernel), List.mem_of_getElem? (i := 943) (by decide +kernel), List.mem_of_getElem? (i := 944) (by decide +kernel)⟩
theorem lw_p15 : lw_okq (⟨"PromisedSnowModel", "keepAct", "()V"⟩, 31) := ⟨⟨by decide +kernel, by decide +kernel⟩, List.mem_of_getElem? (i := 768) (by decide +kernel), List.mem_of_getElem? (i := 958) (by decide +kernel), List.mem_of_getElem? (i := 959) (by decide +kernel)⟩
def lw_privs_1 : List (MethodName × Nat) := [(⟨"PromisedSnow", "copyToTrial", "()V"⟩, 14), (⟨"PromisedSnow", "playSeason", "(I)V"⟩, 14), (⟨"PromisedSnowModel", "readText", "()I"⟩, 31), (⟨"PromisedSnowModel", "readPart", "(I)V"⟩, 31), (⟨"PromisedSnowModel", "figureOf", "(II)I"⟩, 31), (⟨"PromisedSnowModel", "isCloud", "(I)Z"⟩, 31), (⟨"PromisedSnowModel", "holds", "(II)I"⟩, 31), (⟨"PromisedSnowModel", "fallsOn", "(I)I"⟩, 31), (⟨"PromisedSnowModel", "canFall", "(III)Z"⟩, 31), (⟨"PromisedSnowModel", "isPaper", "(I)Z"⟩, 31), (⟨"PromisedSnowModel", "owed", "(II)I"⟩, 31), (⟨"PromisedSnowModel", "takes", "(II)Z"⟩, 31), (⟨"PromisedSnowModel", "windOf", "(I)I"⟩, 31), (⟨"PromisedSnowModel", "serves", "(II)I"⟩, 31), (⟨"PromisedSnowModel", "canServe", "(III)Z"⟩, 31), (⟨"PromisedSnowModel", "keepAct", "()V"⟩, 31)]
theorem lw_r1 : ∀ q ∈ lw_privs_1, lw_okq q := List.forall_mem_cons.mpr ⟨lw_p0, List.forall_mem_cons.mpr ⟨lw_p1, List.forall_mem_cons.mpr ⟨lw_p2, List.forall_mem_cons.mpr ⟨lw_p3, List.forall_mem_cons.mpr ⟨lw_p4, List.forall_mem_cons.mpr ⟨lw_p5, List.forall_mem_cons.mpr ⟨lw_p6, List.forall_mem_cons.mpr ⟨lw_p7, List.forall_mem_cons.mpr ⟨lw_p8, List.forall_mem_cons.mpr ⟨lw_p9, List.forall_mem_cons.mpr ⟨lw_p10, List.forall_mem_cons.mpr ⟨lw_p11, List.forall_mem_cons.mpr ⟨lw_p12, List.forall_mem_cons.mpr ⟨lw_p13, List.forall_mem_cons.mpr ⟨lw_p14, List.forall_mem_cons.mpr ⟨lw_p15, fun _ h => absurd h List.not_mem_nil⟩⟩⟩⟩⟩⟩⟩⟩⟩⟩⟩⟩⟩⟩⟩⟩
theorem lw_p16 : lw_okq (⟨"PromisedSnowModel", "passOn", "(IZ)I"⟩, 31) := ⟨⟨by decide +kernel, by decide +kernel⟩, List.mem_of_getElem? (i := 768) (by decide +kernel), List.mem_of_getElem? (i := 962) (by decide +kernel), List.mem_of_getElem? (i := 963) (by decide +kernel)⟩
theorem lw_p17 : lw_okq (⟨"PromisedSnowModel", "blow", "(I)V"⟩, 31) := ⟨⟨by decide +kernel, by decide +kernel⟩, List.mem_of_getElem? (i := 768) (by decide +kernel), List.mem_of_getElem? (i := 966) (by decide +kernel), List.mem_of_getElem? (i := 967) (by decide +kernel)⟩
theorem lw_p18 : lw_okq (⟨"PromisedSnowModel", "fallOn", "(III)V"⟩, 31) := ⟨⟨by decide +kernel, by decide +kernel⟩, List.mem_of_getElem? (i := 768) (by decide +kernel), List.mem_of_getElem? (i := 974) (by decide +kernel), List.mem_of_getElem? (i := 975) (by decide +kernel)⟩
theorem lw_p19 : lw_okq (⟨"PromisedSnowModel", "puffOn", "(IIZ)V"⟩, 31) := ⟨⟨by decide +kernel, by decide +kernel⟩, List.mem_of_getElem? (i := 768) (by decide +kernel), List.mem_of_getElem? (i := 982) (by decide +kernel), List.mem_of_getElem? (i := 983) (by decide +kernel)⟩
theorem lw_p20 : lw_okq (⟨"PromisedSnowModel", "tearOn", "(II)V"⟩, 31) := ⟨⟨by decide +kernel, by decide +kernel⟩, List.mem_of_getElem? (i := 768) (by decide +kernel), List.mem_of_getElem? (i := 990) (by decide +kernel), List.mem_of_getElem? (i := 991) (by decide +kernel)⟩
theorem lw_p21 : lw_okq (⟨"PromisedSnowModel", "layTrial", "()V"⟩, 31) := ⟨⟨by decide +kernel, by decide +kernel⟩, List.mem_of_getElem? (i := 768) (by decide +kernel), List.mem_of_getElem? (i := 1003) (by decide +kernel), List.mem_of_getElem? (i := 1004) (by decide +kernel)⟩
theorem lw_p22 : lw_okq (⟨"PromisedSnowModel", "goOn", "(I)V"⟩, 31) := ⟨⟨by decide +kernel, by decide +kernel⟩, List.mem_of_getElem? (i := 768) (by decide +kernel), List.mem_of_getElem? (i := 1007) (by decide +kernel), List.mem_of_getElem? (i := 1008) (by decide +kernel)⟩
theorem lw_p23 : lw_okq (⟨"PromisedSnowModel", "mostOn", "(I)I"⟩, 31) := ⟨⟨by decide +kernel, by decide +kernel⟩, List.mem_of_getElem? (i := 768) (by decide +kernel), List.mem_of_getElem? (i := 1019) (by decide +kernel), List.mem_of_getElem? (i := 1020) (by decide +kernel)⟩
theorem lw_p24 : lw_okq (⟨"PromisedSnowModel", "owedInAll", "(I)I"⟩, 31) := ⟨⟨by decide +kernel, by decide +kernel⟩, List.mem_of_getElem? (i := 768) (by decide +kernel), List.mem_of_getElem? (i := 1023) (by decide +kernel), List.mem_of_getElem? (i := 1024) (by decide +kernel)⟩
theorem lw_p25 : lw_okq (⟨"PromisedSnowModel", "owedBy", "(II)I"⟩, 31) := ⟨⟨by decide +kernel, by decide +kernel⟩, List.mem_of_getElem? (i := 768) (by decide +kernel), List.mem_of_getElem? (i := 1027) (by decide +kernel), List.mem_of_getElem? (i := 1028) (by decide +kernel)⟩
theorem lw_p26 : lw_okq (⟨"PromisedSnowModel", "tryThing", "(III)Z"⟩, 31) := ⟨⟨by decide +kernel, by decide +kernel⟩, List.mem_of_getElem? (i := 768) (by decide +kernel), List.mem_of_getElem? (i := 1054) (by decide +kernel), List.mem_of_getElem? (i := 1055) (by decide +kernel)⟩
theorem lw_p27 : lw_okq (⟨"PromisedSnowModel", "behind", "(III)I"⟩, 31) := ⟨⟨by decide +kernel, by decide +kernel⟩, List.mem_of_getElem? (i := 768) (by decide +kernel), List.mem_of_getElem? (i := 1073) (by decide +kernel), List.mem_of_getElem? (i := 1074) (by decide +kernel)⟩
theorem lw_p28 : lw_okq (⟨"PromisedSnowModel", "mostBy", "(I)I"⟩, 31) := ⟨⟨by decide +kernel, by decide +kernel⟩, List.mem_of_getElem? (i := 768) (by decide +kernel), List.mem_of_getElem? (i := 1087) (by decide +kernel), List.mem_of_getElem? (i := 1088) (by decide +kernel)⟩
theorem lw_p29 : lw_okq (⟨"PromisedSnowModel", "isRest", "(IIII)Z"⟩, 31) := ⟨⟨by decide +kernel, by decide +kernel⟩, List.mem_of_getElem? (i := 768) (by decide +kernel), List.mem_of_getElem? (i := 1098) (by decide +kernel), List.mem_of_getElem? (i := 1099) (by decide +kernel)⟩
theorem lw_p30 : lw_okq (⟨"PromisedSnowModel", "gain", "(IIII)I"⟩, 31) := ⟨⟨by decide +kernel, by decide +kernel⟩, List.mem_of_getElem? (i := 768) (by decide +kernel), List.mem_of_getElem? (i := 1102) (by decide +kernel), List.mem_of_getElem? (i := 1103) (by decide +kernel)⟩
theorem lw_p31 : lw_okq (⟨"PromisedSnowModel", "choose", "(II)V"⟩, 31) := ⟨⟨by decide +kernel, by decide +kernel⟩, List.mem_of_getElem? (i := 768) (by decide +kernel), List.mem_of_getElem? (i := 1106) (by decide +kernel), List.mem_of_getElem? (i := 1107) (by decide +kernel)⟩
def lw_privs_2 : List (MethodName × Nat) := [(⟨"PromisedSnowModel", "passOn", "(IZ)I"⟩, 31), (⟨"PromisedSnowModel", "blow", "(I)V"⟩, 31), (⟨"PromisedSnowModel", "fallOn", "(III)V"⟩, 31), (⟨"PromisedSnowModel", "puffOn", "(IIZ)V"⟩, 31), (⟨"PromisedSnowModel", "tearOn", "(II)V"⟩, 31), (⟨"PromisedSnowModel", "layTrial", "()V"⟩, 31), (⟨"PromisedSnowModel", "goOn", "(I)V"⟩, 31), (⟨"PromisedSnowModel", "mostOn", "(I)I"⟩, 31), (⟨"PromisedSnowModel", "owedInAll", "(I)I"⟩, 31), (⟨"PromisedSnowModel", "owedBy", "(II)I"⟩, 31), (⟨"PromisedSnowModel", "tryThing", "(III)Z"⟩, 31), (⟨"PromisedSnowModel", "behind", "(III)I"⟩, 31), (⟨"PromisedSnowModel", "mostBy", "(I)I"⟩, 31), (⟨"PromisedSnowModel", "isRest", "(IIII)Z"⟩, 31), (⟨"PromisedSnowModel", "gain", "(IIII)I"⟩, 31), (⟨"PromisedSnowModel", "choose", "(II)V"⟩, 31)]
theorem lw_r2 : ∀ q ∈ lw_privs_2, lw_okq q := List.forall_mem_cons.mpr ⟨lw_p16, List.forall_mem_cons.mpr ⟨lw_p17, List.forall_mem_cons.mpr ⟨lw_p18, List.forall_mem_cons.mpr ⟨lw_p19, List.forall_mem_cons.mpr ⟨lw_p20, List.forall_mem_cons.mpr ⟨lw_p21, List.forall_mem_cons.mpr ⟨lw_p22, List.forall_mem_cons.mpr ⟨lw_p23, List.forall_mem_cons.mpr ⟨lw_p24, List.forall_mem_cons.mpr ⟨lw_p25, List.forall_mem_cons.mpr ⟨lw_p26, List.forall_mem_cons.mpr ⟨lw_p27, List.forall_mem_cons.mpr ⟨lw_p28, List.forall_mem_cons.mpr ⟨lw_p29, List.forall_mem_cons.mpr ⟨lw_p30, List.forall_mem_cons.mpr ⟨lw_p31, fun _ h => absurd h List.not_mem_nil⟩⟩⟩⟩⟩⟩⟩⟩⟩⟩⟩⟩⟩⟩⟩⟩
theorem lw_p32 : lw_okq (⟨"PromisedSnowModel", "filledInAll", "(I)I"⟩, 31) := ⟨⟨by decide +kernel, by decide +kernel⟩, List.mem_of_getElem? (i := 768) (by decide +kernel), List.mem_of_getElem? (i := 1128) (by decide +kernel), List.mem_of_getElem? (i := 1129) (by decide +kernel)⟩
def lw_privs_3 : List (MethodName × Nat) := [(⟨"PromisedSnowModel", "filledInAll", "(I)I"⟩, 31)]
theorem lw_r3 : ∀ q ∈ lw_privs_3, lw_okq q := List.forall_mem_cons.mpr ⟨lw_p32, fun _ h => absurd h List.not_mem_nil⟩
def lw_privs : List (MethodName × Nat) := lw_privs_1 ++ (lw_privs_2 ++ (lw_privs_3))
def lw_tbl : List Cond := k2_sels lw_privs ++ tables_1
theorem lw_privs_ok : ∀ q ∈ lw_privs, lw_okq q := by
  show ∀ q ∈ lw_privs_1 ++ (lw_privs_2 ++ (lw_privs_3)), lw_okq q
  exact List.forall_mem_append.mpr ⟨lw_r1, List.forall_mem_append.mpr ⟨lw_r2, lw_r3⟩⟩
end
section
/-- (ours: the printed rows below use this name, the kit of this claim does not hold it) -/
def va_AOA (ty : FieldType) (U : State) : Prop := (Cond.arrayOver (.array ty)).before #[] U = true
theorem va_AOA.use {ty : FieldType} {A : Array Value} {U : State} (h : va_AOA ty U) : (Cond.arrayOver (.array ty)).before A U = true := h
/-! ===== BEGIN words of one list among another's, by their places ===== -/
theorem goodIn_r {big : List Cond} (ws : List Cond) (ps : List Nat) (hp : ws = ps.filterMap (fun i => big[i]?)) (h : ws.all goodWord = true) : GoodIn big ws := by
  intro w hw
  have h1 := List.all_eq_true.mp h w hw
  rw [hp] at hw
  obtain ⟨i, -, hi⟩ := List.mem_filterMap.mp hw
  have hm : w ∈ big := by first | exact List.mem_of_getElem? hi | exact List.getElem?_mem hi
  exact ⟨hm, good_of_word h1⟩
theorem goodIn_app {big a b : List Cond} (ha : GoodIn big a) (hb : GoodIn big b) : GoodIn big (a ++ b) := fun w h => (List.mem_append.mp h).elim (ha w) (hb w)
theorem goodIn_ca {big a b : List Cond} {c : Cond} (ha : GoodIn big (c :: a)) (hb : GoodIn big b) : GoodIn big (c :: (a ++ b)) := fun w h => (List.mem_cons.mp h).elim (fun e => ha w (List.mem_cons.mpr (Or.inl e))) (fun h => (List.mem_append.mp h).elim (fun h => ha w (List.mem_cons.mpr (Or.inr h))) (hb w))
theorem goodIn_sub {big ws : List Cond} (hm : ∀ w ∈ ws, w ∈ big) (h : ws.all goodWord = true) : GoodIn big ws := fun w hw => ⟨hm w hw, good_of_word (List.all_eq_true.mp h w hw)⟩
/-! ===== END ===== -/

/-! ===== BEGIN new T[n][m]: the outer array a place, the inner ones among the pooled ===== -/
/-- f, but v at every address of l -/
def vr_up {α : Type} (f : Nat → α) (l : List Nat) (v : α) : Nat → α := fun a => if a ∈ l then v else f a
theorem vr_up_in {α : Type} {f : Nat → α} {l : List Nat} {v : α} {a : Nat} (h : a ∈ l) : vr_up f l v a = v := if_pos h
theorem vr_up_ne {α : Type} {f : Nat → α} {l : List Nat} {v : α} {a : Nat} (h : a ∉ l) : vr_up f l v a = f a := if_neg h
theorem vr_rows {L l : List Nat} {f : Nat → va_E} {e : va_E} (h : ∀ a, a ∈ l → a ∉ L) : va_pl L f ++ l.map (fun a => (a, e)) = va_pl (L ++ l) (vr_up f l e) := by
  unfold va_pl
  rw [List.map_append]
  congr 1
  · apply List.map_congr_left
    intro a ha
    rw [vr_up_ne (fun q => h a q ha)]
  · apply List.map_congr_left
    intro a ha
    rw [vr_up_in ha]
theorem vr_lay {X rows : va_W} {x : Nat × va_E} {pl : va_W} {D : va_G} {cl : List vw_C} {H : Heap} (hP : va_P D cl (((X ++ pl) ++ [x]) ++ rows) H) : va_P D cl ((X ++ [x]) ++ (pl ++ rows)) H := by
  rw [List.append_assoc (X ++ pl)] at hP
  have h := va_P.swap hP
  rw [← List.append_assoc X] at h
  have h2 := va_P.swap h
  rw [List.append_assoc (X ++ [x])] at h2
  exact h2
theorem vr_layD {X rows : va_W} {x : Nat × va_E} {pl : va_W} {A : Nat → Prop} (hD : va_D A (((X ++ pl) ++ [x]) ++ rows)) : va_D A ((X ++ [x]) ++ (pl ++ rows)) := by
  rw [List.append_assoc (X ++ pl)] at hD
  have h := va_D.swap hD
  rw [← List.append_assoc X] at h
  have h2 := va_D.swap h
  rw [List.append_assoc (X ++ [x])] at h2
  exact h2
theorem vr_outer (c : ClassId) (N h0 : Nat) : ∀ i : Nat, Jvm.Free.Multi.outerC c N h0 i = arrV c N (fun j => va_rf (if j < i then some (h0 + 1 + j) else none))
  | 0 => by
    show ({ cls := c, slots := Array.replicate N .null, vm := .none } : Cell) = _
    rw [arrV_new]
    refine congrArg (arrV c N) (funext fun j => ?_)
    simp [va_rf]
  | i + 1 => by
    show (Jvm.Free.Multi.outerC c N h0 i).setSlot i (.ref (h0 + 1 + i)) = _
    rw [vr_outer c N h0 i, arrV_store]
    refine congrArg (arrV c N) (funext fun j => ?_)
    by_cases e : j = i
    · subst e
      simp [updV, va_rf]
    · by_cases h : j < i
      · simp [updV, e, h, Nat.lt_succ_of_lt h]
      · simp [updV, e, h, show ¬ j < i + 1 by omega]
section VGM
variable {p : Program} {l : Launch} {e : Env} {R : Room} {s : State} {m : MethodId} {args : Array Value} {below : List Frame} {meth : Method} {c : Code} {H : Heap} {locs : List Loc} {cells slots : Nat} {Q : State → Prop}
variable {cc : ByteArray} {pc : Nat} {ls : Array Slot} {rest : List Value} {D : va_G} {cl : List vw_C} {A : Nat → Prop} {a : Nat} {tys : List (ClassId × FieldType)} {ws : va_W} {H0 : Heap}
theorem va_mna {X : va_W} {L : List Nat} {f : Nat → va_E} {cc : ByteArray} (hexec : p.tables.exec = Jvm.exec) (hb : c.code = cc) {own : String} {index : Nat} {ty : FieldType} {cy : ClassId} (hown : s.vm.findClass own = some m.cls) (hclink : (Cond.classLink own index ("[" ++ (FieldType.array ty).toString)).before args s = true) (hover : va_AOA ty s) (harr : (Cond.arrayClass ty).before args s = true) (hcy : s.vm.findClass (FieldType.array ty).toString = some cy)
    (hK : va_K D cl tys s) (hP : va_P D cl (X ++ va_pl L f) H) (hD : va_D A (X ++ va_pl L f)) (hS : va_S A H0 H locs) (hA : ∀ q, H0.size ≤ q → A q) {n k : Int32} {N' K' : Nat} {z : vp_A} (hn : ¬ n < 0) (hk : ¬ k < 0) (hN : n.toNatClampNeg = N') (hM : k.toNatClampNeg = K')
    (hb1 : N' * 4 ≤ 536870912) (hb2 : K' * componentBytes ty ≤ 536870912) (hb3 : K' ≤ 536870912) (hdf : fits ty (defaultValue ty) = true) (hdd : (defaultValue ty).isDefault = true) (hcells : cells + (1 + N') ≤ R.cells) (hslots : slots + (N' + N' * K') ≤ R.slots) (hz : ∀ c : ClassId, Jvm.Free.Multi.innerC c K' (defaultValue ty) = vp_cell c z) (hdg : decode cc pc = .ok (.multianewarray index 2, 4))
    (kk : ∀ (q : Nat) (r : Nat → Nat) (cA : ClassId) (H1 : Heap), (∀ i j : Nat, i < N' → j < N' → r i = r j → i = j) → (∀ i : Nat, i < N' → r i ∉ L) → va_K D cl (tys ++ [(cA, .array ty)]) s →
      va_P D cl ((X ++ [(q, .inl (cA, N', .inr (.inr (.inr (.inr (fun i => if i < N' then some (r i) else none))))))]) ++ va_pl (L ++ (List.range N').map r) (vr_up f ((List.range N').map r) (.inl (cy, z)))) H1 → va_D A ((X ++ [(q, .inl (cA, N', .inr (.inr (.inr (.inr (fun i => if i < N' then some (r i) else none))))))]) ++ va_pl (L ++ (List.range N').map r) (vr_up f ((List.range N').map r) (.inl (cy, z)))) → va_S A H0 H1 locs →
      W p l e R s m args below meth c H1 locs (cells + 1 + N') (slots + N' + N' * K') Q (F0 m (pc + 4) ls (.ref q :: rest))) : W p l e R s m args below meth c H locs cells slots Q (F0 m pc ls (.int k :: .int n :: rest)) := by
  subst hN
  subst hM
  intro T hT Xs
  obtain ⟨vm₁, cA, comp, -, fA, fC, hO, -, X', step⟩ := Xs.multianewarray2F hexec hown hclink (va_AOA.use hover) harr (g := F0 m pc ls (.int k :: .int n :: rest)) rfl (by rw [hb]; exact hdg) rfl hn hk hb1 hb2 hb3 hdf hdd hcells hslots
  have ec : some cy = some comp := hcy.symm.trans fC
  cases ec
  generalize hF : Jvm.Free.Multi.fill (T.setVm vm₁) cA cy n.toNatClampNeg k.toNatClampNeg (defaultValue ty) n.toNatClampNeg = F at X' step
  have hTh : (T.setVm vm₁).heap = H := hT
  obtain ⟨f1, f2, -, -⟩ := Jvm.Free.Multi.fill_facts (T.setVm vm₁) cA cy n.toNatClampNeg k.toNatClampNeg (defaultValue ty) n.toNatClampNeg
  rw [hF, hTh] at f1 f2
  have hold : ∀ x : Nat, x < H.size → F.heap[x]? = H[x]? := fun x hx => by
    have := Jvm.Free.Multi.fill_old (T.setVm vm₁) cA cy n.toNatClampNeg k.toNatClampNeg (defaultValue ty) (a := x) (by rw [hTh]; exact hx) n.toNatClampNeg
    rw [hF, hTh] at this
    exact this
  have hrow : ∀ j : Nat, j < n.toNatClampNeg → F.heap[H.size + 1 + j]? = some (vp_cell cy z) := fun j hj => by
    have := Jvm.Free.Multi.fill_inner (T.setVm vm₁) cA cy n.toNatClampNeg k.toNatClampNeg (defaultValue ty) n.toNatClampNeg j hj
    rw [hF, hTh, hz] at this
    exact this
  have hout : Jvm.Free.Multi.outerC cA n.toNatClampNeg H.size n.toNatClampNeg = vp_cell cA (n.toNatClampNeg, .inr (.inr (.inr (.inr (fun i => if i < n.toNatClampNeg then some (H.size + 1 + i) else none))))) := by
    rw [vp_cell_q]
    exact vr_outer cA n.toNatClampNeg H.size n.toNatClampNeg
  rw [hout] at f2
  have hlt : ∀ a, a ∈ L → a < H.size := fun a ha => by
    obtain ⟨k9, hk9⟩ := va_pl_get (X := X) (f := f) ha
    exact (hP k9 _ hk9).lt
  have hnl : ∀ i : Nat, i < n.toNatClampNeg → H.size + 1 + i ∉ L := fun i _ h => by
    have := hlt _ h
    omega
  have hnm : ∀ a, a ∈ (List.range n.toNatClampNeg).map (fun i => H.size + 1 + i) → a ∉ L := fun a ha h => by
    obtain ⟨i, -, rfl⟩ := List.mem_map.mp ha
    have := hlt _ h
    omega
  have hP0 : va_P D cl (X ++ va_pl L f) F.heap := hP.kept (fun k9 x hx => hold x.1 ((hP k9 x hx).lt))
  have hP1 : va_P D cl ((X ++ va_pl L f) ++ [(H.size, .inl (cA, n.toNatClampNeg, .inr (.inr (.inr (.inr (fun i => if i < n.toNatClampNeg then some (H.size + 1 + i) else none))))))]) F.heap := hP0.app (fun k9 x hx => by
    have h0 : k9 < 1 := (List.getElem?_eq_some_iff.mp hx).1
    rw [show k9 = 0 by omega] at hx
    cases hx
    exact f2)
  have hP2 : va_P D cl (((X ++ va_pl L f) ++ [(H.size, .inl (cA, n.toNatClampNeg, .inr (.inr (.inr (.inr (fun i => if i < n.toNatClampNeg then some (H.size + 1 + i) else none))))))]) ++ ((List.range n.toNatClampNeg).map (fun i => H.size + 1 + i)).map (fun a => (a, .inl (cy, z)))) F.heap := hP1.app (fun k9 x hx => by
    obtain ⟨a, ha, rfl⟩ := List.mem_map.mp (List.mem_of_getElem? hx)
    obtain ⟨i, hi, rfl⟩ := List.mem_map.mp ha
    exact hrow i (List.mem_range.mp hi))
  have hD2 : va_D A (((X ++ va_pl L f) ++ [(H.size, .inl (cA, n.toNatClampNeg, .inr (.inr (.inr (.inr (fun i => if i < n.toNatClampNeg then some (H.size + 1 + i) else none))))))]) ++ ((List.range n.toNatClampNeg).map (fun i => H.size + 1 + i)).map (fun a => (a, .inl (cy, z)))) := by
    have hD1 := hD.push (e := .inl (cA, n.toNatClampNeg, .inr (.inr (.inr (.inr (fun i => if i < n.toNatClampNeg then some (H.size + 1 + i) else none)))))) hP rfl (hA _ hS.1)
    generalize hW1 : (X ++ va_pl L f) ++ [(H.size, .inl (cA, n.toNatClampNeg, .inr (.inr (.inr (.inr (fun i => if i < n.toNatClampNeg then some (H.size + 1 + i) else none))))))] = W1 at hD1 hP1 ⊢
    have hle : ∀ (k9 : Nat) (x : Nat × va_E), W1[k9]? = some x → x.1 ≤ H.size := fun k9 x hx => by
      rw [← hW1] at hx
      by_cases hl : k9 < (X ++ va_pl L f).length
      · rw [List.getElem?_append_left hl] at hx
        exact Nat.le_of_lt ((hP k9 x hx).lt)
      · rw [List.getElem?_append_right (by omega)] at hx
        have h0 : k9 - (X ++ va_pl L f).length < 1 := (List.getElem?_eq_some_iff.mp hx).1
        rw [show k9 - (X ++ va_pl L f).length = 0 by omega] at hx
        cases hx
        exact Nat.le_refl _
    have hr : ∀ (k9 : Nat) (x : Nat × va_E), (((List.range n.toNatClampNeg).map (fun i => H.size + 1 + i)).map (fun a => ((a, .inl (cy, z)) : Nat × va_E)))[k9]? = some x → x.1 = H.size + 1 + k9 := fun k9 x hx => by
      rw [List.getElem?_map, List.getElem?_map] at hx
      by_cases h9 : k9 < n.toNatClampNeg
      · rw [List.getElem?_range h9] at hx
        cases hx
        rfl
      · have hn0 : (List.range n.toNatClampNeg)[k9]? = none := List.getElem?_eq_none (by rw [List.length_range]; omega)
        rw [hn0] at hx
        cases hx
    refine ⟨fun i j x y hi hj hxy => ?_, fun k9 x hx => ?_⟩
    · by_cases h1 : i < W1.length <;> by_cases h2 : j < W1.length
      · rw [List.getElem?_append_left h1] at hi
        rw [List.getElem?_append_left h2] at hj
        exact hD1.1 i j x y hi hj hxy
      · rw [List.getElem?_append_left h1] at hi
        rw [List.getElem?_append_right (by omega)] at hj
        have := hle _ _ hi
        have := hr _ _ hj
        omega
      · rw [List.getElem?_append_right (by omega)] at hi
        rw [List.getElem?_append_left h2] at hj
        have := hle _ _ hj
        have := hr _ _ hi
        omega
      · rw [List.getElem?_append_right (by omega)] at hi hj
        have := hr _ _ hi
        have := hr _ _ hj
        omega
    · by_cases h1 : k9 < W1.length
      · rw [List.getElem?_append_left h1] at hx
        exact hD1.2 k9 x hx
      · rw [List.getElem?_append_right (by omega)] at hx
        have := hr _ _ hx
        exact hA _ (by have := hS.1; omega)
  have hAr : ArrOfT s cA (.array ty) := fun N9 z9 => by
    obtain ⟨-, k9, hk9, cm9, hkk9⟩ := (hO 0 0 0).1
    exact ⟨(fun q hq => by cases hq), k9, hk9, cm9, hkk9⟩
  have hK2 : va_K D cl (tys ++ [(cA, .array ty)]) s := ⟨hK.1, fun k9 x hx => by
    by_cases hl : k9 < tys.length
    · rw [List.getElem?_append_left hl] at hx
      exact hK.2 k9 x hx
    · rw [List.getElem?_append_right (by omega)] at hx
      have h0 : k9 - tys.length < 1 := (List.getElem?_eq_some_iff.mp hx).1
      rw [show k9 - tys.length = 0 by omega] at hx
      cases hx
      exact ⟨hAr, fA⟩⟩
  obtain ⟨t, a1, b1⟩ := kk H.size (fun i => H.size + 1 + i) cA F.heap (fun i j _ _ h => by have h9 : H.size + 1 + i = H.size + 1 + j := h; omega) hnl hK2 (by rw [← vr_rows hnm]; exact vr_lay hP2) (by rw [← vr_rows hnm]; exact vr_layD hD2) ⟨by rw [f1]; have := hS.1; omega, fun x h1 h2 => (hold x (Nat.lt_of_lt_of_le h1 hS.1)).trans (hS.2.1 x h1 h2), hS.2.2⟩ F rfl X'
  refine ⟨t, step t ?_, b1⟩
  have e : T.heap.size = H.size := by rw [hT]
  rw [e]
  exact a1
end VGM
/-! ===== END ===== -/

def RX0 : String := "PromisedSnow$Acts"
def TX0 : u_T := fun k => match k with
  | 0 => ("PromisedSnow$Acts", "before", "[[I", true)
  | 1 => ("PromisedSnow$Acts", "first", "I", false)
  | _ => ("PromisedSnow$Acts", "size", "I", false)
def tyX0 : Nat → FieldType := fun k => match k with
  | 0 => .array (.array .int)
  | 1 => .int
  | _ => .int
abbrev wsX00 : List Cond := u_ws RX0 TX0 3
theorem nmX0 : ∀ a, a < 3 → ∀ b, b < 3 → a ≠ b → (TX0 a).2.1 ≠ (TX0 b).2.1 := by decide +kernel
theorem tyX0_ok : ∀ k, k < 3 → parseFieldDescriptor (TX0 k).2.2.1 = some (tyX0 k) := by decide +kernel
abbrev cX0_init : ByteArray := prog_2_method_1_code
def yX0_init : MethodName := ⟨RX0, "<init>", "()V"⟩
abbrev cX0_remember : ByteArray := prog_2_method_2_code
def yX0_remember : MethodName := ⟨RX0, "remember", "(LPromisedSnow$Sky;)V"⟩
abbrev cX0_takeBack : ByteArray := prog_2_method_3_code
def yX0_takeBack : MethodName := ⟨RX0, "takeBack", "(LPromisedSnow$Sky;)Z"⟩
abbrev cX0_forget : ByteArray := prog_2_method_4_code
def yX0_forget : MethodName := ⟨RX0, "forget", "()V"⟩
def RX1 : String := "PromisedSnow$Chances"
def TX1 : u_T := fun k => match k with
  | 0 => ("PromisedSnow$Chances", "weight", "[I", true)
  | 1 => ("PromisedSnow$Chances", "ahead", "[I", true)
  | _ => ("PromisedSnow$Chances", "whole", "I", false)
def tyX1 : Nat → FieldType := fun k => match k with
  | 0 => .array .int
  | 1 => .array .int
  | _ => .int
abbrev wsX10 : List Cond := u_ws RX1 TX1 3
theorem nmX1 : ∀ a, a < 3 → ∀ b, b < 3 → a ≠ b → (TX1 a).2.1 ≠ (TX1 b).2.1 := by decide +kernel
theorem tyX1_ok : ∀ k, k < 3 → parseFieldDescriptor (TX1 k).2.2.1 = some (tyX1 k) := by decide +kernel
abbrev cX1_init : ByteArray := prog_3_method_1_code
def yX1_init : MethodName := ⟨RX1, "<init>", "()V"⟩
abbrev cX1_startOver : ByteArray := prog_3_method_2_code
def yX1_startOver : MethodName := ⟨RX1, "startOver", "(I)V"⟩
abbrev cX1_goDay : ByteArray := prog_3_method_3_code
def yX1_goDay : MethodName := ⟨RX1, "goDay", "(II)V"⟩
def RX2 : String := "PromisedSnow$Numbers"
def TX2 : u_T := fun k => match k with
  | _ => ("", "", "", false)
def tyX2 : Nat → FieldType := fun k => match k with
  | _ => .int
abbrev wsX20 : List Cond := u_ws RX2 TX2 0
theorem nmX2 : ∀ a, a < 0 → ∀ b, b < 0 → a ≠ b → (TX2 a).2.1 ≠ (TX2 b).2.1 := by decide +kernel
theorem tyX2_ok : ∀ k, k < 0 → parseFieldDescriptor (TX2 k).2.2.1 = some (tyX2 k) := by decide +kernel
abbrev cX2_ring : ByteArray := prog_4_method_2_code
def yX2_ring : MethodName := ⟨RX2, "ring", "(I)I"⟩
abbrev cX2_factorial : ByteArray := prog_4_method_3_code
def yX2_factorial : MethodName := ⟨RX2, "factorial", "(I)I"⟩
abbrev cX2_fractionPart : ByteArray := prog_4_method_4_code
def yX2_fractionPart : MethodName := ⟨RX2, "fractionPart", "(IIZ)I"⟩
abbrev cX2_commonDivisor : ByteArray := prog_4_method_5_code
def yX2_commonDivisor : MethodName := ⟨RX2, "commonDivisor", "(II)I"⟩
def RX3 : String := "PromisedSnow$Pass"
def TX3 : u_T := fun k => match k with
  | 0 => ("PromisedSnow$Pass", "wind", "[I", true)
  | 1 => ("PromisedSnow$Pass", "cloudYard", "[I", true)
  | 2 => ("PromisedSnow$Pass", "cloudFlakes", "[I", true)
  | 3 => ("PromisedSnow$Pass", "cloudKind", "[I", true)
  | 4 => ("PromisedSnow$Pass", "paperYard", "[I", true)
  | 5 => ("PromisedSnow$Pass", "due", "[I", true)
  | 6 => ("PromisedSnow$Pass", "paperKind", "[I", true)
  | 7 => ("PromisedSnow$Pass", "promised", "[I", true)
  | 8 => ("PromisedSnow$Pass", "winds", "I", false)
  | 9 => ("PromisedSnow$Pass", "clouds", "I", false)
  | _ => ("PromisedSnow$Pass", "papers", "I", false)
def tyX3 : Nat → FieldType := fun k => match k with
  | 0 => .array .int
  | 1 => .array .int
  | 2 => .array .int
  | 3 => .array .int
  | 4 => .array .int
  | 5 => .array .int
  | 6 => .array .int
  | 7 => .array .int
  | 8 => .int
  | 9 => .int
  | _ => .int
abbrev wsX30 : List Cond := u_ws RX3 TX3 11
theorem nmX3 : ∀ a, a < 11 → ∀ b, b < 11 → a ≠ b → (TX3 a).2.1 ≠ (TX3 b).2.1 := by decide +kernel
theorem tyX3_ok : ∀ k, k < 11 → parseFieldDescriptor (TX3 k).2.2.1 = some (tyX3 k) := by decide +kernel
abbrev cX3_init : ByteArray := prog_5_method_1_code
def yX3_init : MethodName := ⟨RX3, "<init>", "()V"⟩
abbrev cX3_read : ByteArray := prog_5_method_2_code
def yX3_read : MethodName := ⟨RX3, "read", "(LPromisedSnow$Script;)V"⟩
abbrev cX3_addWind : ByteArray := prog_5_method_3_code
def yX3_addWind : MethodName := ⟨RX3, "addWind", "(LPromisedSnow$Script;I)V"⟩
abbrev cX3_addCloud : ByteArray := prog_5_method_4_code
def yX3_addCloud : MethodName := ⟨RX3, "addCloud", "(LPromisedSnow$Script;I)V"⟩
abbrev cX3_addPaper : ByteArray := prog_5_method_5_code
def yX3_addPaper : MethodName := ⟨RX3, "addPaper", "(LPromisedSnow$Script;I)V"⟩
abbrev cX3_hasCloud : ByteArray := prog_5_method_6_code
def yX3_hasCloud : MethodName := ⟨RX3, "hasCloud", "(I)Z"⟩
abbrev cX3_hasPaper : ByteArray := prog_5_method_7_code
def yX3_hasPaper : MethodName := ⟨RX3, "hasPaper", "(I)Z"⟩
abbrev cX3_windOn : ByteArray := prog_5_method_8_code
def yX3_windOn : MethodName := ⟨RX3, "windOn", "(I)I"⟩
abbrev cX3_drift : ByteArray := prog_5_method_9_code
def yX3_drift : MethodName := ⟨RX3, "drift", "(II)I"⟩
abbrev cX3_carried : ByteArray := prog_5_method_10_code
def yX3_carried : MethodName := ⟨RX3, "carried", "(IIII)I"⟩
def RX4 : String := "PromisedSnow$Rivals"
def TX4 : u_T := fun k => match k with
  | 0 => ("PromisedSnow$Rivals", "oneAt", "[I", true)
  | 1 => ("PromisedSnow$Rivals", "otherAt", "[I", true)
  | 2 => ("PromisedSnow$Rivals", "oneAlone", "[I", true)
  | _ => ("PromisedSnow$Rivals", "otherAlone", "[I", true)
def tyX4 : Nat → FieldType := fun k => match k with
  | 0 => .array .int
  | 1 => .array .int
  | 2 => .array .int
  | _ => .array .int
abbrev wsX40 : List Cond := u_ws RX4 TX4 4
theorem nmX4 : ∀ a, a < 4 → ∀ b, b < 4 → a ≠ b → (TX4 a).2.1 ≠ (TX4 b).2.1 := by decide +kernel
theorem tyX4_ok : ∀ k, k < 4 → parseFieldDescriptor (TX4 k).2.2.1 = some (tyX4 k) := by decide +kernel
abbrev cX4_init : ByteArray := prog_6_method_1_code
def yX4_init : MethodName := ⟨RX4, "<init>", "()V"⟩
abbrev cX4_weigh : ByteArray := prog_6_method_2_code
def yX4_weigh : MethodName := ⟨RX4, "weigh", "(LPromisedSnow$Sky;I[I[I)V"⟩
abbrev cX4_apart : ByteArray := prog_6_method_3_code
def yX4_apart : MethodName := ⟨RX4, "apart", "(II)I"⟩
abbrev cX4_rest : ByteArray := prog_6_method_4_code
def yX4_rest : MethodName := ⟨RX4, "rest", "(II)Z"⟩
abbrev cX4_restingPairs : ByteArray := prog_6_method_5_code
def yX4_restingPairs : MethodName := ⟨RX4, "restingPairs", "()I"⟩
abbrev cX4_firstResting : ByteArray := prog_6_method_6_code
def yX4_firstResting : MethodName := ⟨RX4, "firstResting", "()I"⟩
def RX5 : String := "PromisedSnow$Script"
def TX5 : u_T := fun k => match k with
  | 0 => ("PromisedSnow$Script", "letters", "[I", true)
  | _ => ("PromisedSnow$Script", "length", "I", false)
def tyX5 : Nat → FieldType := fun k => match k with
  | 0 => .array .int
  | _ => .int
abbrev wsX50 : List Cond := u_ws RX5 TX5 2
theorem nmX5 : ∀ a, a < 2 → ∀ b, b < 2 → a ≠ b → (TX5 a).2.1 ≠ (TX5 b).2.1 := by decide +kernel
theorem tyX5_ok : ∀ k, k < 2 → parseFieldDescriptor (TX5 k).2.2.1 = some (tyX5 k) := by decide +kernel
abbrev cX5_init : ByteArray := prog_7_method_1_code
def yX5_init : MethodName := ⟨RX5, "<init>", "()V"⟩
abbrev cX5_append : ByteArray := prog_7_method_2_code
def yX5_append : MethodName := ⟨RX5, "append", "(I)Z"⟩
abbrev cX5_letterAt : ByteArray := prog_7_method_3_code
def yX5_letterAt : MethodName := ⟨RX5, "letterAt", "(I)I"⟩
abbrev cX5_figureAt : ByteArray := prog_7_method_4_code
def yX5_figureAt : MethodName := ⟨RX5, "figureAt", "(I)I"⟩
abbrev cX5_firstFault : ByteArray := prog_7_method_5_code
def yX5_firstFault : MethodName := ⟨RX5, "firstFault", "()I"⟩
abbrev cX5_fits : ByteArray := prog_7_method_6_code
def yX5_fits : MethodName := ⟨RX5, "fits", "(III)Z"⟩
abbrev cX5_lowest : ByteArray := prog_7_method_7_code
def yX5_lowest : MethodName := ⟨RX5, "lowest", "(I)Ljava/lang/String;"⟩
abbrev cX5_highest : ByteArray := prog_7_method_8_code
def yX5_highest : MethodName := ⟨RX5, "highest", "(I)Ljava/lang/String;"⟩
def RX6 : String := "PromisedSnow$Service"
def TX6 : u_T := fun k => match k with
  | 0 => ("PromisedSnow$Service", "has", "[I", true)
  | 1 => ("PromisedSnow$Service", "can", "[I", true)
  | 2 => ("PromisedSnow$Service", "owed", "[I", true)
  | 3 => ("PromisedSnow$Service", "canFrom", "[[I", true)
  | 4 => ("PromisedSnow$Service", "clouds", "I", false)
  | _ => ("PromisedSnow$Service", "papers", "I", false)
def tyX6 : Nat → FieldType := fun k => match k with
  | 0 => .array .int
  | 1 => .array .int
  | 2 => .array .int
  | 3 => .array (.array .int)
  | 4 => .int
  | _ => .int
abbrev wsX60 : List Cond := u_ws RX6 TX6 6
theorem nmX6 : ∀ a, a < 6 → ∀ b, b < 6 → a ≠ b → (TX6 a).2.1 ≠ (TX6 b).2.1 := by decide +kernel
theorem tyX6_ok : ∀ k, k < 6 → parseFieldDescriptor (TX6 k).2.2.1 = some (tyX6 k) := by decide +kernel
abbrev cX6_init : ByteArray := prog_8_method_1_code
def yX6_init : MethodName := ⟨RX6, "<init>", "()V"⟩
abbrev cX6_look : ByteArray := prog_8_method_2_code
def yX6_look : MethodName := ⟨RX6, "look", "(LPromisedSnow$Sky;LPromisedSnow$Pass;)V"⟩
abbrev cX6_lookAround : ByteArray := prog_8_method_3_code
def yX6_lookAround : MethodName := ⟨RX6, "lookAround", "(LPromisedSnow$Sky;)V"⟩
abbrev cX6_everyone : ByteArray := prog_8_method_4_code
def yX6_everyone : MethodName := ⟨RX6, "everyone", "()I"⟩
abbrev cX6_owedBy : ByteArray := prog_8_method_5_code
def yX6_owedBy : MethodName := ⟨RX6, "owedBy", "(I)I"⟩
abbrev cX6_fillable : ByteArray := prog_8_method_6_code
def yX6_fillable : MethodName := ⟨RX6, "fillable", "(I)I"⟩
abbrev cX6_cut : ByteArray := prog_8_method_7_code
def yX6_cut : MethodName := ⟨RX6, "cut", "(II)I"⟩
abbrev cX6_shortOf : ByteArray := prog_8_method_8_code
def yX6_shortOf : MethodName := ⟨RX6, "shortOf", "(I)I"⟩
abbrev cX6_fewestPuffs : ByteArray := prog_8_method_9_code
def yX6_fewestPuffs : MethodName := ⟨RX6, "fewestPuffs", "(LPromisedSnow$Sky;)I"⟩
abbrev cX6_place : ByteArray := prog_8_method_10_code
def yX6_place : MethodName := ⟨RX6, "place", "(LPromisedSnow$Sky;I)I"⟩
abbrev cX6_gainInOrders : ByteArray := prog_8_method_11_code
def yX6_gainInOrders : MethodName := ⟨RX6, "gainInOrders", "(I)I"⟩
def RX7 : String := "PromisedSnow$Sightings"
def TX7 : u_T := fun k => match k with
  | 0 => ("PromisedSnow$Sightings", "yard", "[I", true)
  | 1 => ("PromisedSnow$Sightings", "behind", "[I", true)
  | _ => ("PromisedSnow$Sightings", "size", "I", false)
def tyX7 : Nat → FieldType := fun k => match k with
  | 0 => .array .int
  | 1 => .array .int
  | _ => .int
abbrev wsX70 : List Cond := u_ws RX7 TX7 3
theorem nmX7 : ∀ a, a < 3 → ∀ b, b < 3 → a ≠ b → (TX7 a).2.1 ≠ (TX7 b).2.1 := by decide +kernel
theorem tyX7_ok : ∀ k, k < 3 → parseFieldDescriptor (TX7 k).2.2.1 = some (tyX7 k) := by decide +kernel
abbrev cX7_init : ByteArray := prog_9_method_1_code
def yX7_init : MethodName := ⟨RX7, "<init>", "()V"⟩
abbrev cX7_add : ByteArray := prog_9_method_2_code
def yX7_add : MethodName := ⟨RX7, "add", "(II)Z"⟩
abbrev cX7_beginnings : ByteArray := prog_9_method_3_code
def yX7_beginnings : MethodName := ⟨RX7, "beginnings", "(ILPromisedSnow$Pass;)I"⟩
abbrev cX7_agrees : ByteArray := prog_9_method_4_code
def yX7_agrees : MethodName := ⟨RX7, "agrees", "(IILPromisedSnow$Pass;)Z"⟩
def RX8 : String := "PromisedSnow$Sky"
def TX8 : u_T := fun k => match k with
  | 0 => ("PromisedSnow$Sky", "told", "LPromisedSnow$Pass;", true)
  | 1 => ("PromisedSnow$Sky", "yard", "[I", true)
  | 2 => ("PromisedSnow$Sky", "flakes", "[I", true)
  | 3 => ("PromisedSnow$Sky", "filled", "[I", true)
  | 4 => ("PromisedSnow$Sky", "torn", "I", false)
  | 5 => ("PromisedSnow$Sky", "umbrellas", "I", false)
  | _ => ("PromisedSnow$Sky", "today", "I", false)
def tyX8 : Nat → FieldType := fun k => match k with
  | 0 => .object "PromisedSnow$Pass"
  | 1 => .array .int
  | 2 => .array .int
  | 3 => .array .int
  | 4 => .int
  | 5 => .int
  | _ => .int
abbrev wsX80 : List Cond := u_ws RX8 TX8 7
theorem nmX8 : ∀ a, a < 7 → ∀ b, b < 7 → a ≠ b → (TX8 a).2.1 ≠ (TX8 b).2.1 := by decide +kernel
theorem tyX8_ok : ∀ k, k < 7 → parseFieldDescriptor (TX8 k).2.2.1 = some (tyX8 k) := by decide +kernel
abbrev cX8_init : ByteArray := prog_10_method_1_code
def yX8_init : MethodName := ⟨RX8, "<init>", "(LPromisedSnow$Pass;)V"⟩
abbrev cX8_begin : ByteArray := prog_10_method_2_code
def yX8_begin : MethodName := ⟨RX8, "begin", "()V"⟩
abbrev cX8_store : ByteArray := prog_10_method_3_code
def yX8_store : MethodName := ⟨RX8, "store", "([I)V"⟩
abbrev cX8_load : ByteArray := prog_10_method_4_code
def yX8_load : MethodName := ⟨RX8, "load", "([I)V"⟩
abbrev cX8_isTorn : ByteArray := prog_10_method_5_code
def yX8_isTorn : MethodName := ⟨RX8, "isTorn", "(I)Z"⟩
abbrev cX8_owed : ByteArray := prog_10_method_6_code
def yX8_owed : MethodName := ⟨RX8, "owed", "(I)I"⟩
abbrev cX8_owedInAll : ByteArray := prog_10_method_7_code
def yX8_owedInAll : MethodName := ⟨RX8, "owedInAll", "()I"⟩
abbrev cX8_owedBy : ByteArray := prog_10_method_8_code
def yX8_owedBy : MethodName := ⟨RX8, "owedBy", "(I)I"⟩
abbrev cX8_filledInAll : ByteArray := prog_10_method_9_code
def yX8_filledInAll : MethodName := ⟨RX8, "filledInAll", "()I"⟩
abbrev cX8_has : ByteArray := prog_10_method_10_code
def yX8_has : MethodName := ⟨RX8, "has", "(I)I"⟩
abbrev cX8_takes : ByteArray := prog_10_method_11_code
def yX8_takes : MethodName := ⟨RX8, "takes", "(III)Z"⟩
abbrev cX8_canDrop : ByteArray := prog_10_method_12_code
def yX8_canDrop : MethodName := ⟨RX8, "canDrop", "(II)Z"⟩
abbrev cX8_droppable : ByteArray := prog_10_method_13_code
def yX8_droppable : MethodName := ⟨RX8, "droppable", "(I)I"⟩
abbrev cX8_servable : ByteArray := prog_10_method_14_code
def yX8_servable : MethodName := ⟨RX8, "servable", "(II)I"⟩
abbrev cX8_drop : ByteArray := prog_10_method_15_code
def yX8_drop : MethodName := ⟨RX8, "drop", "(II)V"⟩
abbrev cX8_tryDrop : ByteArray := prog_10_method_16_code
def yX8_tryDrop : MethodName := ⟨RX8, "tryDrop", "(II)Z"⟩
abbrev cX8_push : ByteArray := prog_10_method_17_code
def yX8_push : MethodName := ⟨RX8, "push", "(IZ)V"⟩
abbrev cX8_rip : ByteArray := prog_10_method_18_code
def yX8_rip : MethodName := ⟨RX8, "rip", "(I)V"⟩
abbrev cX8_goDay : ByteArray := prog_10_method_19_code
def yX8_goDay : MethodName := ⟨RX8, "goDay", "()I"⟩
abbrev cX8_umbrellasBy : ByteArray := prog_10_method_20_code
def yX8_umbrellasBy : MethodName := ⟨RX8, "umbrellasBy", "(I)I"⟩
abbrev cX8_does : ByteArray := prog_10_method_21_code
def yX8_does : MethodName := ⟨RX8, "does", "(I)Z"⟩
def RX9 : String := "PromisedSnow"
def TX9 : u_T := fun k => match k with
  | 0 => ("PromisedSnow", "script", "LPromisedSnow$Script;", true)
  | 1 => ("PromisedSnow", "told", "LPromisedSnow$Pass;", true)
  | 2 => ("PromisedSnow", "sky", "LPromisedSnow$Sky;", true)
  | 3 => ("PromisedSnow", "trial", "LPromisedSnow$Sky;", true)
  | 4 => ("PromisedSnow", "acts", "LPromisedSnow$Acts;", true)
  | 5 => ("PromisedSnow", "sightings", "LPromisedSnow$Sightings;", true)
  | 6 => ("PromisedSnow", "service", "LPromisedSnow$Service;", true)
  | 7 => ("PromisedSnow", "chances", "LPromisedSnow$Chances;", true)
  | 8 => ("PromisedSnow", "rivals", "LPromisedSnow$Rivals;", true)
  | 9 => ("PromisedSnow", "slots", "[[I", true)
  | 10 => ("PromisedSnow", "kept", "[Z", true)
  | 11 => ("PromisedSnow", "spare", "[I", true)
  | 12 => ("PromisedSnow", "doings", "[I", true)
  | _ => ("PromisedSnow", "lot", "J", false)
def tyX9 : Nat → FieldType := fun k => match k with
  | 0 => .object "PromisedSnow$Script"
  | 1 => .object "PromisedSnow$Pass"
  | 2 => .object "PromisedSnow$Sky"
  | 3 => .object "PromisedSnow$Sky"
  | 4 => .object "PromisedSnow$Acts"
  | 5 => .object "PromisedSnow$Sightings"
  | 6 => .object "PromisedSnow$Service"
  | 7 => .object "PromisedSnow$Chances"
  | 8 => .object "PromisedSnow$Rivals"
  | 9 => .array (.array .int)
  | 10 => .array .boolean
  | 11 => .array .int
  | 12 => .array .int
  | _ => .long
abbrev wsX90 : List Cond := u_ws RX9 TX9 14
theorem nmX9 : ∀ a, a < 14 → ∀ b, b < 14 → a ≠ b → (TX9 a).2.1 ≠ (TX9 b).2.1 := by decide +kernel
theorem tyX9_ok : ∀ k, k < 14 → parseFieldDescriptor (TX9 k).2.2.1 = some (tyX9 k) := by decide +kernel
abbrev cX9_init : ByteArray := prog_1_method_1_code
def yX9_init : MethodName := ⟨RX9, "<init>", "()V"⟩
abbrev cX9_write : ByteArray := prog_1_method_2_code
def yX9_write : MethodName := ⟨RX9, "write", "(I)I"⟩
abbrev cX9_wipe : ByteArray := prog_1_method_3_code
def yX9_wipe : MethodName := ⟨RX9, "wipe", "()I"⟩
abbrev cX9_fault : ByteArray := prog_1_method_4_code
def yX9_fault : MethodName := ⟨RX9, "fault", "()I"⟩
abbrev cX9_pass : ByteArray := prog_1_method_5_code
def yX9_pass : MethodName := ⟨RX9, "pass", "()I"⟩
abbrev cX9_cloud : ByteArray := prog_1_method_6_code
def yX9_cloud : MethodName := ⟨RX9, "cloud", "(II)I"⟩
abbrev cX9_paper : ByteArray := prog_1_method_7_code
def yX9_paper : MethodName := ⟨RX9, "paper", "(II)I"⟩
abbrev cX9_day : ByteArray := prog_1_method_8_code
def yX9_day : MethodName := ⟨RX9, "day", "()I"⟩
abbrev cX9_fall : ByteArray := prog_1_method_9_code
def yX9_fall : MethodName := ⟨RX9, "fall", "(II)I"⟩
abbrev cX9_puff : ByteArray := prog_1_method_10_code
def yX9_puff : MethodName := ⟨RX9, "puff", "(IZ)I"⟩
abbrev cX9_tear : ByteArray := prog_1_method_11_code
def yX9_tear : MethodName := ⟨RX9, "tear", "(I)I"⟩
abbrev cX9_undo : ByteArray := prog_1_method_12_code
def yX9_undo : MethodName := ⟨RX9, "undo", "()I"⟩
abbrev cX9_where : ByteArray := prog_1_method_13_code
def yX9_where : MethodName := ⟨RX9, "where", "(II)I"⟩
abbrev cX9_umbrellas : ByteArray := prog_1_method_14_code
def yX9_umbrellas : MethodName := ⟨RX9, "umbrellas", "(I)I"⟩
abbrev cX9_most : ByteArray := prog_1_method_15_code
def yX9_most : MethodName := ⟨RX9, "most", "()I"⟩
abbrev cX9_lacks : ByteArray := prog_1_method_16_code
def yX9_lacks : MethodName := ⟨RX9, "lacks", "(I)I"⟩
abbrev cX9_puffs : ByteArray := prog_1_method_17_code
def yX9_puffs : MethodName := ⟨RX9, "puffs", "()I"⟩
abbrev cX9_judge : ByteArray := prog_1_method_18_code
def yX9_judge : MethodName := ⟨RX9, "judge", "(IJ)I"⟩
abbrev cX9_see : ByteArray := prog_1_method_19_code
def yX9_see : MethodName := ⟨RX9, "see", "(II)I"⟩
abbrev cX9_unsee : ByteArray := prog_1_method_20_code
def yX9_unsee : MethodName := ⟨RX9, "unsee", "()I"⟩
abbrev cX9_began : ByteArray := prog_1_method_21_code
def yX9_began : MethodName := ⟨RX9, "began", "(I)I"⟩
abbrev cX9_share : ByteArray := prog_1_method_22_code
def yX9_share : MethodName := ⟨RX9, "share", "(IZ)I"⟩
abbrev cX9_rests : ByteArray := prog_1_method_23_code
def yX9_rests : MethodName := ⟨RX9, "rests", "(III)I"⟩
abbrev cX9_fails : ByteArray := prog_1_method_24_code
def yX9_fails : MethodName := ⟨RX9, "fails", "(IIIIZ)I"⟩
abbrev cX9_seed : ByteArray := prog_1_method_25_code
def yX9_seed : MethodName := ⟨RX9, "seed", "(J)J"⟩
abbrev cX9_seasons : ByteArray := prog_1_method_26_code
def yX9_seasons : MethodName := ⟨RX9, "seasons", "(I)I"⟩
abbrev cX9_keep : ByteArray := prog_1_method_27_code
def yX9_keep : MethodName := ⟨RX9, "keep", "(I)I"⟩
abbrev cX9_again : ByteArray := prog_1_method_28_code
def yX9_again : MethodName := ⟨RX9, "again", "(I)I"⟩
abbrev cX9_count : ByteArray := prog_1_method_29_code
def yX9_count : MethodName := ⟨RX9, "count", "(I)I"⟩
abbrev cX9_copyToTrial : ByteArray := prog_1_method_30_code
def yX9_copyToTrial : MethodName := ⟨RX9, "copyToTrial", "()V"⟩
abbrev cX9_playSeason : ByteArray := prog_1_method_31_code
def yX9_playSeason : MethodName := ⟨RX9, "playSeason", "(I)V"⟩
def RX10 : String := "PromisedSnowModel"
def TX10 : u_T := fun k => match k with
  | 0 => ("PromisedSnowModel", "winds", "I", false)
  | 1 => ("PromisedSnowModel", "clouds", "I", false)
  | 2 => ("PromisedSnowModel", "papers", "I", false)
  | 3 => ("PromisedSnowModel", "wind", "[I", true)
  | 4 => ("PromisedSnowModel", "cloudKind", "[I", true)
  | 5 => ("PromisedSnowModel", "paperYard", "[I", true)
  | 6 => ("PromisedSnowModel", "due", "[I", true)
  | 7 => ("PromisedSnowModel", "promised", "[I", true)
  | 8 => ("PromisedSnowModel", "paperKind", "[I", true)
  | 9 => ("PromisedSnowModel", "now", "[I", true)
  | 10 => ("PromisedSnowModel", "readWind", "[I", true)
  | 11 => ("PromisedSnowModel", "readCloud", "[I", true)
  | 12 => ("PromisedSnowModel", "readPaper", "[I", true)
  | 13 => ("PromisedSnowModel", "readWinds", "I", false)
  | 14 => ("PromisedSnowModel", "readClouds", "I", false)
  | 15 => ("PromisedSnowModel", "readPapers", "I", false)
  | 16 => ("PromisedSnowModel", "text", "[I", true)
  | 17 => ("PromisedSnowModel", "length", "I", false)
  | 18 => ("PromisedSnowModel", "at", "I", false)
  | 19 => ("PromisedSnowModel", "faultAt", "I", false)
  | 20 => ("PromisedSnowModel", "there", "I", false)
  | 21 => ("PromisedSnowModel", "served", "[I", true)
  | 22 => ("PromisedSnowModel", "acts", "I", false)
  | 23 => ("PromisedSnowModel", "next", "I", false)
  | 24 => ("PromisedSnowModel", "row", "[I", true)
  | 25 => ("PromisedSnowModel", "seen", "I", false)
  | 26 => ("PromisedSnowModel", "seenYard", "[I", true)
  | 27 => ("PromisedSnowModel", "seenDays", "[I", true)
  | 28 => ("PromisedSnowModel", "seed", "J", false)
  | 29 => ("PromisedSnowModel", "isKept", "[Z", true)
  | _ => ("PromisedSnowModel", "kept", "[I", true)
def tyX10 : Nat → FieldType := fun k => match k with
  | 0 => .int
  | 1 => .int
  | 2 => .int
  | 3 => .array .int
  | 4 => .array .int
  | 5 => .array .int
  | 6 => .array .int
  | 7 => .array .int
  | 8 => .array .int
  | 9 => .array .int
  | 10 => .array .int
  | 11 => .array .int
  | 12 => .array .int
  | 13 => .int
  | 14 => .int
  | 15 => .int
  | 16 => .array .int
  | 17 => .int
  | 18 => .int
  | 19 => .int
  | 20 => .int
  | 21 => .array .int
  | 22 => .int
  | 23 => .int
  | 24 => .array .int
  | 25 => .int
  | 26 => .array .int
  | 27 => .array .int
  | 28 => .long
  | 29 => .array .boolean
  | _ => .array .int
abbrev wsX100 : List Cond := u_ws RX10 TX10 31
theorem nmX10 : ∀ a, a < 31 → ∀ b, b < 31 → a ≠ b → (TX10 a).2.1 ≠ (TX10 b).2.1 := by decide +kernel
theorem tyX10_ok : ∀ k, k < 31 → parseFieldDescriptor (TX10 k).2.2.1 = some (tyX10 k) := by decide +kernel
abbrev cX10_init : ByteArray := prog_12_method_1_code
def yX10_init : MethodName := ⟨RX10, "<init>", "()V"⟩
abbrev cX10_in : ByteArray := prog_12_method_3_code
def yX10_in : MethodName := ⟨RX10, "in", "(JJJ)Z"⟩
abbrev cX10_has : ByteArray := prog_12_method_4_code
def yX10_has : MethodName := ⟨RX10, "has", "(II)Z"⟩
abbrev cX10_ones : ByteArray := prog_12_method_5_code
def yX10_ones : MethodName := ⟨RX10, "ones", "(I)I"⟩
abbrev cX10_lesser : ByteArray := prog_12_method_6_code
def yX10_lesser : MethodName := ⟨RX10, "lesser", "(II)I"⟩
abbrev cX10_write : ByteArray := prog_12_method_7_code
def yX10_write : MethodName := ⟨RX10, "write", "(I)I"⟩
abbrev cX10_wipe : ByteArray := prog_12_method_8_code
def yX10_wipe : MethodName := ⟨RX10, "wipe", "()I"⟩
abbrev cX10_figureOf : ByteArray := prog_12_method_9_code
def yX10_figureOf : MethodName := ⟨RX10, "figureOf", "(II)I"⟩
abbrev cX10_readText : ByteArray := prog_12_method_10_code
def yX10_readText : MethodName := ⟨RX10, "readText", "()I"⟩
abbrev cX10_readPart : ByteArray := prog_12_method_11_code
def yX10_readPart : MethodName := ⟨RX10, "readPart", "(I)V"⟩
abbrev cX10_fault : ByteArray := prog_12_method_12_code
def yX10_fault : MethodName := ⟨RX10, "fault", "()I"⟩
abbrev cX10_pass : ByteArray := prog_12_method_13_code
def yX10_pass : MethodName := ⟨RX10, "pass", "()I"⟩
abbrev cX10_isCloud : ByteArray := prog_12_method_14_code
def yX10_isCloud : MethodName := ⟨RX10, "isCloud", "(I)Z"⟩
abbrev cX10_isPaper : ByteArray := prog_12_method_15_code
def yX10_isPaper : MethodName := ⟨RX10, "isPaper", "(I)Z"⟩
abbrev cX10_windOf : ByteArray := prog_12_method_16_code
def yX10_windOf : MethodName := ⟨RX10, "windOf", "(I)I"⟩
abbrev cX10_blown : ByteArray := prog_12_method_17_code
def yX10_blown : MethodName := ⟨RX10, "blown", "(III)I"⟩
abbrev cX10_owed : ByteArray := prog_12_method_18_code
def yX10_owed : MethodName := ⟨RX10, "owed", "(II)I"⟩
abbrev cX10_holds : ByteArray := prog_12_method_19_code
def yX10_holds : MethodName := ⟨RX10, "holds", "(II)I"⟩
abbrev cX10_takes : ByteArray := prog_12_method_20_code
def yX10_takes : MethodName := ⟨RX10, "takes", "(II)Z"⟩
abbrev cX10_canFall : ByteArray := prog_12_method_21_code
def yX10_canFall : MethodName := ⟨RX10, "canFall", "(III)Z"⟩
abbrev cX10_fallOn : ByteArray := prog_12_method_22_code
def yX10_fallOn : MethodName := ⟨RX10, "fallOn", "(III)V"⟩
abbrev cX10_blow : ByteArray := prog_12_method_23_code
def yX10_blow : MethodName := ⟨RX10, "blow", "(I)V"⟩
abbrev cX10_passOn : ByteArray := prog_12_method_24_code
def yX10_passOn : MethodName := ⟨RX10, "passOn", "(IZ)I"⟩
abbrev cX10_owedInAll : ByteArray := prog_12_method_25_code
def yX10_owedInAll : MethodName := ⟨RX10, "owedInAll", "(I)I"⟩
abbrev cX10_filledInAll : ByteArray := prog_12_method_26_code
def yX10_filledInAll : MethodName := ⟨RX10, "filledInAll", "(I)I"⟩
abbrev cX10_canServe : ByteArray := prog_12_method_27_code
def yX10_canServe : MethodName := ⟨RX10, "canServe", "(III)Z"⟩
abbrev cX10_serves : ByteArray := prog_12_method_28_code
def yX10_serves : MethodName := ⟨RX10, "serves", "(II)I"⟩
abbrev cX10_fallsOn : ByteArray := prog_12_method_29_code
def yX10_fallsOn : MethodName := ⟨RX10, "fallsOn", "(I)I"⟩
abbrev cX10_owedBy : ByteArray := prog_12_method_30_code
def yX10_owedBy : MethodName := ⟨RX10, "owedBy", "(II)I"⟩
abbrev cX10_mostOn : ByteArray := prog_12_method_31_code
def yX10_mostOn : MethodName := ⟨RX10, "mostOn", "(I)I"⟩
abbrev cX10_cloud : ByteArray := prog_12_method_32_code
def yX10_cloud : MethodName := ⟨RX10, "cloud", "(II)I"⟩
abbrev cX10_paper : ByteArray := prog_12_method_33_code
def yX10_paper : MethodName := ⟨RX10, "paper", "(II)I"⟩
abbrev cX10_keepAct : ByteArray := prog_12_method_34_code
def yX10_keepAct : MethodName := ⟨RX10, "keepAct", "()V"⟩
abbrev cX10_day : ByteArray := prog_12_method_35_code
def yX10_day : MethodName := ⟨RX10, "day", "()I"⟩
abbrev cX10_fall : ByteArray := prog_12_method_36_code
def yX10_fall : MethodName := ⟨RX10, "fall", "(II)I"⟩
abbrev cX10_puffOn : ByteArray := prog_12_method_37_code
def yX10_puffOn : MethodName := ⟨RX10, "puffOn", "(IIZ)V"⟩
abbrev cX10_puff : ByteArray := prog_12_method_38_code
def yX10_puff : MethodName := ⟨RX10, "puff", "(IZ)I"⟩
abbrev cX10_tearOn : ByteArray := prog_12_method_39_code
def yX10_tearOn : MethodName := ⟨RX10, "tearOn", "(II)V"⟩
abbrev cX10_tear : ByteArray := prog_12_method_40_code
def yX10_tear : MethodName := ⟨RX10, "tear", "(I)I"⟩
abbrev cX10_undo : ByteArray := prog_12_method_41_code
def yX10_undo : MethodName := ⟨RX10, "undo", "()I"⟩
abbrev cX10_layTrial : ByteArray := prog_12_method_42_code
def yX10_layTrial : MethodName := ⟨RX10, "layTrial", "()V"⟩
abbrev cX10_goOn : ByteArray := prog_12_method_43_code
def yX10_goOn : MethodName := ⟨RX10, "goOn", "(I)V"⟩
abbrev cX10_where : ByteArray := prog_12_method_44_code
def yX10_where : MethodName := ⟨RX10, "where", "(II)I"⟩
abbrev cX10_umbrellas : ByteArray := prog_12_method_45_code
def yX10_umbrellas : MethodName := ⟨RX10, "umbrellas", "(I)I"⟩
abbrev cX10_most : ByteArray := prog_12_method_46_code
def yX10_most : MethodName := ⟨RX10, "most", "()I"⟩
abbrev cX10_lacks : ByteArray := prog_12_method_47_code
def yX10_lacks : MethodName := ⟨RX10, "lacks", "(I)I"⟩
abbrev cX10_power : ByteArray := prog_12_method_48_code
def yX10_power : MethodName := ⟨RX10, "power", "(II)I"⟩
abbrev cX10_puffs : ByteArray := prog_12_method_49_code
def yX10_puffs : MethodName := ⟨RX10, "puffs", "()I"⟩
abbrev cX10_tryThing : ByteArray := prog_12_method_50_code
def yX10_tryThing : MethodName := ⟨RX10, "tryThing", "(III)Z"⟩
abbrev cX10_thousandTo : ByteArray := prog_12_method_51_code
def yX10_thousandTo : MethodName := ⟨RX10, "thousandTo", "(I)J"⟩
abbrev cX10_judge : ByteArray := prog_12_method_52_code
def yX10_judge : MethodName := ⟨RX10, "judge", "(IJ)I"⟩
abbrev cX10_see : ByteArray := prog_12_method_53_code
def yX10_see : MethodName := ⟨RX10, "see", "(II)I"⟩
abbrev cX10_unsee : ByteArray := prog_12_method_54_code
def yX10_unsee : MethodName := ⟨RX10, "unsee", "()I"⟩
abbrev cX10_behind : ByteArray := prog_12_method_55_code
def yX10_behind : MethodName := ⟨RX10, "behind", "(III)I"⟩
abbrev cX10_began : ByteArray := prog_12_method_56_code
def yX10_began : MethodName := ⟨RX10, "began", "(I)I"⟩
abbrev cX10_factorial : ByteArray := prog_12_method_57_code
def yX10_factorial : MethodName := ⟨RX10, "factorial", "(I)I"⟩
abbrev cX10_common : ByteArray := prog_12_method_58_code
def yX10_common : MethodName := ⟨RX10, "common", "(II)I"⟩
abbrev cX10_mostBy : ByteArray := prog_12_method_59_code
def yX10_mostBy : MethodName := ⟨RX10, "mostBy", "(I)I"⟩
abbrev cX10_share : ByteArray := prog_12_method_60_code
def yX10_share : MethodName := ⟨RX10, "share", "(IZ)I"⟩
abbrev cX10_choose : ByteArray := prog_12_method_61_code
def yX10_choose : MethodName := ⟨RX10, "choose", "(II)V"⟩
abbrev cX10_gain : ByteArray := prog_12_method_62_code
def yX10_gain : MethodName := ⟨RX10, "gain", "(IIII)I"⟩
abbrev cX10_isRest : ByteArray := prog_12_method_63_code
def yX10_isRest : MethodName := ⟨RX10, "isRest", "(IIII)Z"⟩
abbrev cX10_rests : ByteArray := prog_12_method_64_code
def yX10_rests : MethodName := ⟨RX10, "rests", "(III)I"⟩
abbrev cX10_fails : ByteArray := prog_12_method_65_code
def yX10_fails : MethodName := ⟨RX10, "fails", "(IIIIZ)I"⟩
abbrev cX10_seed : ByteArray := prog_12_method_66_code
def yX10_seed : MethodName := ⟨RX10, "seed", "(J)J"⟩
abbrev cX10_seasons : ByteArray := prog_12_method_67_code
def yX10_seasons : MethodName := ⟨RX10, "seasons", "(I)I"⟩
abbrev cX10_keep : ByteArray := prog_12_method_68_code
def yX10_keep : MethodName := ⟨RX10, "keep", "(I)I"⟩
abbrev cX10_again : ByteArray := prog_12_method_69_code
def yX10_again : MethodName := ⟨RX10, "again", "(I)I"⟩
abbrev cX10_count : ByteArray := prog_12_method_70_code
def yX10_count : MethodName := ⟨RX10, "count", "(I)I"⟩
def RJ6 : String := "java/lang/Integer"
abbrev cJ6_bitCount_0f7a4 : ByteArray := prog_13_method_49_code
def yJ6_bitCount_0f7a4 : MethodName := ⟨RJ6, "bitCount", "(I)I"⟩
def RJ9 : String := "java/lang/Math"
abbrev cJ9_floorMod_7cf53 : ByteArray := prog_14_method_50_code
def yJ9_floorMod_7cf53 : MethodName := ⟨RJ9, "floorMod", "(II)I"⟩
abbrev cJ9_max_7cf53 : ByteArray := prog_14_method_65_code
def yJ9_max_7cf53 : MethodName := ⟨RJ9, "max", "(II)I"⟩
abbrev cJ9_min_7cf53 : ByteArray := prog_14_method_69_code
def yJ9_min_7cf53 : MethodName := ⟨RJ9, "min", "(II)I"⟩
def RJ0 : String := "java/lang/String"
abbrev cJ0_length_8abf5 : ByteArray := prog_15_method_54_code
def yJ0_length_8abf5 : MethodName := ⟨RJ0, "length", "()I"⟩
abbrev cJ0_isEmpty_aae02 : ByteArray := prog_15_method_55_code
def yJ0_isEmpty_aae02 : MethodName := ⟨RJ0, "isEmpty", "()Z"⟩
abbrev cJ0_charAt_5068e : ByteArray := prog_15_method_56_code
def yJ0_charAt_5068e : MethodName := ⟨RJ0, "charAt", "(I)C"⟩
abbrev cJ0_coder_7d493 : ByteArray := prog_15_method_152_code
def yJ0_coder_7d493 : MethodName := ⟨RJ0, "coder", "()B"⟩
abbrev cJ0_isLatin1_aae02 : ByteArray := prog_15_method_154_code
def yJ0_isLatin1_aae02 : MethodName := ⟨RJ0, "isLatin1", "()Z"⟩
abbrev cJ0_checkIndex_df160 : ByteArray := prog_15_method_155_code
def yJ0_checkIndex_df160 : MethodName := ⟨RJ0, "checkIndex", "(II)V"⟩
def RJ1 : String := "java/lang/StringLatin1"
abbrev cJ1_charAt_3b067 : ByteArray := prog_16_method_2_code
def yJ1_charAt_3b067 : MethodName := ⟨RJ1, "charAt", "([BI)C"⟩
def RJ2 : String := "java/lang/StringUTF16"
abbrev cJ2_getChar_3b067 : ByteArray := prog_17_method_5_code
def yJ2_getChar_3b067 : MethodName := ⟨RJ2, "getChar", "([BI)C"⟩
abbrev cJ2_length_9d52b : ByteArray := prog_17_method_6_code
def yJ2_length_9d52b : MethodName := ⟨RJ2, "length", "([B)I"⟩
abbrev cJ2_charAt_3b067 : ByteArray := prog_17_method_83_code
def yJ2_charAt_3b067 : MethodName := ⟨RJ2, "charAt", "([BI)C"⟩
abbrev cJ2_checkIndex_2214a : ByteArray := prog_17_method_91_code
def yJ2_checkIndex_2214a : MethodName := ⟨RJ2, "checkIndex", "(I[B)V"⟩
def RJ10 : String := "java/lang/System"
def RJ3 : String := "jdk/internal/util/Preconditions"
abbrev cJ3_checkIndex_8e157 : ByteArray := prog_19_method_11_code
def yJ3_checkIndex_8e157 : MethodName := ⟨RJ3, "checkIndex", "(IILjava/util/function/BiFunction;)I"⟩
def RL : String := "PromisedSnowLaw"
abbrev cL_law : ByteArray := code
def yL_law : MethodName := ⟨RL, "law", "([I)Z"⟩
abbrev vwCl : List vw_C := [(RX0, TX0, 3), (RX1, TX1, 3), (RX3, TX3, 11), (RX4, TX4, 4), (RX5, TX5, 2), (RX6, TX6, 6), (RX7, TX7, 3), (RX8, TX8, 7), (RX9, TX9, 14), (RX10, TX10, 31)]
end
section
theorem dX0_init_0 : decode cX0_init 0 = .ok (.aload_n 0, 1) := by decide +kernel
theorem dX0_init_1 : decode cX0_init 1 = .ok (.invokespecial 3, 3) := by decide +kernel
theorem dX0_init_4 : decode cX0_init 4 = .ok (.aload_n 0, 1) := by decide +kernel
theorem dX0_init_5 : decode cX0_init 5 = .ok (.bipush 14, 2) := by decide +kernel
theorem dX0_init_7 : decode cX0_init 7 = .ok (.bipush 16, 2) := by decide +kernel
theorem dX0_init_9 : decode cX0_init 9 = .ok (.multianewarray 11 2, 4) := by decide +kernel
theorem dX0_init_13 : decode cX0_init 13 = .ok (.putfield 13, 3) := by decide +kernel
theorem dX0_init_16 : decode cX0_init 16 = .ok (.aload_n 0, 1) := by decide +kernel
theorem dX0_init_17 : decode cX0_init 17 = .ok (.iconst 0, 1) := by decide +kernel
theorem dX0_init_18 : decode cX0_init 18 = .ok (.putfield 18, 3) := by decide +kernel
theorem dX0_init_21 : decode cX0_init 21 = .ok (.aload_n 0, 1) := by decide +kernel
theorem dX0_init_22 : decode cX0_init 22 = .ok (.iconst 0, 1) := by decide +kernel
theorem dX0_init_23 : decode cX0_init 23 = .ok (.putfield 22, 3) := by decide +kernel
theorem dX0_init_26 : decode cX0_init 26 = .ok (.return_, 1) := by decide +kernel
theorem dX0_remember_0 : decode cX0_remember 0 = .ok (.aload_n 0, 1) := by decide +kernel
theorem dX0_remember_1 : decode cX0_remember 1 = .ok (.getfield 22, 3) := by decide +kernel
theorem dX0_remember_4 : decode cX0_remember 4 = .ok (.bipush 14, 2) := by decide +kernel
theorem dX0_remember_6 : decode cX0_remember 6 = .ok (.if_icmp .lt 22, 3) := by decide +kernel
theorem dX0_remember_9 : decode cX0_remember 9 = .ok (.aload_n 0, 1) := by decide +kernel
theorem dX0_remember_10 : decode cX0_remember 10 = .ok (.aload_n 0, 1) := by decide +kernel
theorem dX0_remember_11 : decode cX0_remember 11 = .ok (.getfield 18, 3) := by decide +kernel
theorem dX0_remember_14 : decode cX0_remember 14 = .ok (.iconst 1, 1) := by decide +kernel
theorem dX0_remember_15 : decode cX0_remember 15 = .ok (.iadd, 1) := by decide +kernel
theorem dX0_remember_16 : decode cX0_remember 16 = .ok (.bipush 14, 2) := by decide +kernel
theorem dX0_remember_18 : decode cX0_remember 18 = .ok (.irem, 1) := by decide +kernel
theorem dX0_remember_19 : decode cX0_remember 19 = .ok (.putfield 18, 3) := by decide +kernel
theorem dX0_remember_22 : decode cX0_remember 22 = .ok (.aload_n 0, 1) := by decide +kernel
theorem dX0_remember_23 : decode cX0_remember 23 = .ok (.bipush 13, 2) := by decide +kernel
theorem dX0_remember_25 : decode cX0_remember 25 = .ok (.putfield 22, 3) := by decide +kernel
theorem dX0_remember_28 : decode cX0_remember 28 = .ok (.aload_n 1, 1) := by decide +kernel
theorem dX0_remember_29 : decode cX0_remember 29 = .ok (.aload_n 0, 1) := by decide +kernel
theorem dX0_remember_30 : decode cX0_remember 30 = .ok (.getfield 13, 3) := by decide +kernel
theorem dX0_remember_33 : decode cX0_remember 33 = .ok (.aload_n 0, 1) := by decide +kernel
theorem dX0_remember_34 : decode cX0_remember 34 = .ok (.getfield 18, 3) := by decide +kernel
theorem dX0_remember_37 : decode cX0_remember 37 = .ok (.aload_n 0, 1) := by decide +kernel
theorem dX0_remember_38 : decode cX0_remember 38 = .ok (.getfield 22, 3) := by decide +kernel
theorem dX0_remember_41 : decode cX0_remember 41 = .ok (.iadd, 1) := by decide +kernel
theorem dX0_remember_42 : decode cX0_remember 42 = .ok (.bipush 14, 2) := by decide +kernel
theorem dX0_remember_44 : decode cX0_remember 44 = .ok (.irem, 1) := by decide +kernel
theorem dX0_remember_45 : decode cX0_remember 45 = .ok (.aaload, 1) := by decide +kernel
theorem dX0_remember_46 : decode cX0_remember 46 = .ok (.invokevirtual 25, 3) := by decide +kernel
theorem dX0_remember_49 : decode cX0_remember 49 = .ok (.aload_n 0, 1) := by decide +kernel
theorem dX0_remember_50 : decode cX0_remember 50 = .ok (.dup, 1) := by decide +kernel
theorem dX0_remember_51 : decode cX0_remember 51 = .ok (.getfield 22, 3) := by decide +kernel
theorem dX0_remember_54 : decode cX0_remember 54 = .ok (.iconst 1, 1) := by decide +kernel
theorem dX0_remember_55 : decode cX0_remember 55 = .ok (.iadd, 1) := by decide +kernel
theorem dX0_remember_56 : decode cX0_remember 56 = .ok (.putfield 22, 3) := by decide +kernel
theorem dX0_remember_59 : decode cX0_remember 59 = .ok (.return_, 1) := by decide +kernel
theorem dX0_takeBack_0 : decode cX0_takeBack 0 = .ok (.aload_n 0, 1) := by decide +kernel
theorem dX0_takeBack_1 : decode cX0_takeBack 1 = .ok (.getfield 22, 3) := by decide +kernel
theorem dX0_takeBack_4 : decode cX0_takeBack 4 = .ok (.ifCond .gt 5, 3) := by decide +kernel
theorem dX0_takeBack_7 : decode cX0_takeBack 7 = .ok (.iconst 0, 1) := by decide +kernel
theorem dX0_takeBack_8 : decode cX0_takeBack 8 = .ok (.ireturn, 1) := by decide +kernel
theorem dX0_takeBack_9 : decode cX0_takeBack 9 = .ok (.aload_n 0, 1) := by decide +kernel
theorem dX0_takeBack_10 : decode cX0_takeBack 10 = .ok (.dup, 1) := by decide +kernel
theorem dX0_takeBack_11 : decode cX0_takeBack 11 = .ok (.getfield 22, 3) := by decide +kernel
theorem dX0_takeBack_14 : decode cX0_takeBack 14 = .ok (.iconst 1, 1) := by decide +kernel
theorem dX0_takeBack_15 : decode cX0_takeBack 15 = .ok (.isub, 1) := by decide +kernel
theorem dX0_takeBack_16 : decode cX0_takeBack 16 = .ok (.putfield 22, 3) := by decide +kernel
theorem dX0_takeBack_19 : decode cX0_takeBack 19 = .ok (.aload_n 1, 1) := by decide +kernel
theorem dX0_takeBack_20 : decode cX0_takeBack 20 = .ok (.aload_n 0, 1) := by decide +kernel
theorem dX0_takeBack_21 : decode cX0_takeBack 21 = .ok (.getfield 13, 3) := by decide +kernel
theorem dX0_takeBack_24 : decode cX0_takeBack 24 = .ok (.aload_n 0, 1) := by decide +kernel
theorem dX0_takeBack_25 : decode cX0_takeBack 25 = .ok (.getfield 18, 3) := by decide +kernel
theorem dX0_takeBack_28 : decode cX0_takeBack 28 = .ok (.aload_n 0, 1) := by decide +kernel
theorem dX0_takeBack_29 : decode cX0_takeBack 29 = .ok (.getfield 22, 3) := by decide +kernel
theorem dX0_takeBack_32 : decode cX0_takeBack 32 = .ok (.iadd, 1) := by decide +kernel
theorem dX0_takeBack_33 : decode cX0_takeBack 33 = .ok (.bipush 14, 2) := by decide +kernel
theorem dX0_takeBack_35 : decode cX0_takeBack 35 = .ok (.irem, 1) := by decide +kernel
theorem dX0_takeBack_36 : decode cX0_takeBack 36 = .ok (.aaload, 1) := by decide +kernel
theorem dX0_takeBack_37 : decode cX0_takeBack 37 = .ok (.invokevirtual 29, 3) := by decide +kernel
theorem dX0_takeBack_40 : decode cX0_takeBack 40 = .ok (.iconst 1, 1) := by decide +kernel
theorem dX0_takeBack_41 : decode cX0_takeBack 41 = .ok (.ireturn, 1) := by decide +kernel
theorem dX0_forget_0 : decode cX0_forget 0 = .ok (.aload_n 0, 1) := by decide +kernel
theorem dX0_forget_1 : decode cX0_forget 1 = .ok (.iconst 0, 1) := by decide +kernel
theorem dX0_forget_2 : decode cX0_forget 2 = .ok (.putfield 18, 3) := by decide +kernel
theorem dX0_forget_5 : decode cX0_forget 5 = .ok (.aload_n 0, 1) := by decide +kernel
theorem dX0_forget_6 : decode cX0_forget 6 = .ok (.iconst 0, 1) := by decide +kernel
theorem dX0_forget_7 : decode cX0_forget 7 = .ok (.putfield 22, 3) := by decide +kernel
theorem dX0_forget_10 : decode cX0_forget 10 = .ok (.return_, 1) := by decide +kernel
theorem dX1_init_0 : decode cX1_init 0 = .ok (.aload_n 0, 1) := by decide +kernel
theorem dX1_init_1 : decode cX1_init 1 = .ok (.invokespecial 3, 3) := by decide +kernel
theorem dX1_init_4 : decode cX1_init 4 = .ok (.aload_n 0, 1) := by decide +kernel
theorem dX1_init_5 : decode cX1_init 5 = .ok (.bipush 6, 2) := by decide +kernel
theorem dX1_init_7 : decode cX1_init 7 = .ok (.newarray .int, 2) := by decide +kernel
theorem dX1_init_9 : decode cX1_init 9 = .ok (.putfield 9, 3) := by decide +kernel
theorem dX1_init_12 : decode cX1_init 12 = .ok (.aload_n 0, 1) := by decide +kernel
theorem dX1_init_13 : decode cX1_init 13 = .ok (.bipush 6, 2) := by decide +kernel
theorem dX1_init_15 : decode cX1_init 15 = .ok (.newarray .int, 2) := by decide +kernel
theorem dX1_init_17 : decode cX1_init 17 = .ok (.putfield 15, 3) := by decide +kernel
theorem dX1_init_20 : decode cX1_init 20 = .ok (.aload_n 0, 1) := by decide +kernel
theorem dX1_init_21 : decode cX1_init 21 = .ok (.iconst 1, 1) := by decide +kernel
theorem dX1_init_22 : decode cX1_init 22 = .ok (.putfield 18, 3) := by decide +kernel
theorem dX1_init_25 : decode cX1_init 25 = .ok (.return_, 1) := by decide +kernel
theorem dX1_startOver_0 : decode cX1_startOver 0 = .ok (.iconst 0, 1) := by decide +kernel
theorem dX1_startOver_1 : decode cX1_startOver 1 = .ok (.istore_n 2, 1) := by decide +kernel
theorem dX1_startOver_2 : decode cX1_startOver 2 = .ok (.iload_n 2, 1) := by decide +kernel
theorem dX1_startOver_3 : decode cX1_startOver 3 = .ok (.bipush 6, 2) := by decide +kernel
theorem dX1_startOver_5 : decode cX1_startOver 5 = .ok (.if_icmp .ge 25, 3) := by decide +kernel
theorem dX1_startOver_8 : decode cX1_startOver 8 = .ok (.aload_n 0, 1) := by decide +kernel
theorem dX1_startOver_9 : decode cX1_startOver 9 = .ok (.getfield 9, 3) := by decide +kernel
theorem dX1_startOver_12 : decode cX1_startOver 12 = .ok (.iload_n 2, 1) := by decide +kernel
theorem dX1_startOver_13 : decode cX1_startOver 13 = .ok (.iload_n 2, 1) := by decide +kernel
theorem dX1_startOver_14 : decode cX1_startOver 14 = .ok (.iload_n 1, 1) := by decide +kernel
theorem dX1_startOver_15 : decode cX1_startOver 15 = .ok (.if_icmp .ne 7, 3) := by decide +kernel
theorem dX1_startOver_18 : decode cX1_startOver 18 = .ok (.iconst 1, 1) := by decide +kernel
theorem dX1_startOver_19 : decode cX1_startOver 19 = .ok (.goto 4, 3) := by decide +kernel
theorem dX1_startOver_22 : decode cX1_startOver 22 = .ok (.iconst 0, 1) := by decide +kernel
theorem dX1_startOver_23 : decode cX1_startOver 23 = .ok (.iastore, 1) := by decide +kernel
theorem dX1_startOver_24 : decode cX1_startOver 24 = .ok (.iinc 2 1, 3) := by decide +kernel
theorem dX1_startOver_27 : decode cX1_startOver 27 = .ok (.goto (-25), 3) := by decide +kernel
theorem dX1_startOver_30 : decode cX1_startOver 30 = .ok (.aload_n 0, 1) := by decide +kernel
theorem dX1_startOver_31 : decode cX1_startOver 31 = .ok (.iconst 1, 1) := by decide +kernel
theorem dX1_startOver_32 : decode cX1_startOver 32 = .ok (.putfield 18, 3) := by decide +kernel
theorem dX1_startOver_35 : decode cX1_startOver 35 = .ok (.return_, 1) := by decide +kernel
theorem dX1_goDay_0 : decode cX1_goDay 0 = .ok (.iconst 0, 1) := by decide +kernel
theorem dX1_goDay_1 : decode cX1_goDay 1 = .ok (.istore_n 3, 1) := by decide +kernel
theorem dX1_goDay_2 : decode cX1_goDay 2 = .ok (.iload_n 3, 1) := by decide +kernel
theorem dX1_goDay_3 : decode cX1_goDay 3 = .ok (.bipush 6, 2) := by decide +kernel
theorem dX1_goDay_5 : decode cX1_goDay 5 = .ok (.if_icmp .ge 40, 3) := by decide +kernel
theorem dX1_goDay_8 : decode cX1_goDay 8 = .ok (.aload_n 0, 1) := by decide +kernel
theorem dX1_goDay_9 : decode cX1_goDay 9 = .ok (.getfield 15, 3) := by decide +kernel
theorem dX1_goDay_12 : decode cX1_goDay 12 = .ok (.iload_n 3, 1) := by decide +kernel
theorem dX1_goDay_13 : decode cX1_goDay 13 = .ok (.aload_n 0, 1) := by decide +kernel
theorem dX1_goDay_14 : decode cX1_goDay 14 = .ok (.getfield 9, 3) := by decide +kernel
theorem dX1_goDay_17 : decode cX1_goDay 17 = .ok (.iload_n 3, 1) := by decide +kernel
theorem dX1_goDay_18 : decode cX1_goDay 18 = .ok (.iaload, 1) := by decide +kernel
theorem dX1_goDay_19 : decode cX1_goDay 19 = .ok (.iload_n 2, 1) := by decide +kernel
theorem dX1_goDay_20 : decode cX1_goDay 20 = .ok (.imul, 1) := by decide +kernel
theorem dX1_goDay_21 : decode cX1_goDay 21 = .ok (.aload_n 0, 1) := by decide +kernel
theorem dX1_goDay_22 : decode cX1_goDay 22 = .ok (.getfield 9, 3) := by decide +kernel
theorem dX1_goDay_25 : decode cX1_goDay 25 = .ok (.iload_n 3, 1) := by decide +kernel
theorem dX1_goDay_26 : decode cX1_goDay 26 = .ok (.iload_n 1, 1) := by decide +kernel
theorem dX1_goDay_27 : decode cX1_goDay 27 = .ok (.isub, 1) := by decide +kernel
theorem dX1_goDay_28 : decode cX1_goDay 28 = .ok (.invokestatic 22, 3) := by decide +kernel
theorem dX1_goDay_31 : decode cX1_goDay 31 = .ok (.iaload, 1) := by decide +kernel
theorem dX1_goDay_32 : decode cX1_goDay 32 = .ok (.bipush 10, 2) := by decide +kernel
theorem dX1_goDay_34 : decode cX1_goDay 34 = .ok (.iload_n 2, 1) := by decide +kernel
theorem dX1_goDay_35 : decode cX1_goDay 35 = .ok (.isub, 1) := by decide +kernel
theorem dX1_goDay_36 : decode cX1_goDay 36 = .ok (.imul, 1) := by decide +kernel
theorem dX1_goDay_37 : decode cX1_goDay 37 = .ok (.iadd, 1) := by decide +kernel
theorem dX1_goDay_38 : decode cX1_goDay 38 = .ok (.iastore, 1) := by decide +kernel
theorem dX1_goDay_39 : decode cX1_goDay 39 = .ok (.iinc 3 1, 3) := by decide +kernel
theorem dX1_goDay_42 : decode cX1_goDay 42 = .ok (.goto (-40), 3) := by decide +kernel
theorem dX1_goDay_45 : decode cX1_goDay 45 = .ok (.aload_n 0, 1) := by decide +kernel
theorem dX1_goDay_46 : decode cX1_goDay 46 = .ok (.getfield 15, 3) := by decide +kernel
theorem dX1_goDay_49 : decode cX1_goDay 49 = .ok (.iconst 0, 1) := by decide +kernel
theorem dX1_goDay_50 : decode cX1_goDay 50 = .ok (.aload_n 0, 1) := by decide +kernel
theorem dX1_goDay_51 : decode cX1_goDay 51 = .ok (.getfield 9, 3) := by decide +kernel
theorem dX1_goDay_54 : decode cX1_goDay 54 = .ok (.iconst 0, 1) := by decide +kernel
theorem dX1_goDay_55 : decode cX1_goDay 55 = .ok (.bipush 6, 2) := by decide +kernel
theorem dX1_goDay_57 : decode cX1_goDay 57 = .ok (.invokestatic 28, 3) := by decide +kernel
theorem dX1_goDay_60 : decode cX1_goDay 60 = .ok (.aload_n 0, 1) := by decide +kernel
theorem dX1_goDay_61 : decode cX1_goDay 61 = .ok (.dup, 1) := by decide +kernel
theorem dX1_goDay_62 : decode cX1_goDay 62 = .ok (.getfield 18, 3) := by decide +kernel
theorem dX1_goDay_65 : decode cX1_goDay 65 = .ok (.bipush 10, 2) := by decide +kernel
theorem dX1_goDay_67 : decode cX1_goDay 67 = .ok (.imul, 1) := by decide +kernel
theorem dX1_goDay_68 : decode cX1_goDay 68 = .ok (.putfield 18, 3) := by decide +kernel
theorem dX1_goDay_71 : decode cX1_goDay 71 = .ok (.return_, 1) := by decide +kernel
theorem dX2_ring_0 : decode cX2_ring 0 = .ok (.iload_n 0, 1) := by decide +kernel
theorem dX2_ring_1 : decode cX2_ring 1 = .ok (.bipush 6, 2) := by decide +kernel
theorem dX2_ring_3 : decode cX2_ring 3 = .ok (.invokestatic 9, 3) := by decide +kernel
theorem dX2_ring_6 : decode cX2_ring 6 = .ok (.ireturn, 1) := by decide +kernel
theorem dX2_factorial_0 : decode cX2_factorial 0 = .ok (.iconst 1, 1) := by decide +kernel
theorem dX2_factorial_1 : decode cX2_factorial 1 = .ok (.istore_n 1, 1) := by decide +kernel
theorem dX2_factorial_2 : decode cX2_factorial 2 = .ok (.iconst 2, 1) := by decide +kernel
theorem dX2_factorial_3 : decode cX2_factorial 3 = .ok (.istore_n 2, 1) := by decide +kernel
theorem dX2_factorial_4 : decode cX2_factorial 4 = .ok (.iload_n 2, 1) := by decide +kernel
theorem dX2_factorial_5 : decode cX2_factorial 5 = .ok (.iload_n 0, 1) := by decide +kernel
theorem dX2_factorial_6 : decode cX2_factorial 6 = .ok (.if_icmp .gt 13, 3) := by decide +kernel
theorem dX2_factorial_9 : decode cX2_factorial 9 = .ok (.iload_n 1, 1) := by decide +kernel
theorem dX2_factorial_10 : decode cX2_factorial 10 = .ok (.iload_n 2, 1) := by decide +kernel
theorem dX2_factorial_11 : decode cX2_factorial 11 = .ok (.imul, 1) := by decide +kernel
theorem dX2_factorial_12 : decode cX2_factorial 12 = .ok (.istore_n 1, 1) := by decide +kernel
theorem dX2_factorial_13 : decode cX2_factorial 13 = .ok (.iinc 2 1, 3) := by decide +kernel
theorem dX2_factorial_16 : decode cX2_factorial 16 = .ok (.goto (-12), 3) := by decide +kernel
theorem dX2_factorial_19 : decode cX2_factorial 19 = .ok (.iload_n 1, 1) := by decide +kernel
theorem dX2_factorial_20 : decode cX2_factorial 20 = .ok (.ireturn, 1) := by decide +kernel
theorem dX2_fractionPart_0 : decode cX2_fractionPart 0 = .ok (.iload_n 0, 1) := by decide +kernel
theorem dX2_fractionPart_1 : decode cX2_fractionPart 1 = .ok (.iload_n 1, 1) := by decide +kernel
theorem dX2_fractionPart_2 : decode cX2_fractionPart 2 = .ok (.invokestatic 15, 3) := by decide +kernel
theorem dX2_fractionPart_5 : decode cX2_fractionPart 5 = .ok (.istore_n 3, 1) := by decide +kernel
theorem dX2_fractionPart_6 : decode cX2_fractionPart 6 = .ok (.iload_n 3, 1) := by decide +kernel
theorem dX2_fractionPart_7 : decode cX2_fractionPart 7 = .ok (.ifCond .ne 13, 3) := by decide +kernel
theorem dX2_fractionPart_10 : decode cX2_fractionPart 10 = .ok (.iload_n 2, 1) := by decide +kernel
theorem dX2_fractionPart_11 : decode cX2_fractionPart 11 = .ok (.ifCond .eq 7, 3) := by decide +kernel
theorem dX2_fractionPart_14 : decode cX2_fractionPart 14 = .ok (.iconst 0, 1) := by decide +kernel
theorem dX2_fractionPart_15 : decode cX2_fractionPart 15 = .ok (.goto 4, 3) := by decide +kernel
theorem dX2_fractionPart_18 : decode cX2_fractionPart 18 = .ok (.iconst 1, 1) := by decide +kernel
theorem dX2_fractionPart_19 : decode cX2_fractionPart 19 = .ok (.ireturn, 1) := by decide +kernel
theorem dX2_fractionPart_20 : decode cX2_fractionPart 20 = .ok (.iload_n 2, 1) := by decide +kernel
theorem dX2_fractionPart_21 : decode cX2_fractionPart 21 = .ok (.ifCond .eq 9, 3) := by decide +kernel
theorem dX2_fractionPart_24 : decode cX2_fractionPart 24 = .ok (.iload_n 0, 1) := by decide +kernel
theorem dX2_fractionPart_25 : decode cX2_fractionPart 25 = .ok (.iload_n 3, 1) := by decide +kernel
theorem dX2_fractionPart_26 : decode cX2_fractionPart 26 = .ok (.idiv, 1) := by decide +kernel
theorem dX2_fractionPart_27 : decode cX2_fractionPart 27 = .ok (.goto 6, 3) := by decide +kernel
theorem dX2_fractionPart_30 : decode cX2_fractionPart 30 = .ok (.iload_n 1, 1) := by decide +kernel
theorem dX2_fractionPart_31 : decode cX2_fractionPart 31 = .ok (.iload_n 3, 1) := by decide +kernel
theorem dX2_fractionPart_32 : decode cX2_fractionPart 32 = .ok (.idiv, 1) := by decide +kernel
theorem dX2_fractionPart_33 : decode cX2_fractionPart 33 = .ok (.ireturn, 1) := by decide +kernel
theorem dX2_commonDivisor_0 : decode cX2_commonDivisor 0 = .ok (.iload_n 0, 1) := by decide +kernel
theorem dX2_commonDivisor_1 : decode cX2_commonDivisor 1 = .ok (.istore_n 2, 1) := by decide +kernel
theorem dX2_commonDivisor_2 : decode cX2_commonDivisor 2 = .ok (.iload_n 1, 1) := by decide +kernel
theorem dX2_commonDivisor_3 : decode cX2_commonDivisor 3 = .ok (.istore_n 3, 1) := by decide +kernel
theorem dX2_commonDivisor_4 : decode cX2_commonDivisor 4 = .ok (.iconst 0, 1) := by decide +kernel
theorem dX2_commonDivisor_5 : decode cX2_commonDivisor 5 = .ok (.istore 4, 2) := by decide +kernel
theorem dX2_commonDivisor_7 : decode cX2_commonDivisor 7 = .ok (.iload 4, 2) := by decide +kernel
theorem dX2_commonDivisor_9 : decode cX2_commonDivisor 9 = .ok (.bipush 64, 2) := by decide +kernel
theorem dX2_commonDivisor_11 : decode cX2_commonDivisor 11 = .ok (.if_icmp .ge 23, 3) := by decide +kernel
theorem dX2_commonDivisor_14 : decode cX2_commonDivisor 14 = .ok (.iload_n 3, 1) := by decide +kernel
theorem dX2_commonDivisor_15 : decode cX2_commonDivisor 15 = .ok (.ifCond .eq 19, 3) := by decide +kernel
theorem dX2_commonDivisor_18 : decode cX2_commonDivisor 18 = .ok (.iload_n 2, 1) := by decide +kernel
theorem dX2_commonDivisor_19 : decode cX2_commonDivisor 19 = .ok (.iload_n 3, 1) := by decide +kernel
theorem dX2_commonDivisor_20 : decode cX2_commonDivisor 20 = .ok (.irem, 1) := by decide +kernel
theorem dX2_commonDivisor_21 : decode cX2_commonDivisor 21 = .ok (.istore 5, 2) := by decide +kernel
theorem dX2_commonDivisor_23 : decode cX2_commonDivisor 23 = .ok (.iload_n 3, 1) := by decide +kernel
theorem dX2_commonDivisor_24 : decode cX2_commonDivisor 24 = .ok (.istore_n 2, 1) := by decide +kernel
theorem dX2_commonDivisor_25 : decode cX2_commonDivisor 25 = .ok (.iload 5, 2) := by decide +kernel
theorem dX2_commonDivisor_27 : decode cX2_commonDivisor 27 = .ok (.istore_n 3, 1) := by decide +kernel
theorem dX2_commonDivisor_28 : decode cX2_commonDivisor 28 = .ok (.iinc 4 1, 3) := by decide +kernel
theorem dX2_commonDivisor_31 : decode cX2_commonDivisor 31 = .ok (.goto (-24), 3) := by decide +kernel
theorem dX2_commonDivisor_34 : decode cX2_commonDivisor 34 = .ok (.iload_n 2, 1) := by decide +kernel
theorem dX2_commonDivisor_35 : decode cX2_commonDivisor 35 = .ok (.ireturn, 1) := by decide +kernel
theorem dX3_init_0 : decode cX3_init 0 = .ok (.aload_n 0, 1) := by decide +kernel
theorem dX3_init_1 : decode cX3_init 1 = .ok (.invokespecial 3, 3) := by decide +kernel
theorem dX3_init_4 : decode cX3_init 4 = .ok (.aload_n 0, 1) := by decide +kernel
theorem dX3_init_5 : decode cX3_init 5 = .ok (.iconst 4, 1) := by decide +kernel
theorem dX3_init_6 : decode cX3_init 6 = .ok (.newarray .int, 2) := by decide +kernel
theorem dX3_init_8 : decode cX3_init 8 = .ok (.putfield 9, 3) := by decide +kernel
theorem dX3_init_11 : decode cX3_init 11 = .ok (.aload_n 0, 1) := by decide +kernel
theorem dX3_init_12 : decode cX3_init 12 = .ok (.iconst 4, 1) := by decide +kernel
theorem dX3_init_13 : decode cX3_init 13 = .ok (.newarray .int, 2) := by decide +kernel
theorem dX3_init_15 : decode cX3_init 15 = .ok (.putfield 15, 3) := by decide +kernel
theorem dX3_init_18 : decode cX3_init 18 = .ok (.aload_n 0, 1) := by decide +kernel
theorem dX3_init_19 : decode cX3_init 19 = .ok (.iconst 4, 1) := by decide +kernel
theorem dX3_init_20 : decode cX3_init 20 = .ok (.newarray .int, 2) := by decide +kernel
theorem dX3_init_22 : decode cX3_init 22 = .ok (.putfield 18, 3) := by decide +kernel
theorem dX3_init_25 : decode cX3_init 25 = .ok (.aload_n 0, 1) := by decide +kernel
theorem dX3_init_26 : decode cX3_init 26 = .ok (.iconst 4, 1) := by decide +kernel
theorem dX3_init_27 : decode cX3_init 27 = .ok (.newarray .int, 2) := by decide +kernel
theorem dX3_init_29 : decode cX3_init 29 = .ok (.putfield 21, 3) := by decide +kernel
theorem dX3_init_32 : decode cX3_init 32 = .ok (.aload_n 0, 1) := by decide +kernel
theorem dX3_init_33 : decode cX3_init 33 = .ok (.iconst 5, 1) := by decide +kernel
theorem dX3_init_34 : decode cX3_init 34 = .ok (.newarray .int, 2) := by decide +kernel
theorem dX3_init_36 : decode cX3_init 36 = .ok (.putfield 24, 3) := by decide +kernel
theorem dX3_init_39 : decode cX3_init 39 = .ok (.aload_n 0, 1) := by decide +kernel
theorem dX3_init_40 : decode cX3_init 40 = .ok (.iconst 5, 1) := by decide +kernel
theorem dX3_init_41 : decode cX3_init 41 = .ok (.newarray .int, 2) := by decide +kernel
theorem dX3_init_43 : decode cX3_init 43 = .ok (.putfield 27, 3) := by decide +kernel
theorem dX3_init_46 : decode cX3_init 46 = .ok (.aload_n 0, 1) := by decide +kernel
theorem dX3_init_47 : decode cX3_init 47 = .ok (.iconst 5, 1) := by decide +kernel
theorem dX3_init_48 : decode cX3_init 48 = .ok (.newarray .int, 2) := by decide +kernel
theorem dX3_init_50 : decode cX3_init 50 = .ok (.putfield 30, 3) := by decide +kernel
theorem dX3_init_53 : decode cX3_init 53 = .ok (.aload_n 0, 1) := by decide +kernel
theorem dX3_init_54 : decode cX3_init 54 = .ok (.iconst 5, 1) := by decide +kernel
theorem dX3_init_55 : decode cX3_init 55 = .ok (.newarray .int, 2) := by decide +kernel
theorem dX3_init_57 : decode cX3_init 57 = .ok (.putfield 33, 3) := by decide +kernel
theorem dX3_init_60 : decode cX3_init 60 = .ok (.aload_n 0, 1) := by decide +kernel
theorem dX3_init_61 : decode cX3_init 61 = .ok (.iconst 0, 1) := by decide +kernel
theorem dX3_init_62 : decode cX3_init 62 = .ok (.putfield 36, 3) := by decide +kernel
theorem dX3_init_65 : decode cX3_init 65 = .ok (.aload_n 0, 1) := by decide +kernel
theorem dX3_init_66 : decode cX3_init 66 = .ok (.iconst 0, 1) := by decide +kernel
theorem dX3_init_67 : decode cX3_init 67 = .ok (.putfield 40, 3) := by decide +kernel
theorem dX3_init_70 : decode cX3_init 70 = .ok (.aload_n 0, 1) := by decide +kernel
theorem dX3_init_71 : decode cX3_init 71 = .ok (.iconst 0, 1) := by decide +kernel
theorem dX3_init_72 : decode cX3_init 72 = .ok (.putfield 43, 3) := by decide +kernel
theorem dX3_init_75 : decode cX3_init 75 = .ok (.return_, 1) := by decide +kernel
theorem dX3_read_0 : decode cX3_read 0 = .ok (.aload_n 0, 1) := by decide +kernel
theorem dX3_read_1 : decode cX3_read 1 = .ok (.iconst 0, 1) := by decide +kernel
theorem dX3_read_2 : decode cX3_read 2 = .ok (.putfield 36, 3) := by decide +kernel
theorem dX3_read_5 : decode cX3_read 5 = .ok (.aload_n 0, 1) := by decide +kernel
theorem dX3_read_6 : decode cX3_read 6 = .ok (.iconst 0, 1) := by decide +kernel
theorem dX3_read_7 : decode cX3_read 7 = .ok (.putfield 40, 3) := by decide +kernel
theorem dX3_read_10 : decode cX3_read 10 = .ok (.aload_n 0, 1) := by decide +kernel
theorem dX3_read_11 : decode cX3_read 11 = .ok (.iconst 0, 1) := by decide +kernel
theorem dX3_read_12 : decode cX3_read 12 = .ok (.putfield 43, 3) := by decide +kernel
theorem dX3_read_15 : decode cX3_read 15 = .ok (.iconst 1, 1) := by decide +kernel
theorem dX3_read_16 : decode cX3_read 16 = .ok (.istore_n 2, 1) := by decide +kernel
theorem dX3_read_17 : decode cX3_read 17 = .ok (.iload_n 2, 1) := by decide +kernel
theorem dX3_read_18 : decode cX3_read 18 = .ok (.aload_n 1, 1) := by decide +kernel
theorem dX3_read_19 : decode cX3_read 19 = .ok (.getfield 46, 3) := by decide +kernel
theorem dX3_read_22 : decode cX3_read 22 = .ok (.if_icmp .ge 57, 3) := by decide +kernel
theorem dX3_read_25 : decode cX3_read 25 = .ok (.aload_n 1, 1) := by decide +kernel
theorem dX3_read_26 : decode cX3_read 26 = .ok (.iload_n 2, 1) := by decide +kernel
theorem dX3_read_27 : decode cX3_read 27 = .ok (.invokevirtual 51, 3) := by decide +kernel
theorem dX3_read_30 : decode cX3_read 30 = .ok (.istore_n 3, 1) := by decide +kernel
theorem dX3_read_31 : decode cX3_read 31 = .ok (.iload_n 3, 1) := by decide +kernel
theorem dX3_read_32 : decode cX3_read 32 = .ok (.bipush 87, 2) := by decide +kernel
theorem dX3_read_34 : decode cX3_read 34 = .ok (.if_icmp .ne 12, 3) := by decide +kernel
theorem dX3_read_37 : decode cX3_read 37 = .ok (.aload_n 0, 1) := by decide +kernel
theorem dX3_read_38 : decode cX3_read 38 = .ok (.aload_n 1, 1) := by decide +kernel
theorem dX3_read_39 : decode cX3_read 39 = .ok (.iload_n 2, 1) := by decide +kernel
theorem dX3_read_40 : decode cX3_read 40 = .ok (.invokevirtual 55, 3) := by decide +kernel
theorem dX3_read_43 : decode cX3_read 43 = .ok (.goto 30, 3) := by decide +kernel
theorem dX3_read_46 : decode cX3_read 46 = .ok (.iload_n 3, 1) := by decide +kernel
theorem dX3_read_47 : decode cX3_read 47 = .ok (.bipush 67, 2) := by decide +kernel
theorem dX3_read_49 : decode cX3_read 49 = .ok (.if_icmp .ne 12, 3) := by decide +kernel
theorem dX3_read_52 : decode cX3_read 52 = .ok (.aload_n 0, 1) := by decide +kernel
theorem dX3_read_53 : decode cX3_read 53 = .ok (.aload_n 1, 1) := by decide +kernel
theorem dX3_read_54 : decode cX3_read 54 = .ok (.iload_n 2, 1) := by decide +kernel
theorem dX3_read_55 : decode cX3_read 55 = .ok (.invokevirtual 59, 3) := by decide +kernel
theorem dX3_read_58 : decode cX3_read 58 = .ok (.goto 15, 3) := by decide +kernel
theorem dX3_read_61 : decode cX3_read 61 = .ok (.iload_n 3, 1) := by decide +kernel
theorem dX3_read_62 : decode cX3_read 62 = .ok (.bipush 83, 2) := by decide +kernel
theorem dX3_read_64 : decode cX3_read 64 = .ok (.if_icmp .ne 9, 3) := by decide +kernel
theorem dX3_read_67 : decode cX3_read 67 = .ok (.aload_n 0, 1) := by decide +kernel
theorem dX3_read_68 : decode cX3_read 68 = .ok (.aload_n 1, 1) := by decide +kernel
theorem dX3_read_69 : decode cX3_read 69 = .ok (.iload_n 2, 1) := by decide +kernel
theorem dX3_read_70 : decode cX3_read 70 = .ok (.invokevirtual 62, 3) := by decide +kernel
theorem dX3_read_73 : decode cX3_read 73 = .ok (.iinc 2 1, 3) := by decide +kernel
theorem dX3_read_76 : decode cX3_read 76 = .ok (.goto (-59), 3) := by decide +kernel
theorem dX3_read_79 : decode cX3_read 79 = .ok (.return_, 1) := by decide +kernel
theorem dX3_addWind_0 : decode cX3_addWind 0 = .ok (.aload_n 0, 1) := by decide +kernel
theorem dX3_addWind_1 : decode cX3_addWind 1 = .ok (.getfield 36, 3) := by decide +kernel
theorem dX3_addWind_4 : decode cX3_addWind 4 = .ok (.iconst 4, 1) := by decide +kernel
theorem dX3_addWind_5 : decode cX3_addWind 5 = .ok (.if_icmp .lt 4, 3) := by decide +kernel
theorem dX3_addWind_8 : decode cX3_addWind 8 = .ok (.return_, 1) := by decide +kernel
theorem dX3_addWind_9 : decode cX3_addWind 9 = .ok (.aload_n 0, 1) := by decide +kernel
theorem dX3_addWind_10 : decode cX3_addWind 10 = .ok (.getfield 9, 3) := by decide +kernel
theorem dX3_addWind_13 : decode cX3_addWind 13 = .ok (.aload_n 0, 1) := by decide +kernel
theorem dX3_addWind_14 : decode cX3_addWind 14 = .ok (.getfield 36, 3) := by decide +kernel
theorem dX3_addWind_17 : decode cX3_addWind 17 = .ok (.aload_n 1, 1) := by decide +kernel
theorem dX3_addWind_18 : decode cX3_addWind 18 = .ok (.iload_n 2, 1) := by decide +kernel
theorem dX3_addWind_19 : decode cX3_addWind 19 = .ok (.iconst 1, 1) := by decide +kernel
theorem dX3_addWind_20 : decode cX3_addWind 20 = .ok (.iadd, 1) := by decide +kernel
theorem dX3_addWind_21 : decode cX3_addWind 21 = .ok (.invokevirtual 65, 3) := by decide +kernel
theorem dX3_addWind_24 : decode cX3_addWind 24 = .ok (.iastore, 1) := by decide +kernel
theorem dX3_addWind_25 : decode cX3_addWind 25 = .ok (.aload_n 0, 1) := by decide +kernel
theorem dX3_addWind_26 : decode cX3_addWind 26 = .ok (.dup, 1) := by decide +kernel
theorem dX3_addWind_27 : decode cX3_addWind 27 = .ok (.getfield 36, 3) := by decide +kernel
theorem dX3_addWind_30 : decode cX3_addWind 30 = .ok (.iconst 1, 1) := by decide +kernel
theorem dX3_addWind_31 : decode cX3_addWind 31 = .ok (.iadd, 1) := by decide +kernel
theorem dX3_addWind_32 : decode cX3_addWind 32 = .ok (.putfield 36, 3) := by decide +kernel
theorem dX3_addWind_35 : decode cX3_addWind 35 = .ok (.return_, 1) := by decide +kernel
theorem dX3_addCloud_0 : decode cX3_addCloud 0 = .ok (.aload_n 0, 1) := by decide +kernel
theorem dX3_addCloud_1 : decode cX3_addCloud 1 = .ok (.getfield 40, 3) := by decide +kernel
theorem dX3_addCloud_4 : decode cX3_addCloud 4 = .ok (.iconst 4, 1) := by decide +kernel
theorem dX3_addCloud_5 : decode cX3_addCloud 5 = .ok (.if_icmp .lt 4, 3) := by decide +kernel
theorem dX3_addCloud_8 : decode cX3_addCloud 8 = .ok (.return_, 1) := by decide +kernel
theorem dX3_addCloud_9 : decode cX3_addCloud 9 = .ok (.aload_n 0, 1) := by decide +kernel
theorem dX3_addCloud_10 : decode cX3_addCloud 10 = .ok (.getfield 15, 3) := by decide +kernel
theorem dX3_addCloud_13 : decode cX3_addCloud 13 = .ok (.aload_n 0, 1) := by decide +kernel
theorem dX3_addCloud_14 : decode cX3_addCloud 14 = .ok (.getfield 40, 3) := by decide +kernel
theorem dX3_addCloud_17 : decode cX3_addCloud 17 = .ok (.aload_n 1, 1) := by decide +kernel
theorem dX3_addCloud_18 : decode cX3_addCloud 18 = .ok (.iload_n 2, 1) := by decide +kernel
theorem dX3_addCloud_19 : decode cX3_addCloud 19 = .ok (.iconst 1, 1) := by decide +kernel
theorem dX3_addCloud_20 : decode cX3_addCloud 20 = .ok (.iadd, 1) := by decide +kernel
theorem dX3_addCloud_21 : decode cX3_addCloud 21 = .ok (.invokevirtual 65, 3) := by decide +kernel
theorem dX3_addCloud_24 : decode cX3_addCloud 24 = .ok (.iastore, 1) := by decide +kernel
theorem dX3_addCloud_25 : decode cX3_addCloud 25 = .ok (.aload_n 0, 1) := by decide +kernel
theorem dX3_addCloud_26 : decode cX3_addCloud 26 = .ok (.getfield 18, 3) := by decide +kernel
theorem dX3_addCloud_29 : decode cX3_addCloud 29 = .ok (.aload_n 0, 1) := by decide +kernel
theorem dX3_addCloud_30 : decode cX3_addCloud 30 = .ok (.getfield 40, 3) := by decide +kernel
theorem dX3_addCloud_33 : decode cX3_addCloud 33 = .ok (.aload_n 1, 1) := by decide +kernel
theorem dX3_addCloud_34 : decode cX3_addCloud 34 = .ok (.iload_n 2, 1) := by decide +kernel
theorem dX3_addCloud_35 : decode cX3_addCloud 35 = .ok (.iconst 2, 1) := by decide +kernel
theorem dX3_addCloud_36 : decode cX3_addCloud 36 = .ok (.iadd, 1) := by decide +kernel
theorem dX3_addCloud_37 : decode cX3_addCloud 37 = .ok (.invokevirtual 65, 3) := by decide +kernel
theorem dX3_addCloud_40 : decode cX3_addCloud 40 = .ok (.iastore, 1) := by decide +kernel
theorem dX3_addCloud_41 : decode cX3_addCloud 41 = .ok (.aload_n 0, 1) := by decide +kernel
theorem dX3_addCloud_42 : decode cX3_addCloud 42 = .ok (.getfield 21, 3) := by decide +kernel
theorem dX3_addCloud_45 : decode cX3_addCloud 45 = .ok (.aload_n 0, 1) := by decide +kernel
theorem dX3_addCloud_46 : decode cX3_addCloud 46 = .ok (.getfield 40, 3) := by decide +kernel
theorem dX3_addCloud_49 : decode cX3_addCloud 49 = .ok (.aload_n 1, 1) := by decide +kernel
theorem dX3_addCloud_50 : decode cX3_addCloud 50 = .ok (.iload_n 2, 1) := by decide +kernel
theorem dX3_addCloud_51 : decode cX3_addCloud 51 = .ok (.iconst 3, 1) := by decide +kernel
theorem dX3_addCloud_52 : decode cX3_addCloud 52 = .ok (.iadd, 1) := by decide +kernel
theorem dX3_addCloud_53 : decode cX3_addCloud 53 = .ok (.invokevirtual 65, 3) := by decide +kernel
theorem dX3_addCloud_56 : decode cX3_addCloud 56 = .ok (.iastore, 1) := by decide +kernel
theorem dX3_addCloud_57 : decode cX3_addCloud 57 = .ok (.aload_n 0, 1) := by decide +kernel
theorem dX3_addCloud_58 : decode cX3_addCloud 58 = .ok (.dup, 1) := by decide +kernel
theorem dX3_addCloud_59 : decode cX3_addCloud 59 = .ok (.getfield 40, 3) := by decide +kernel
theorem dX3_addCloud_62 : decode cX3_addCloud 62 = .ok (.iconst 1, 1) := by decide +kernel
theorem dX3_addCloud_63 : decode cX3_addCloud 63 = .ok (.iadd, 1) := by decide +kernel
theorem dX3_addCloud_64 : decode cX3_addCloud 64 = .ok (.putfield 40, 3) := by decide +kernel
theorem dX3_addCloud_67 : decode cX3_addCloud 67 = .ok (.return_, 1) := by decide +kernel
theorem dX3_addPaper_0 : decode cX3_addPaper 0 = .ok (.aload_n 0, 1) := by decide +kernel
theorem dX3_addPaper_1 : decode cX3_addPaper 1 = .ok (.getfield 43, 3) := by decide +kernel
theorem dX3_addPaper_4 : decode cX3_addPaper 4 = .ok (.iconst 5, 1) := by decide +kernel
theorem dX3_addPaper_5 : decode cX3_addPaper 5 = .ok (.if_icmp .lt 4, 3) := by decide +kernel
theorem dX3_addPaper_8 : decode cX3_addPaper 8 = .ok (.return_, 1) := by decide +kernel
theorem dX3_addPaper_9 : decode cX3_addPaper 9 = .ok (.aload_n 0, 1) := by decide +kernel
theorem dX3_addPaper_10 : decode cX3_addPaper 10 = .ok (.getfield 24, 3) := by decide +kernel
theorem dX3_addPaper_13 : decode cX3_addPaper 13 = .ok (.aload_n 0, 1) := by decide +kernel
theorem dX3_addPaper_14 : decode cX3_addPaper 14 = .ok (.getfield 43, 3) := by decide +kernel
theorem dX3_addPaper_17 : decode cX3_addPaper 17 = .ok (.aload_n 1, 1) := by decide +kernel
theorem dX3_addPaper_18 : decode cX3_addPaper 18 = .ok (.iload_n 2, 1) := by decide +kernel
theorem dX3_addPaper_19 : decode cX3_addPaper 19 = .ok (.iconst 1, 1) := by decide +kernel
theorem dX3_addPaper_20 : decode cX3_addPaper 20 = .ok (.iadd, 1) := by decide +kernel
theorem dX3_addPaper_21 : decode cX3_addPaper 21 = .ok (.invokevirtual 65, 3) := by decide +kernel
theorem dX3_addPaper_24 : decode cX3_addPaper 24 = .ok (.iastore, 1) := by decide +kernel
theorem dX3_addPaper_25 : decode cX3_addPaper 25 = .ok (.aload_n 0, 1) := by decide +kernel
theorem dX3_addPaper_26 : decode cX3_addPaper 26 = .ok (.getfield 27, 3) := by decide +kernel
theorem dX3_addPaper_29 : decode cX3_addPaper 29 = .ok (.aload_n 0, 1) := by decide +kernel
theorem dX3_addPaper_30 : decode cX3_addPaper 30 = .ok (.getfield 43, 3) := by decide +kernel
theorem dX3_addPaper_33 : decode cX3_addPaper 33 = .ok (.aload_n 1, 1) := by decide +kernel
theorem dX3_addPaper_34 : decode cX3_addPaper 34 = .ok (.iload_n 2, 1) := by decide +kernel
theorem dX3_addPaper_35 : decode cX3_addPaper 35 = .ok (.iconst 2, 1) := by decide +kernel
theorem dX3_addPaper_36 : decode cX3_addPaper 36 = .ok (.iadd, 1) := by decide +kernel
theorem dX3_addPaper_37 : decode cX3_addPaper 37 = .ok (.invokevirtual 65, 3) := by decide +kernel
theorem dX3_addPaper_40 : decode cX3_addPaper 40 = .ok (.iastore, 1) := by decide +kernel
theorem dX3_addPaper_41 : decode cX3_addPaper 41 = .ok (.aload_n 1, 1) := by decide +kernel
theorem dX3_addPaper_42 : decode cX3_addPaper 42 = .ok (.iload_n 2, 1) := by decide +kernel
theorem dX3_addPaper_43 : decode cX3_addPaper 43 = .ok (.iconst 3, 1) := by decide +kernel
theorem dX3_addPaper_44 : decode cX3_addPaper 44 = .ok (.iadd, 1) := by decide +kernel
theorem dX3_addPaper_45 : decode cX3_addPaper 45 = .ok (.invokevirtual 65, 3) := by decide +kernel
theorem dX3_addPaper_48 : decode cX3_addPaper 48 = .ok (.istore_n 3, 1) := by decide +kernel
theorem dX3_addPaper_49 : decode cX3_addPaper 49 = .ok (.aload_n 1, 1) := by decide +kernel
theorem dX3_addPaper_50 : decode cX3_addPaper 50 = .ok (.iload_n 2, 1) := by decide +kernel
theorem dX3_addPaper_51 : decode cX3_addPaper 51 = .ok (.iconst 4, 1) := by decide +kernel
theorem dX3_addPaper_52 : decode cX3_addPaper 52 = .ok (.iadd, 1) := by decide +kernel
theorem dX3_addPaper_53 : decode cX3_addPaper 53 = .ok (.invokevirtual 65, 3) := by decide +kernel
theorem dX3_addPaper_56 : decode cX3_addPaper 56 = .ok (.istore 4, 2) := by decide +kernel
theorem dX3_addPaper_58 : decode cX3_addPaper 58 = .ok (.aload_n 0, 1) := by decide +kernel
theorem dX3_addPaper_59 : decode cX3_addPaper 59 = .ok (.getfield 30, 3) := by decide +kernel
theorem dX3_addPaper_62 : decode cX3_addPaper 62 = .ok (.aload_n 0, 1) := by decide +kernel
theorem dX3_addPaper_63 : decode cX3_addPaper 63 = .ok (.getfield 43, 3) := by decide +kernel
theorem dX3_addPaper_66 : decode cX3_addPaper 66 = .ok (.iload 4, 2) := by decide +kernel
theorem dX3_addPaper_68 : decode cX3_addPaper 68 = .ok (.iastore, 1) := by decide +kernel
theorem dX3_addPaper_69 : decode cX3_addPaper 69 = .ok (.aload_n 0, 1) := by decide +kernel
theorem dX3_addPaper_70 : decode cX3_addPaper 70 = .ok (.getfield 33, 3) := by decide +kernel
theorem dX3_addPaper_73 : decode cX3_addPaper 73 = .ok (.aload_n 0, 1) := by decide +kernel
theorem dX3_addPaper_74 : decode cX3_addPaper 74 = .ok (.getfield 43, 3) := by decide +kernel
theorem dX3_addPaper_77 : decode cX3_addPaper 77 = .ok (.iload 4, 2) := by decide +kernel
theorem dX3_addPaper_79 : decode cX3_addPaper 79 = .ok (.iconst 3, 1) := by decide +kernel
theorem dX3_addPaper_80 : decode cX3_addPaper 80 = .ok (.if_icmp .ne 13, 3) := by decide +kernel
theorem dX3_addPaper_83 : decode cX3_addPaper 83 = .ok (.iconst 1, 1) := by decide +kernel
theorem dX3_addPaper_84 : decode cX3_addPaper 84 = .ok (.iload_n 3, 1) := by decide +kernel
theorem dX3_addPaper_85 : decode cX3_addPaper 85 = .ok (.iconst 2, 1) := by decide +kernel
theorem dX3_addPaper_86 : decode cX3_addPaper 86 = .ok (.idiv, 1) := by decide +kernel
theorem dX3_addPaper_87 : decode cX3_addPaper 87 = .ok (.invokestatic 68, 3) := by decide +kernel
theorem dX3_addPaper_90 : decode cX3_addPaper 90 = .ok (.goto 4, 3) := by decide +kernel
theorem dX3_addPaper_93 : decode cX3_addPaper 93 = .ok (.iload_n 3, 1) := by decide +kernel
theorem dX3_addPaper_94 : decode cX3_addPaper 94 = .ok (.iastore, 1) := by decide +kernel
theorem dX3_addPaper_95 : decode cX3_addPaper 95 = .ok (.aload_n 0, 1) := by decide +kernel
theorem dX3_addPaper_96 : decode cX3_addPaper 96 = .ok (.dup, 1) := by decide +kernel
theorem dX3_addPaper_97 : decode cX3_addPaper 97 = .ok (.getfield 43, 3) := by decide +kernel
theorem dX3_addPaper_100 : decode cX3_addPaper 100 = .ok (.iconst 1, 1) := by decide +kernel
theorem dX3_addPaper_101 : decode cX3_addPaper 101 = .ok (.iadd, 1) := by decide +kernel
theorem dX3_addPaper_102 : decode cX3_addPaper 102 = .ok (.putfield 43, 3) := by decide +kernel
theorem dX3_addPaper_105 : decode cX3_addPaper 105 = .ok (.return_, 1) := by decide +kernel
theorem dX3_hasCloud_0 : decode cX3_hasCloud 0 = .ok (.iload_n 1, 1) := by decide +kernel
theorem dX3_hasCloud_1 : decode cX3_hasCloud 1 = .ok (.ifCond .lt 20, 3) := by decide +kernel
theorem dX3_hasCloud_4 : decode cX3_hasCloud 4 = .ok (.iload_n 1, 1) := by decide +kernel
theorem dX3_hasCloud_5 : decode cX3_hasCloud 5 = .ok (.aload_n 0, 1) := by decide +kernel
theorem dX3_hasCloud_6 : decode cX3_hasCloud 6 = .ok (.getfield 40, 3) := by decide +kernel
theorem dX3_hasCloud_9 : decode cX3_hasCloud 9 = .ok (.if_icmp .ge 12, 3) := by decide +kernel
theorem dX3_hasCloud_12 : decode cX3_hasCloud 12 = .ok (.iload_n 1, 1) := by decide +kernel
theorem dX3_hasCloud_13 : decode cX3_hasCloud 13 = .ok (.iconst 4, 1) := by decide +kernel
theorem dX3_hasCloud_14 : decode cX3_hasCloud 14 = .ok (.if_icmp .ge 7, 3) := by decide +kernel
theorem dX3_hasCloud_17 : decode cX3_hasCloud 17 = .ok (.iconst 1, 1) := by decide +kernel
theorem dX3_hasCloud_18 : decode cX3_hasCloud 18 = .ok (.goto 4, 3) := by decide +kernel
theorem dX3_hasCloud_21 : decode cX3_hasCloud 21 = .ok (.iconst 0, 1) := by decide +kernel
theorem dX3_hasCloud_22 : decode cX3_hasCloud 22 = .ok (.ireturn, 1) := by decide +kernel
theorem dX3_hasPaper_0 : decode cX3_hasPaper 0 = .ok (.iload_n 1, 1) := by decide +kernel
theorem dX3_hasPaper_1 : decode cX3_hasPaper 1 = .ok (.ifCond .lt 20, 3) := by decide +kernel
theorem dX3_hasPaper_4 : decode cX3_hasPaper 4 = .ok (.iload_n 1, 1) := by decide +kernel
theorem dX3_hasPaper_5 : decode cX3_hasPaper 5 = .ok (.aload_n 0, 1) := by decide +kernel
theorem dX3_hasPaper_6 : decode cX3_hasPaper 6 = .ok (.getfield 43, 3) := by decide +kernel
theorem dX3_hasPaper_9 : decode cX3_hasPaper 9 = .ok (.if_icmp .ge 12, 3) := by decide +kernel
theorem dX3_hasPaper_12 : decode cX3_hasPaper 12 = .ok (.iload_n 1, 1) := by decide +kernel
theorem dX3_hasPaper_13 : decode cX3_hasPaper 13 = .ok (.iconst 5, 1) := by decide +kernel
theorem dX3_hasPaper_14 : decode cX3_hasPaper 14 = .ok (.if_icmp .ge 7, 3) := by decide +kernel
theorem dX3_hasPaper_17 : decode cX3_hasPaper 17 = .ok (.iconst 1, 1) := by decide +kernel
theorem dX3_hasPaper_18 : decode cX3_hasPaper 18 = .ok (.goto 4, 3) := by decide +kernel
theorem dX3_hasPaper_21 : decode cX3_hasPaper 21 = .ok (.iconst 0, 1) := by decide +kernel
theorem dX3_hasPaper_22 : decode cX3_hasPaper 22 = .ok (.ireturn, 1) := by decide +kernel
theorem dX3_windOn_0 : decode cX3_windOn 0 = .ok (.aload_n 0, 1) := by decide +kernel
theorem dX3_windOn_1 : decode cX3_windOn 1 = .ok (.getfield 36, 3) := by decide +kernel
theorem dX3_windOn_4 : decode cX3_windOn 4 = .ok (.ifCond .le 15, 3) := by decide +kernel
theorem dX3_windOn_7 : decode cX3_windOn 7 = .ok (.aload_n 0, 1) := by decide +kernel
theorem dX3_windOn_8 : decode cX3_windOn 8 = .ok (.getfield 36, 3) := by decide +kernel
theorem dX3_windOn_11 : decode cX3_windOn 11 = .ok (.iconst 4, 1) := by decide +kernel
theorem dX3_windOn_12 : decode cX3_windOn 12 = .ok (.if_icmp .gt 7, 3) := by decide +kernel
theorem dX3_windOn_15 : decode cX3_windOn 15 = .ok (.iload_n 1, 1) := by decide +kernel
theorem dX3_windOn_16 : decode cX3_windOn 16 = .ok (.ifCond .ge 5, 3) := by decide +kernel
theorem dX3_windOn_19 : decode cX3_windOn 19 = .ok (.iconst 0, 1) := by decide +kernel
theorem dX3_windOn_20 : decode cX3_windOn 20 = .ok (.ireturn, 1) := by decide +kernel
theorem dX3_windOn_21 : decode cX3_windOn 21 = .ok (.aload_n 0, 1) := by decide +kernel
theorem dX3_windOn_22 : decode cX3_windOn 22 = .ok (.getfield 9, 3) := by decide +kernel
theorem dX3_windOn_25 : decode cX3_windOn 25 = .ok (.iload_n 1, 1) := by decide +kernel
theorem dX3_windOn_26 : decode cX3_windOn 26 = .ok (.aload_n 0, 1) := by decide +kernel
theorem dX3_windOn_27 : decode cX3_windOn 27 = .ok (.getfield 36, 3) := by decide +kernel
theorem dX3_windOn_30 : decode cX3_windOn 30 = .ok (.irem, 1) := by decide +kernel
theorem dX3_windOn_31 : decode cX3_windOn 31 = .ok (.iaload, 1) := by decide +kernel
theorem dX3_windOn_32 : decode cX3_windOn 32 = .ok (.ireturn, 1) := by decide +kernel
theorem dX3_drift_0 : decode cX3_drift 0 = .ok (.aload_n 0, 1) := by decide +kernel
theorem dX3_drift_1 : decode cX3_drift 1 = .ok (.iload_n 2, 1) := by decide +kernel
theorem dX3_drift_2 : decode cX3_drift 2 = .ok (.invokevirtual 74, 3) := by decide +kernel
theorem dX3_drift_5 : decode cX3_drift 5 = .ok (.istore_n 3, 1) := by decide +kernel
theorem dX3_drift_6 : decode cX3_drift 6 = .ok (.iload_n 3, 1) := by decide +kernel
theorem dX3_drift_7 : decode cX3_drift 7 = .ok (.iconst 1, 1) := by decide +kernel
theorem dX3_drift_8 : decode cX3_drift 8 = .ok (.if_icmp .ne 7, 3) := by decide +kernel
theorem dX3_drift_11 : decode cX3_drift 11 = .ok (.iconst 1, 1) := by decide +kernel
theorem dX3_drift_12 : decode cX3_drift 12 = .ok (.goto 13, 3) := by decide +kernel
theorem dX3_drift_15 : decode cX3_drift 15 = .ok (.iload_n 3, 1) := by decide +kernel
theorem dX3_drift_16 : decode cX3_drift 16 = .ok (.iconst 2, 1) := by decide +kernel
theorem dX3_drift_17 : decode cX3_drift 17 = .ok (.if_icmp .ne 7, 3) := by decide +kernel
theorem dX3_drift_20 : decode cX3_drift 20 = .ok (.iconst (-1), 1) := by decide +kernel
theorem dX3_drift_21 : decode cX3_drift 21 = .ok (.goto 4, 3) := by decide +kernel
theorem dX3_drift_24 : decode cX3_drift 24 = .ok (.iconst 0, 1) := by decide +kernel
theorem dX3_drift_25 : decode cX3_drift 25 = .ok (.istore 4, 2) := by decide +kernel
theorem dX3_drift_27 : decode cX3_drift 27 = .ok (.iload_n 1, 1) := by decide +kernel
theorem dX3_drift_28 : decode cX3_drift 28 = .ok (.iconst 2, 1) := by decide +kernel
theorem dX3_drift_29 : decode cX3_drift 29 = .ok (.if_icmp .ne 7, 3) := by decide +kernel
theorem dX3_drift_32 : decode cX3_drift 32 = .ok (.iconst 0, 1) := by decide +kernel
theorem dX3_drift_33 : decode cX3_drift 33 = .ok (.goto 13, 3) := by decide +kernel
theorem dX3_drift_36 : decode cX3_drift 36 = .ok (.iload_n 1, 1) := by decide +kernel
theorem dX3_drift_37 : decode cX3_drift 37 = .ok (.iconst 3, 1) := by decide +kernel
theorem dX3_drift_38 : decode cX3_drift 38 = .ok (.if_icmp .ne 7, 3) := by decide +kernel
theorem dX3_drift_41 : decode cX3_drift 41 = .ok (.iconst 2, 1) := by decide +kernel
theorem dX3_drift_42 : decode cX3_drift 42 = .ok (.goto 4, 3) := by decide +kernel
theorem dX3_drift_45 : decode cX3_drift 45 = .ok (.iconst 1, 1) := by decide +kernel
theorem dX3_drift_46 : decode cX3_drift 46 = .ok (.istore 5, 2) := by decide +kernel
theorem dX3_drift_48 : decode cX3_drift 48 = .ok (.iload 4, 2) := by decide +kernel
theorem dX3_drift_50 : decode cX3_drift 50 = .ok (.iload 5, 2) := by decide +kernel
theorem dX3_drift_52 : decode cX3_drift 52 = .ok (.imul, 1) := by decide +kernel
theorem dX3_drift_53 : decode cX3_drift 53 = .ok (.ireturn, 1) := by decide +kernel
theorem dX3_carried_0 : decode cX3_carried 0 = .ok (.iload_n 2, 1) := by decide +kernel
theorem dX3_carried_1 : decode cX3_carried 1 = .ok (.istore 5, 2) := by decide +kernel
theorem dX3_carried_3 : decode cX3_carried 3 = .ok (.iconst 0, 1) := by decide +kernel
theorem dX3_carried_4 : decode cX3_carried 4 = .ok (.istore 6, 2) := by decide +kernel
theorem dX3_carried_6 : decode cX3_carried 6 = .ok (.iload 6, 2) := by decide +kernel
theorem dX3_carried_8 : decode cX3_carried 8 = .ok (.iload 4, 2) := by decide +kernel
theorem dX3_carried_10 : decode cX3_carried 10 = .ok (.if_icmp .ge 26, 3) := by decide +kernel
theorem dX3_carried_13 : decode cX3_carried 13 = .ok (.iload 5, 2) := by decide +kernel
theorem dX3_carried_15 : decode cX3_carried 15 = .ok (.aload_n 0, 1) := by decide +kernel
theorem dX3_carried_16 : decode cX3_carried 16 = .ok (.iload_n 1, 1) := by decide +kernel
theorem dX3_carried_17 : decode cX3_carried 17 = .ok (.iload_n 3, 1) := by decide +kernel
theorem dX3_carried_18 : decode cX3_carried 18 = .ok (.iload 6, 2) := by decide +kernel
theorem dX3_carried_20 : decode cX3_carried 20 = .ok (.iadd, 1) := by decide +kernel
theorem dX3_carried_21 : decode cX3_carried 21 = .ok (.invokevirtual 77, 3) := by decide +kernel
theorem dX3_carried_24 : decode cX3_carried 24 = .ok (.iadd, 1) := by decide +kernel
theorem dX3_carried_25 : decode cX3_carried 25 = .ok (.invokestatic 80, 3) := by decide +kernel
theorem dX3_carried_28 : decode cX3_carried 28 = .ok (.istore 5, 2) := by decide +kernel
theorem dX3_carried_30 : decode cX3_carried 30 = .ok (.iinc 6 1, 3) := by decide +kernel
theorem dX3_carried_33 : decode cX3_carried 33 = .ok (.goto (-27), 3) := by decide +kernel
theorem dX3_carried_36 : decode cX3_carried 36 = .ok (.iload 5, 2) := by decide +kernel
theorem dX3_carried_38 : decode cX3_carried 38 = .ok (.ireturn, 1) := by decide +kernel
theorem dX4_init_0 : decode cX4_init 0 = .ok (.aload_n 0, 1) := by decide +kernel
theorem dX4_init_1 : decode cX4_init 1 = .ok (.invokespecial 3, 3) := by decide +kernel
theorem dX4_init_4 : decode cX4_init 4 = .ok (.aload_n 0, 1) := by decide +kernel
theorem dX4_init_5 : decode cX4_init 5 = .ok (.iconst 3, 1) := by decide +kernel
theorem dX4_init_6 : decode cX4_init 6 = .ok (.newarray .int, 2) := by decide +kernel
theorem dX4_init_8 : decode cX4_init 8 = .ok (.putfield 9, 3) := by decide +kernel
theorem dX4_init_11 : decode cX4_init 11 = .ok (.aload_n 0, 1) := by decide +kernel
theorem dX4_init_12 : decode cX4_init 12 = .ok (.iconst 3, 1) := by decide +kernel
theorem dX4_init_13 : decode cX4_init 13 = .ok (.newarray .int, 2) := by decide +kernel
theorem dX4_init_15 : decode cX4_init 15 = .ok (.putfield 15, 3) := by decide +kernel
theorem dX4_init_18 : decode cX4_init 18 = .ok (.aload_n 0, 1) := by decide +kernel
theorem dX4_init_19 : decode cX4_init 19 = .ok (.iconst 3, 1) := by decide +kernel
theorem dX4_init_20 : decode cX4_init 20 = .ok (.newarray .int, 2) := by decide +kernel
theorem dX4_init_22 : decode cX4_init 22 = .ok (.putfield 18, 3) := by decide +kernel
theorem dX4_init_25 : decode cX4_init 25 = .ok (.aload_n 0, 1) := by decide +kernel
theorem dX4_init_26 : decode cX4_init 26 = .ok (.iconst 3, 1) := by decide +kernel
theorem dX4_init_27 : decode cX4_init 27 = .ok (.newarray .int, 2) := by decide +kernel
theorem dX4_init_29 : decode cX4_init 29 = .ok (.putfield 21, 3) := by decide +kernel
theorem dX4_init_32 : decode cX4_init 32 = .ok (.return_, 1) := by decide +kernel
theorem dX4_weigh_0 : decode cX4_weigh 0 = .ok (.aload_n 2, 1) := by decide +kernel
theorem dX4_weigh_1 : decode cX4_weigh 1 = .ok (.ifnull 19, 3) := by decide +kernel
theorem dX4_weigh_4 : decode cX4_weigh 4 = .ok (.aload_n 3, 1) := by decide +kernel
theorem dX4_weigh_5 : decode cX4_weigh 5 = .ok (.ifnull 15, 3) := by decide +kernel
theorem dX4_weigh_8 : decode cX4_weigh 8 = .ok (.aload_n 2, 1) := by decide +kernel
theorem dX4_weigh_9 : decode cX4_weigh 9 = .ok (.arraylength, 1) := by decide +kernel
theorem dX4_weigh_10 : decode cX4_weigh 10 = .ok (.iconst 3, 1) := by decide +kernel
theorem dX4_weigh_11 : decode cX4_weigh 11 = .ok (.if_icmp .lt 9, 3) := by decide +kernel
theorem dX4_weigh_14 : decode cX4_weigh 14 = .ok (.aload_n 3, 1) := by decide +kernel
theorem dX4_weigh_15 : decode cX4_weigh 15 = .ok (.arraylength, 1) := by decide +kernel
theorem dX4_weigh_16 : decode cX4_weigh 16 = .ok (.iconst 3, 1) := by decide +kernel
theorem dX4_weigh_17 : decode cX4_weigh 17 = .ok (.if_icmp .ge 4, 3) := by decide +kernel
theorem dX4_weigh_20 : decode cX4_weigh 20 = .ok (.return_, 1) := by decide +kernel
theorem dX4_weigh_21 : decode cX4_weigh 21 = .ok (.iconst 0, 1) := by decide +kernel
theorem dX4_weigh_22 : decode cX4_weigh 22 = .ok (.istore 4, 2) := by decide +kernel
theorem dX4_weigh_24 : decode cX4_weigh 24 = .ok (.iload 4, 2) := by decide +kernel
theorem dX4_weigh_26 : decode cX4_weigh 26 = .ok (.iconst 3, 1) := by decide +kernel
theorem dX4_weigh_27 : decode cX4_weigh 27 = .ok (.if_icmp .ge 90, 3) := by decide +kernel
theorem dX4_weigh_30 : decode cX4_weigh 30 = .ok (.iload 4, 2) := by decide +kernel
theorem dX4_weigh_32 : decode cX4_weigh 32 = .ok (.iconst 2, 1) := by decide +kernel
theorem dX4_weigh_33 : decode cX4_weigh 33 = .ok (.if_icmp .ne 7, 3) := by decide +kernel
theorem dX4_weigh_36 : decode cX4_weigh 36 = .ok (.iconst 0, 1) := by decide +kernel
theorem dX4_weigh_37 : decode cX4_weigh 37 = .ok (.goto 14, 3) := by decide +kernel
theorem dX4_weigh_40 : decode cX4_weigh 40 = .ok (.iload 4, 2) := by decide +kernel
theorem dX4_weigh_42 : decode cX4_weigh 42 = .ok (.iconst 1, 1) := by decide +kernel
theorem dX4_weigh_43 : decode cX4_weigh 43 = .ok (.if_icmp .ne 7, 3) := by decide +kernel
theorem dX4_weigh_46 : decode cX4_weigh 46 = .ok (.iconst 1, 1) := by decide +kernel
theorem dX4_weigh_47 : decode cX4_weigh 47 = .ok (.goto 4, 3) := by decide +kernel
theorem dX4_weigh_50 : decode cX4_weigh 50 = .ok (.iconst (-1), 1) := by decide +kernel
theorem dX4_weigh_51 : decode cX4_weigh 51 = .ok (.istore 5, 2) := by decide +kernel
theorem dX4_weigh_53 : decode cX4_weigh 53 = .ok (.aload_n 2, 1) := by decide +kernel
theorem dX4_weigh_54 : decode cX4_weigh 54 = .ok (.iload 4, 2) := by decide +kernel
theorem dX4_weigh_56 : decode cX4_weigh 56 = .ok (.aload_n 0, 1) := by decide +kernel
theorem dX4_weigh_57 : decode cX4_weigh 57 = .ok (.getfield 24, 3) := by decide +kernel
theorem dX4_weigh_60 : decode cX4_weigh 60 = .ok (.iload_n 1, 1) := by decide +kernel
theorem dX4_weigh_61 : decode cX4_weigh 61 = .ok (.iaload, 1) := by decide +kernel
theorem dX4_weigh_62 : decode cX4_weigh 62 = .ok (.iload 5, 2) := by decide +kernel
theorem dX4_weigh_64 : decode cX4_weigh 64 = .ok (.iadd, 1) := by decide +kernel
theorem dX4_weigh_65 : decode cX4_weigh 65 = .ok (.invokestatic 29, 3) := by decide +kernel
theorem dX4_weigh_68 : decode cX4_weigh 68 = .ok (.iastore, 1) := by decide +kernel
theorem dX4_weigh_69 : decode cX4_weigh 69 = .ok (.aload_n 0, 1) := by decide +kernel
theorem dX4_weigh_70 : decode cX4_weigh 70 = .ok (.iload_n 1, 1) := by decide +kernel
theorem dX4_weigh_71 : decode cX4_weigh 71 = .ok (.invokevirtual 35, 3) := by decide +kernel
theorem dX4_weigh_74 : decode cX4_weigh 74 = .ok (.aload_n 0, 1) := by decide +kernel
theorem dX4_weigh_75 : decode cX4_weigh 75 = .ok (.aload_n 0, 1) := by decide +kernel
theorem dX4_weigh_76 : decode cX4_weigh 76 = .ok (.iload_n 1, 1) := by decide +kernel
theorem dX4_weigh_77 : decode cX4_weigh 77 = .ok (.aload_n 2, 1) := by decide +kernel
theorem dX4_weigh_78 : decode cX4_weigh 78 = .ok (.iload 4, 2) := by decide +kernel
theorem dX4_weigh_80 : decode cX4_weigh 80 = .ok (.iaload, 1) := by decide +kernel
theorem dX4_weigh_81 : decode cX4_weigh 81 = .ok (.invokevirtual 38, 3) := by decide +kernel
theorem dX4_weigh_84 : decode cX4_weigh 84 = .ok (.invokevirtual 42, 3) := by decide +kernel
theorem dX4_weigh_87 : decode cX4_weigh 87 = .ok (.invokestatic 45, 3) := by decide +kernel
theorem dX4_weigh_90 : decode cX4_weigh 90 = .ok (.istore 6, 2) := by decide +kernel
theorem dX4_weigh_92 : decode cX4_weigh 92 = .ok (.aload_n 3, 1) := by decide +kernel
theorem dX4_weigh_93 : decode cX4_weigh 93 = .ok (.iload 4, 2) := by decide +kernel
theorem dX4_weigh_95 : decode cX4_weigh 95 = .ok (.iload 4, 2) := by decide +kernel
theorem dX4_weigh_97 : decode cX4_weigh 97 = .ok (.iconst 2, 1) := by decide +kernel
theorem dX4_weigh_98 : decode cX4_weigh 98 = .ok (.if_icmp .ne 8, 3) := by decide +kernel
theorem dX4_weigh_101 : decode cX4_weigh 101 = .ok (.iload 6, 2) := by decide +kernel
theorem dX4_weigh_103 : decode cX4_weigh 103 = .ok (.goto 7, 3) := by decide +kernel
theorem dX4_weigh_106 : decode cX4_weigh 106 = .ok (.iload 6, 2) := by decide +kernel
theorem dX4_weigh_108 : decode cX4_weigh 108 = .ok (.iconst 1, 1) := by decide +kernel
theorem dX4_weigh_109 : decode cX4_weigh 109 = .ok (.isub, 1) := by decide +kernel
theorem dX4_weigh_110 : decode cX4_weigh 110 = .ok (.iastore, 1) := by decide +kernel
theorem dX4_weigh_111 : decode cX4_weigh 111 = .ok (.iinc 4 1, 3) := by decide +kernel
theorem dX4_weigh_114 : decode cX4_weigh 114 = .ok (.goto (-90), 3) := by decide +kernel
theorem dX4_weigh_117 : decode cX4_weigh 117 = .ok (.return_, 1) := by decide +kernel
theorem dX4_apart_0 : decode cX4_apart 0 = .ok (.aload_n 0, 1) := by decide +kernel
theorem dX4_apart_1 : decode cX4_apart 1 = .ok (.getfield 9, 3) := by decide +kernel
theorem dX4_apart_4 : decode cX4_apart 4 = .ok (.iload_n 1, 1) := by decide +kernel
theorem dX4_apart_5 : decode cX4_apart 5 = .ok (.iaload, 1) := by decide +kernel
theorem dX4_apart_6 : decode cX4_apart 6 = .ok (.aload_n 0, 1) := by decide +kernel
theorem dX4_apart_7 : decode cX4_apart 7 = .ok (.getfield 15, 3) := by decide +kernel
theorem dX4_apart_10 : decode cX4_apart 10 = .ok (.iload_n 2, 1) := by decide +kernel
theorem dX4_apart_11 : decode cX4_apart 11 = .ok (.iaload, 1) := by decide +kernel
theorem dX4_apart_12 : decode cX4_apart 12 = .ok (.if_icmp .eq 7, 3) := by decide +kernel
theorem dX4_apart_15 : decode cX4_apart 15 = .ok (.iconst 2, 1) := by decide +kernel
theorem dX4_apart_16 : decode cX4_apart 16 = .ok (.goto 4, 3) := by decide +kernel
theorem dX4_apart_19 : decode cX4_apart 19 = .ok (.iconst 0, 1) := by decide +kernel
theorem dX4_apart_20 : decode cX4_apart 20 = .ok (.ireturn, 1) := by decide +kernel
theorem dX4_rest_0 : decode cX4_rest 0 = .ok (.aload_n 0, 1) := by decide +kernel
theorem dX4_rest_1 : decode cX4_rest 1 = .ok (.getfield 18, 3) := by decide +kernel
theorem dX4_rest_4 : decode cX4_rest 4 = .ok (.iload_n 1, 1) := by decide +kernel
theorem dX4_rest_5 : decode cX4_rest 5 = .ok (.iaload, 1) := by decide +kernel
theorem dX4_rest_6 : decode cX4_rest 6 = .ok (.aload_n 0, 1) := by decide +kernel
theorem dX4_rest_7 : decode cX4_rest 7 = .ok (.iload_n 1, 1) := by decide +kernel
theorem dX4_rest_8 : decode cX4_rest 8 = .ok (.iload_n 2, 1) := by decide +kernel
theorem dX4_rest_9 : decode cX4_rest 9 = .ok (.invokevirtual 50, 3) := by decide +kernel
theorem dX4_rest_12 : decode cX4_rest 12 = .ok (.iadd, 1) := by decide +kernel
theorem dX4_rest_13 : decode cX4_rest 13 = .ok (.istore_n 3, 1) := by decide +kernel
theorem dX4_rest_14 : decode cX4_rest 14 = .ok (.aload_n 0, 1) := by decide +kernel
theorem dX4_rest_15 : decode cX4_rest 15 = .ok (.getfield 21, 3) := by decide +kernel
theorem dX4_rest_18 : decode cX4_rest 18 = .ok (.iload_n 2, 1) := by decide +kernel
theorem dX4_rest_19 : decode cX4_rest 19 = .ok (.iaload, 1) := by decide +kernel
theorem dX4_rest_20 : decode cX4_rest 20 = .ok (.aload_n 0, 1) := by decide +kernel
theorem dX4_rest_21 : decode cX4_rest 21 = .ok (.iload_n 1, 1) := by decide +kernel
theorem dX4_rest_22 : decode cX4_rest 22 = .ok (.iload_n 2, 1) := by decide +kernel
theorem dX4_rest_23 : decode cX4_rest 23 = .ok (.invokevirtual 50, 3) := by decide +kernel
theorem dX4_rest_26 : decode cX4_rest 26 = .ok (.iadd, 1) := by decide +kernel
theorem dX4_rest_27 : decode cX4_rest 27 = .ok (.istore 4, 2) := by decide +kernel
theorem dX4_rest_29 : decode cX4_rest 29 = .ok (.iconst 0, 1) := by decide +kernel
theorem dX4_rest_30 : decode cX4_rest 30 = .ok (.istore 5, 2) := by decide +kernel
theorem dX4_rest_32 : decode cX4_rest 32 = .ok (.iload 5, 2) := by decide +kernel
theorem dX4_rest_34 : decode cX4_rest 34 = .ok (.iconst 3, 1) := by decide +kernel
theorem dX4_rest_35 : decode cX4_rest 35 = .ok (.if_icmp .ge 50, 3) := by decide +kernel
theorem dX4_rest_38 : decode cX4_rest 38 = .ok (.aload_n 0, 1) := by decide +kernel
theorem dX4_rest_39 : decode cX4_rest 39 = .ok (.getfield 18, 3) := by decide +kernel
theorem dX4_rest_42 : decode cX4_rest 42 = .ok (.iload 5, 2) := by decide +kernel
theorem dX4_rest_44 : decode cX4_rest 44 = .ok (.iaload, 1) := by decide +kernel
theorem dX4_rest_45 : decode cX4_rest 45 = .ok (.aload_n 0, 1) := by decide +kernel
theorem dX4_rest_46 : decode cX4_rest 46 = .ok (.iload 5, 2) := by decide +kernel
theorem dX4_rest_48 : decode cX4_rest 48 = .ok (.iload_n 2, 1) := by decide +kernel
theorem dX4_rest_49 : decode cX4_rest 49 = .ok (.invokevirtual 50, 3) := by decide +kernel
theorem dX4_rest_52 : decode cX4_rest 52 = .ok (.iadd, 1) := by decide +kernel
theorem dX4_rest_53 : decode cX4_rest 53 = .ok (.iload_n 3, 1) := by decide +kernel
theorem dX4_rest_54 : decode cX4_rest 54 = .ok (.if_icmp .gt 23, 3) := by decide +kernel
theorem dX4_rest_57 : decode cX4_rest 57 = .ok (.aload_n 0, 1) := by decide +kernel
theorem dX4_rest_58 : decode cX4_rest 58 = .ok (.getfield 21, 3) := by decide +kernel
theorem dX4_rest_61 : decode cX4_rest 61 = .ok (.iload 5, 2) := by decide +kernel
theorem dX4_rest_63 : decode cX4_rest 63 = .ok (.iaload, 1) := by decide +kernel
theorem dX4_rest_64 : decode cX4_rest 64 = .ok (.aload_n 0, 1) := by decide +kernel
theorem dX4_rest_65 : decode cX4_rest 65 = .ok (.iload_n 1, 1) := by decide +kernel
theorem dX4_rest_66 : decode cX4_rest 66 = .ok (.iload 5, 2) := by decide +kernel
theorem dX4_rest_68 : decode cX4_rest 68 = .ok (.invokevirtual 50, 3) := by decide +kernel
theorem dX4_rest_71 : decode cX4_rest 71 = .ok (.iadd, 1) := by decide +kernel
theorem dX4_rest_72 : decode cX4_rest 72 = .ok (.iload 4, 2) := by decide +kernel
theorem dX4_rest_74 : decode cX4_rest 74 = .ok (.if_icmp .le 5, 3) := by decide +kernel
theorem dX4_rest_77 : decode cX4_rest 77 = .ok (.iconst 0, 1) := by decide +kernel
theorem dX4_rest_78 : decode cX4_rest 78 = .ok (.ireturn, 1) := by decide +kernel
theorem dX4_rest_79 : decode cX4_rest 79 = .ok (.iinc 5 1, 3) := by decide +kernel
theorem dX4_rest_82 : decode cX4_rest 82 = .ok (.goto (-50), 3) := by decide +kernel
theorem dX4_rest_85 : decode cX4_rest 85 = .ok (.iconst 1, 1) := by decide +kernel
theorem dX4_rest_86 : decode cX4_rest 86 = .ok (.ireturn, 1) := by decide +kernel
theorem dX4_restingPairs_0 : decode cX4_restingPairs 0 = .ok (.iconst 0, 1) := by decide +kernel
theorem dX4_restingPairs_1 : decode cX4_restingPairs 1 = .ok (.istore_n 1, 1) := by decide +kernel
theorem dX4_restingPairs_2 : decode cX4_restingPairs 2 = .ok (.iconst 0, 1) := by decide +kernel
theorem dX4_restingPairs_3 : decode cX4_restingPairs 3 = .ok (.istore_n 2, 1) := by decide +kernel
theorem dX4_restingPairs_4 : decode cX4_restingPairs 4 = .ok (.iload_n 2, 1) := by decide +kernel
theorem dX4_restingPairs_5 : decode cX4_restingPairs 5 = .ok (.iconst 3, 1) := by decide +kernel
theorem dX4_restingPairs_6 : decode cX4_restingPairs 6 = .ok (.if_icmp .ge 39, 3) := by decide +kernel
theorem dX4_restingPairs_9 : decode cX4_restingPairs 9 = .ok (.iconst 0, 1) := by decide +kernel
theorem dX4_restingPairs_10 : decode cX4_restingPairs 10 = .ok (.istore_n 3, 1) := by decide +kernel
theorem dX4_restingPairs_11 : decode cX4_restingPairs 11 = .ok (.iload_n 3, 1) := by decide +kernel
theorem dX4_restingPairs_12 : decode cX4_restingPairs 12 = .ok (.iconst 3, 1) := by decide +kernel
theorem dX4_restingPairs_13 : decode cX4_restingPairs 13 = .ok (.if_icmp .ge 26, 3) := by decide +kernel
theorem dX4_restingPairs_16 : decode cX4_restingPairs 16 = .ok (.iload_n 1, 1) := by decide +kernel
theorem dX4_restingPairs_17 : decode cX4_restingPairs 17 = .ok (.aload_n 0, 1) := by decide +kernel
theorem dX4_restingPairs_18 : decode cX4_restingPairs 18 = .ok (.iload_n 2, 1) := by decide +kernel
theorem dX4_restingPairs_19 : decode cX4_restingPairs 19 = .ok (.iload_n 3, 1) := by decide +kernel
theorem dX4_restingPairs_20 : decode cX4_restingPairs 20 = .ok (.invokevirtual 53, 3) := by decide +kernel
theorem dX4_restingPairs_23 : decode cX4_restingPairs 23 = .ok (.ifCond .eq 7, 3) := by decide +kernel
theorem dX4_restingPairs_26 : decode cX4_restingPairs 26 = .ok (.iconst 1, 1) := by decide +kernel
theorem dX4_restingPairs_27 : decode cX4_restingPairs 27 = .ok (.goto 4, 3) := by decide +kernel
theorem dX4_restingPairs_30 : decode cX4_restingPairs 30 = .ok (.iconst 0, 1) := by decide +kernel
theorem dX4_restingPairs_31 : decode cX4_restingPairs 31 = .ok (.iadd, 1) := by decide +kernel
theorem dX4_restingPairs_32 : decode cX4_restingPairs 32 = .ok (.istore_n 1, 1) := by decide +kernel
theorem dX4_restingPairs_33 : decode cX4_restingPairs 33 = .ok (.iinc 3 1, 3) := by decide +kernel
theorem dX4_restingPairs_36 : decode cX4_restingPairs 36 = .ok (.goto (-25), 3) := by decide +kernel
theorem dX4_restingPairs_39 : decode cX4_restingPairs 39 = .ok (.iinc 2 1, 3) := by decide +kernel
theorem dX4_restingPairs_42 : decode cX4_restingPairs 42 = .ok (.goto (-38), 3) := by decide +kernel
theorem dX4_restingPairs_45 : decode cX4_restingPairs 45 = .ok (.iload_n 1, 1) := by decide +kernel
theorem dX4_restingPairs_46 : decode cX4_restingPairs 46 = .ok (.ireturn, 1) := by decide +kernel
theorem dX4_firstResting_0 : decode cX4_firstResting 0 = .ok (.iconst 0, 1) := by decide +kernel
theorem dX4_firstResting_1 : decode cX4_firstResting 1 = .ok (.istore_n 1, 1) := by decide +kernel
theorem dX4_firstResting_2 : decode cX4_firstResting 2 = .ok (.iload_n 1, 1) := by decide +kernel
theorem dX4_firstResting_3 : decode cX4_firstResting 3 = .ok (.iconst 3, 1) := by decide +kernel
theorem dX4_firstResting_4 : decode cX4_firstResting 4 = .ok (.if_icmp .ge 38, 3) := by decide +kernel
theorem dX4_firstResting_7 : decode cX4_firstResting 7 = .ok (.iconst 0, 1) := by decide +kernel
theorem dX4_firstResting_8 : decode cX4_firstResting 8 = .ok (.istore_n 2, 1) := by decide +kernel
theorem dX4_firstResting_9 : decode cX4_firstResting 9 = .ok (.iload_n 2, 1) := by decide +kernel
theorem dX4_firstResting_10 : decode cX4_firstResting 10 = .ok (.iconst 3, 1) := by decide +kernel
theorem dX4_firstResting_11 : decode cX4_firstResting 11 = .ok (.if_icmp .ge 25, 3) := by decide +kernel
theorem dX4_firstResting_14 : decode cX4_firstResting 14 = .ok (.aload_n 0, 1) := by decide +kernel
theorem dX4_firstResting_15 : decode cX4_firstResting 15 = .ok (.iload_n 1, 1) := by decide +kernel
theorem dX4_firstResting_16 : decode cX4_firstResting 16 = .ok (.iload_n 2, 1) := by decide +kernel
theorem dX4_firstResting_17 : decode cX4_firstResting 17 = .ok (.invokevirtual 53, 3) := by decide +kernel
theorem dX4_firstResting_20 : decode cX4_firstResting 20 = .ok (.ifCond .eq 10, 3) := by decide +kernel
theorem dX4_firstResting_23 : decode cX4_firstResting 23 = .ok (.bipush 10, 2) := by decide +kernel
theorem dX4_firstResting_25 : decode cX4_firstResting 25 = .ok (.iload_n 1, 1) := by decide +kernel
theorem dX4_firstResting_26 : decode cX4_firstResting 26 = .ok (.imul, 1) := by decide +kernel
theorem dX4_firstResting_27 : decode cX4_firstResting 27 = .ok (.iload_n 2, 1) := by decide +kernel
theorem dX4_firstResting_28 : decode cX4_firstResting 28 = .ok (.iadd, 1) := by decide +kernel
theorem dX4_firstResting_29 : decode cX4_firstResting 29 = .ok (.ireturn, 1) := by decide +kernel
theorem dX4_firstResting_30 : decode cX4_firstResting 30 = .ok (.iinc 2 1, 3) := by decide +kernel
theorem dX4_firstResting_33 : decode cX4_firstResting 33 = .ok (.goto (-24), 3) := by decide +kernel
theorem dX4_firstResting_36 : decode cX4_firstResting 36 = .ok (.iinc 1 1, 3) := by decide +kernel
theorem dX4_firstResting_39 : decode cX4_firstResting 39 = .ok (.goto (-37), 3) := by decide +kernel
theorem dX4_firstResting_42 : decode cX4_firstResting 42 = .ok (.bipush (-9), 2) := by decide +kernel
theorem dX4_firstResting_44 : decode cX4_firstResting 44 = .ok (.ireturn, 1) := by decide +kernel
theorem dX5_init_0 : decode cX5_init 0 = .ok (.aload_n 0, 1) := by decide +kernel
theorem dX5_init_1 : decode cX5_init 1 = .ok (.invokespecial 3, 3) := by decide +kernel
theorem dX5_init_4 : decode cX5_init 4 = .ok (.aload_n 0, 1) := by decide +kernel
theorem dX5_init_5 : decode cX5_init 5 = .ok (.bipush 52, 2) := by decide +kernel
theorem dX5_init_7 : decode cX5_init 7 = .ok (.newarray .int, 2) := by decide +kernel
theorem dX5_init_9 : decode cX5_init 9 = .ok (.putfield 9, 3) := by decide +kernel
theorem dX5_init_12 : decode cX5_init 12 = .ok (.aload_n 0, 1) := by decide +kernel
theorem dX5_init_13 : decode cX5_init 13 = .ok (.iconst 0, 1) := by decide +kernel
theorem dX5_init_14 : decode cX5_init 14 = .ok (.putfield 15, 3) := by decide +kernel
theorem dX5_init_17 : decode cX5_init 17 = .ok (.return_, 1) := by decide +kernel
theorem dX5_append_0 : decode cX5_append 0 = .ok (.aload_n 0, 1) := by decide +kernel
theorem dX5_append_1 : decode cX5_append 1 = .ok (.getfield 15, 3) := by decide +kernel
theorem dX5_append_4 : decode cX5_append 4 = .ok (.ifCond .lt 15, 3) := by decide +kernel
theorem dX5_append_7 : decode cX5_append 7 = .ok (.aload_n 0, 1) := by decide +kernel
theorem dX5_append_8 : decode cX5_append 8 = .ok (.getfield 15, 3) := by decide +kernel
theorem dX5_append_11 : decode cX5_append 11 = .ok (.aload_n 0, 1) := by decide +kernel
theorem dX5_append_12 : decode cX5_append 12 = .ok (.getfield 9, 3) := by decide +kernel
theorem dX5_append_15 : decode cX5_append 15 = .ok (.arraylength, 1) := by decide +kernel
theorem dX5_append_16 : decode cX5_append 16 = .ok (.if_icmp .lt 5, 3) := by decide +kernel
theorem dX5_append_19 : decode cX5_append 19 = .ok (.iconst 0, 1) := by decide +kernel
theorem dX5_append_20 : decode cX5_append 20 = .ok (.ireturn, 1) := by decide +kernel
theorem dX5_append_21 : decode cX5_append 21 = .ok (.aload_n 0, 1) := by decide +kernel
theorem dX5_append_22 : decode cX5_append 22 = .ok (.getfield 9, 3) := by decide +kernel
theorem dX5_append_25 : decode cX5_append 25 = .ok (.aload_n 0, 1) := by decide +kernel
theorem dX5_append_26 : decode cX5_append 26 = .ok (.getfield 15, 3) := by decide +kernel
theorem dX5_append_29 : decode cX5_append 29 = .ok (.iload_n 1, 1) := by decide +kernel
theorem dX5_append_30 : decode cX5_append 30 = .ok (.iastore, 1) := by decide +kernel
theorem dX5_append_31 : decode cX5_append 31 = .ok (.aload_n 0, 1) := by decide +kernel
theorem dX5_append_32 : decode cX5_append 32 = .ok (.dup, 1) := by decide +kernel
theorem dX5_append_33 : decode cX5_append 33 = .ok (.getfield 15, 3) := by decide +kernel
theorem dX5_append_36 : decode cX5_append 36 = .ok (.iconst 1, 1) := by decide +kernel
theorem dX5_append_37 : decode cX5_append 37 = .ok (.iadd, 1) := by decide +kernel
theorem dX5_append_38 : decode cX5_append 38 = .ok (.putfield 15, 3) := by decide +kernel
theorem dX5_append_41 : decode cX5_append 41 = .ok (.iconst 1, 1) := by decide +kernel
theorem dX5_append_42 : decode cX5_append 42 = .ok (.ireturn, 1) := by decide +kernel
theorem dX5_letterAt_0 : decode cX5_letterAt 0 = .ok (.iload_n 1, 1) := by decide +kernel
theorem dX5_letterAt_1 : decode cX5_letterAt 1 = .ok (.ifCond .lt 29, 3) := by decide +kernel
theorem dX5_letterAt_4 : decode cX5_letterAt 4 = .ok (.iload_n 1, 1) := by decide +kernel
theorem dX5_letterAt_5 : decode cX5_letterAt 5 = .ok (.aload_n 0, 1) := by decide +kernel
theorem dX5_letterAt_6 : decode cX5_letterAt 6 = .ok (.getfield 15, 3) := by decide +kernel
theorem dX5_letterAt_9 : decode cX5_letterAt 9 = .ok (.if_icmp .ge 21, 3) := by decide +kernel
theorem dX5_letterAt_12 : decode cX5_letterAt 12 = .ok (.iload_n 1, 1) := by decide +kernel
theorem dX5_letterAt_13 : decode cX5_letterAt 13 = .ok (.aload_n 0, 1) := by decide +kernel
theorem dX5_letterAt_14 : decode cX5_letterAt 14 = .ok (.getfield 9, 3) := by decide +kernel
theorem dX5_letterAt_17 : decode cX5_letterAt 17 = .ok (.arraylength, 1) := by decide +kernel
theorem dX5_letterAt_18 : decode cX5_letterAt 18 = .ok (.if_icmp .ge 12, 3) := by decide +kernel
theorem dX5_letterAt_21 : decode cX5_letterAt 21 = .ok (.aload_n 0, 1) := by decide +kernel
theorem dX5_letterAt_22 : decode cX5_letterAt 22 = .ok (.getfield 9, 3) := by decide +kernel
theorem dX5_letterAt_25 : decode cX5_letterAt 25 = .ok (.iload_n 1, 1) := by decide +kernel
theorem dX5_letterAt_26 : decode cX5_letterAt 26 = .ok (.iaload, 1) := by decide +kernel
theorem dX5_letterAt_27 : decode cX5_letterAt 27 = .ok (.goto 4, 3) := by decide +kernel
theorem dX5_letterAt_30 : decode cX5_letterAt 30 = .ok (.iconst 0, 1) := by decide +kernel
theorem dX5_letterAt_31 : decode cX5_letterAt 31 = .ok (.ireturn, 1) := by decide +kernel
theorem dX5_figureAt_0 : decode cX5_figureAt 0 = .ok (.aload_n 0, 1) := by decide +kernel
theorem dX5_figureAt_1 : decode cX5_figureAt 1 = .ok (.iload_n 1, 1) := by decide +kernel
theorem dX5_figureAt_2 : decode cX5_figureAt 2 = .ok (.invokevirtual 19, 3) := by decide +kernel
theorem dX5_figureAt_5 : decode cX5_figureAt 5 = .ok (.bipush 48, 2) := by decide +kernel
theorem dX5_figureAt_7 : decode cX5_figureAt 7 = .ok (.isub, 1) := by decide +kernel
theorem dX5_figureAt_8 : decode cX5_figureAt 8 = .ok (.ireturn, 1) := by decide +kernel
theorem dX5_firstFault_0 : decode cX5_firstFault 0 = .ok (.aload_n 0, 1) := by decide +kernel
theorem dX5_firstFault_1 : decode cX5_firstFault 1 = .ok (.iconst 0, 1) := by decide +kernel
theorem dX5_firstFault_2 : decode cX5_firstFault 2 = .ok (.invokevirtual 19, 3) := by decide +kernel
theorem dX5_firstFault_5 : decode cX5_firstFault 5 = .ok (.bipush 80, 2) := by decide +kernel
theorem dX5_firstFault_7 : decode cX5_firstFault 7 = .ok (.if_icmp .eq 5, 3) := by decide +kernel
theorem dX5_firstFault_10 : decode cX5_firstFault 10 = .ok (.iconst 0, 1) := by decide +kernel
theorem dX5_firstFault_11 : decode cX5_firstFault 11 = .ok (.ireturn, 1) := by decide +kernel
theorem dX5_firstFault_12 : decode cX5_firstFault 12 = .ok (.iconst 0, 1) := by decide +kernel
theorem dX5_firstFault_13 : decode cX5_firstFault 13 = .ok (.istore_n 1, 1) := by decide +kernel
theorem dX5_firstFault_14 : decode cX5_firstFault 14 = .ok (.iconst 0, 1) := by decide +kernel
theorem dX5_firstFault_15 : decode cX5_firstFault 15 = .ok (.istore_n 2, 1) := by decide +kernel
theorem dX5_firstFault_16 : decode cX5_firstFault 16 = .ok (.iconst 0, 1) := by decide +kernel
theorem dX5_firstFault_17 : decode cX5_firstFault 17 = .ok (.istore_n 3, 1) := by decide +kernel
theorem dX5_firstFault_18 : decode cX5_firstFault 18 = .ok (.iconst 0, 1) := by decide +kernel
theorem dX5_firstFault_19 : decode cX5_firstFault 19 = .ok (.istore 4, 2) := by decide +kernel
theorem dX5_firstFault_21 : decode cX5_firstFault 21 = .ok (.iconst 0, 1) := by decide +kernel
theorem dX5_firstFault_22 : decode cX5_firstFault 22 = .ok (.istore 5, 2) := by decide +kernel
theorem dX5_firstFault_24 : decode cX5_firstFault 24 = .ok (.iconst 1, 1) := by decide +kernel
theorem dX5_firstFault_25 : decode cX5_firstFault 25 = .ok (.istore 6, 2) := by decide +kernel
theorem dX5_firstFault_27 : decode cX5_firstFault 27 = .ok (.iload 6, 2) := by decide +kernel
theorem dX5_firstFault_29 : decode cX5_firstFault 29 = .ok (.aload_n 0, 1) := by decide +kernel
theorem dX5_firstFault_30 : decode cX5_firstFault 30 = .ok (.getfield 15, 3) := by decide +kernel
theorem dX5_firstFault_33 : decode cX5_firstFault 33 = .ok (.if_icmp .ge 142, 3) := by decide +kernel
theorem dX5_firstFault_36 : decode cX5_firstFault 36 = .ok (.aload_n 0, 1) := by decide +kernel
theorem dX5_firstFault_37 : decode cX5_firstFault 37 = .ok (.iload 6, 2) := by decide +kernel
theorem dX5_firstFault_39 : decode cX5_firstFault 39 = .ok (.invokevirtual 19, 3) := by decide +kernel
theorem dX5_firstFault_42 : decode cX5_firstFault 42 = .ok (.istore 7, 2) := by decide +kernel
theorem dX5_firstFault_44 : decode cX5_firstFault 44 = .ok (.iload_n 1, 1) := by decide +kernel
theorem dX5_firstFault_45 : decode cX5_firstFault 45 = .ok (.ifCond .eq 39, 3) := by decide +kernel
theorem dX5_firstFault_48 : decode cX5_firstFault 48 = .ok (.iload_n 1, 1) := by decide +kernel
theorem dX5_firstFault_49 : decode cX5_firstFault 49 = .ok (.iload_n 2, 1) := by decide +kernel
theorem dX5_firstFault_50 : decode cX5_firstFault 50 = .ok (.iload 7, 2) := by decide +kernel
theorem dX5_firstFault_52 : decode cX5_firstFault 52 = .ok (.invokestatic 23, 3) := by decide +kernel
theorem dX5_firstFault_55 : decode cX5_firstFault 55 = .ok (.ifCond .ne 6, 3) := by decide +kernel
theorem dX5_firstFault_58 : decode cX5_firstFault 58 = .ok (.iload 6, 2) := by decide +kernel
theorem dX5_firstFault_60 : decode cX5_firstFault 60 = .ok (.ireturn, 1) := by decide +kernel
theorem dX5_firstFault_61 : decode cX5_firstFault 61 = .ok (.iinc 2 1, 3) := by decide +kernel
theorem dX5_firstFault_64 : decode cX5_firstFault 64 = .ok (.iload_n 2, 1) := by decide +kernel
theorem dX5_firstFault_65 : decode cX5_firstFault 65 = .ok (.iload_n 1, 1) := by decide +kernel
theorem dX5_firstFault_66 : decode cX5_firstFault 66 = .ok (.invokestatic 27, 3) := by decide +kernel
theorem dX5_firstFault_69 : decode cX5_firstFault 69 = .ok (.invokevirtual 31, 3) := by decide +kernel
theorem dX5_firstFault_72 : decode cX5_firstFault 72 = .ok (.if_icmp .ge 7, 3) := by decide +kernel
theorem dX5_firstFault_75 : decode cX5_firstFault 75 = .ok (.iload_n 1, 1) := by decide +kernel
theorem dX5_firstFault_76 : decode cX5_firstFault 76 = .ok (.goto 4, 3) := by decide +kernel
theorem dX5_firstFault_79 : decode cX5_firstFault 79 = .ok (.iconst 0, 1) := by decide +kernel
theorem dX5_firstFault_80 : decode cX5_firstFault 80 = .ok (.istore_n 1, 1) := by decide +kernel
theorem dX5_firstFault_81 : decode cX5_firstFault 81 = .ok (.goto 88, 3) := by decide +kernel
theorem dX5_firstFault_84 : decode cX5_firstFault 84 = .ok (.iload_n 3, 1) := by decide +kernel
theorem dX5_firstFault_85 : decode cX5_firstFault 85 = .ok (.iload 7, 2) := by decide +kernel
theorem dX5_firstFault_87 : decode cX5_firstFault 87 = .ok (.bipush 87, 2) := by decide +kernel
theorem dX5_firstFault_89 : decode cX5_firstFault 89 = .ok (.if_icmp .ne 7, 3) := by decide +kernel
theorem dX5_firstFault_92 : decode cX5_firstFault 92 = .ok (.iconst 1, 1) := by decide +kernel
theorem dX5_firstFault_93 : decode cX5_firstFault 93 = .ok (.goto 4, 3) := by decide +kernel
theorem dX5_firstFault_96 : decode cX5_firstFault 96 = .ok (.iconst 0, 1) := by decide +kernel
theorem dX5_firstFault_97 : decode cX5_firstFault 97 = .ok (.iadd, 1) := by decide +kernel
theorem dX5_firstFault_98 : decode cX5_firstFault 98 = .ok (.istore_n 3, 1) := by decide +kernel
theorem dX5_firstFault_99 : decode cX5_firstFault 99 = .ok (.iload 4, 2) := by decide +kernel
theorem dX5_firstFault_101 : decode cX5_firstFault 101 = .ok (.iload 7, 2) := by decide +kernel
theorem dX5_firstFault_103 : decode cX5_firstFault 103 = .ok (.bipush 67, 2) := by decide +kernel
theorem dX5_firstFault_105 : decode cX5_firstFault 105 = .ok (.if_icmp .ne 7, 3) := by decide +kernel
theorem dX5_firstFault_108 : decode cX5_firstFault 108 = .ok (.iconst 1, 1) := by decide +kernel
theorem dX5_firstFault_109 : decode cX5_firstFault 109 = .ok (.goto 4, 3) := by decide +kernel
theorem dX5_firstFault_112 : decode cX5_firstFault 112 = .ok (.iconst 0, 1) := by decide +kernel
theorem dX5_firstFault_113 : decode cX5_firstFault 113 = .ok (.iadd, 1) := by decide +kernel
theorem dX5_firstFault_114 : decode cX5_firstFault 114 = .ok (.istore 4, 2) := by decide +kernel
theorem dX5_firstFault_116 : decode cX5_firstFault 116 = .ok (.iload 5, 2) := by decide +kernel
theorem dX5_firstFault_118 : decode cX5_firstFault 118 = .ok (.iload 7, 2) := by decide +kernel
theorem dX5_firstFault_120 : decode cX5_firstFault 120 = .ok (.bipush 83, 2) := by decide +kernel
theorem dX5_firstFault_122 : decode cX5_firstFault 122 = .ok (.if_icmp .ne 7, 3) := by decide +kernel
theorem dX5_firstFault_125 : decode cX5_firstFault 125 = .ok (.iconst 1, 1) := by decide +kernel
theorem dX5_firstFault_126 : decode cX5_firstFault 126 = .ok (.goto 4, 3) := by decide +kernel
theorem dX5_firstFault_129 : decode cX5_firstFault 129 = .ok (.iconst 0, 1) := by decide +kernel
theorem dX5_firstFault_130 : decode cX5_firstFault 130 = .ok (.iadd, 1) := by decide +kernel
theorem dX5_firstFault_131 : decode cX5_firstFault 131 = .ok (.istore 5, 2) := by decide +kernel
theorem dX5_firstFault_133 : decode cX5_firstFault 133 = .ok (.iload 7, 2) := by decide +kernel
theorem dX5_firstFault_135 : decode cX5_firstFault 135 = .ok (.invokestatic 27, 3) := by decide +kernel
theorem dX5_firstFault_138 : decode cX5_firstFault 138 = .ok (.invokevirtual 36, 3) := by decide +kernel
theorem dX5_firstFault_141 : decode cX5_firstFault 141 = .ok (.ifCond .ne 20, 3) := by decide +kernel
theorem dX5_firstFault_144 : decode cX5_firstFault 144 = .ok (.iload_n 3, 1) := by decide +kernel
theorem dX5_firstFault_145 : decode cX5_firstFault 145 = .ok (.iconst 4, 1) := by decide +kernel
theorem dX5_firstFault_146 : decode cX5_firstFault 146 = .ok (.if_icmp .gt 15, 3) := by decide +kernel
theorem dX5_firstFault_149 : decode cX5_firstFault 149 = .ok (.iload 4, 2) := by decide +kernel
theorem dX5_firstFault_151 : decode cX5_firstFault 151 = .ok (.iconst 4, 1) := by decide +kernel
theorem dX5_firstFault_152 : decode cX5_firstFault 152 = .ok (.if_icmp .gt 9, 3) := by decide +kernel
theorem dX5_firstFault_155 : decode cX5_firstFault 155 = .ok (.iload 5, 2) := by decide +kernel
theorem dX5_firstFault_157 : decode cX5_firstFault 157 = .ok (.iconst 5, 1) := by decide +kernel
theorem dX5_firstFault_158 : decode cX5_firstFault 158 = .ok (.if_icmp .le 6, 3) := by decide +kernel
theorem dX5_firstFault_161 : decode cX5_firstFault 161 = .ok (.iload 6, 2) := by decide +kernel
theorem dX5_firstFault_163 : decode cX5_firstFault 163 = .ok (.ireturn, 1) := by decide +kernel
theorem dX5_firstFault_164 : decode cX5_firstFault 164 = .ok (.iload 7, 2) := by decide +kernel
theorem dX5_firstFault_166 : decode cX5_firstFault 166 = .ok (.istore_n 1, 1) := by decide +kernel
theorem dX5_firstFault_167 : decode cX5_firstFault 167 = .ok (.iconst 0, 1) := by decide +kernel
theorem dX5_firstFault_168 : decode cX5_firstFault 168 = .ok (.istore_n 2, 1) := by decide +kernel
theorem dX5_firstFault_169 : decode cX5_firstFault 169 = .ok (.iinc 6 1, 3) := by decide +kernel
theorem dX5_firstFault_172 : decode cX5_firstFault 172 = .ok (.goto (-145), 3) := by decide +kernel
theorem dX5_firstFault_175 : decode cX5_firstFault 175 = .ok (.iload_n 1, 1) := by decide +kernel
theorem dX5_firstFault_176 : decode cX5_firstFault 176 = .ok (.ifCond .ne 8, 3) := by decide +kernel
theorem dX5_firstFault_179 : decode cX5_firstFault 179 = .ok (.bipush (-9), 2) := by decide +kernel
theorem dX5_firstFault_181 : decode cX5_firstFault 181 = .ok (.goto 7, 3) := by decide +kernel
theorem dX5_firstFault_184 : decode cX5_firstFault 184 = .ok (.aload_n 0, 1) := by decide +kernel
theorem dX5_firstFault_185 : decode cX5_firstFault 185 = .ok (.getfield 15, 3) := by decide +kernel
theorem dX5_firstFault_188 : decode cX5_firstFault 188 = .ok (.ireturn, 1) := by decide +kernel
theorem dX5_fits_0 : decode cX5_fits 0 = .ok (.iload_n 0, 1) := by decide +kernel
theorem dX5_fits_1 : decode cX5_fits 1 = .ok (.invokestatic 27, 3) := by decide +kernel
theorem dX5_fits_4 : decode cX5_fits 4 = .ok (.astore_n 3, 1) := by decide +kernel
theorem dX5_fits_5 : decode cX5_fits 5 = .ok (.iload_n 0, 1) := by decide +kernel
theorem dX5_fits_6 : decode cX5_fits 6 = .ok (.invokestatic 40, 3) := by decide +kernel
theorem dX5_fits_9 : decode cX5_fits 9 = .ok (.astore 4, 2) := by decide +kernel
theorem dX5_fits_11 : decode cX5_fits 11 = .ok (.iload_n 1, 1) := by decide +kernel
theorem dX5_fits_12 : decode cX5_fits 12 = .ok (.ifCond .lt 20, 3) := by decide +kernel
theorem dX5_fits_15 : decode cX5_fits 15 = .ok (.iload_n 1, 1) := by decide +kernel
theorem dX5_fits_16 : decode cX5_fits 16 = .ok (.aload_n 3, 1) := by decide +kernel
theorem dX5_fits_17 : decode cX5_fits 17 = .ok (.invokevirtual 31, 3) := by decide +kernel
theorem dX5_fits_20 : decode cX5_fits 20 = .ok (.if_icmp .ge 12, 3) := by decide +kernel
theorem dX5_fits_23 : decode cX5_fits 23 = .ok (.iload_n 1, 1) := by decide +kernel
theorem dX5_fits_24 : decode cX5_fits 24 = .ok (.aload 4, 2) := by decide +kernel
theorem dX5_fits_26 : decode cX5_fits 26 = .ok (.invokevirtual 31, 3) := by decide +kernel
theorem dX5_fits_29 : decode cX5_fits 29 = .ok (.if_icmp .lt 5, 3) := by decide +kernel
theorem dX5_fits_32 : decode cX5_fits 32 = .ok (.iconst 0, 1) := by decide +kernel
theorem dX5_fits_33 : decode cX5_fits 33 = .ok (.ireturn, 1) := by decide +kernel
theorem dX5_fits_34 : decode cX5_fits 34 = .ok (.iload_n 2, 1) := by decide +kernel
theorem dX5_fits_35 : decode cX5_fits 35 = .ok (.aload_n 3, 1) := by decide +kernel
theorem dX5_fits_36 : decode cX5_fits 36 = .ok (.iload_n 1, 1) := by decide +kernel
theorem dX5_fits_37 : decode cX5_fits 37 = .ok (.invokevirtual 43, 3) := by decide +kernel
theorem dX5_fits_40 : decode cX5_fits 40 = .ok (.if_icmp .lt 17, 3) := by decide +kernel
theorem dX5_fits_43 : decode cX5_fits 43 = .ok (.iload_n 2, 1) := by decide +kernel
theorem dX5_fits_44 : decode cX5_fits 44 = .ok (.aload 4, 2) := by decide +kernel
theorem dX5_fits_46 : decode cX5_fits 46 = .ok (.iload_n 1, 1) := by decide +kernel
theorem dX5_fits_47 : decode cX5_fits 47 = .ok (.invokevirtual 43, 3) := by decide +kernel
theorem dX5_fits_50 : decode cX5_fits 50 = .ok (.if_icmp .gt 7, 3) := by decide +kernel
theorem dX5_fits_53 : decode cX5_fits 53 = .ok (.iconst 1, 1) := by decide +kernel
theorem dX5_fits_54 : decode cX5_fits 54 = .ok (.goto 4, 3) := by decide +kernel
theorem dX5_fits_57 : decode cX5_fits 57 = .ok (.iconst 0, 1) := by decide +kernel
theorem dX5_fits_58 : decode cX5_fits 58 = .ok (.ireturn, 1) := by decide +kernel
theorem dX5_lowest_0 : decode cX5_lowest 0 = .ok (.iload_n 0, 1) := by decide +kernel
theorem dX5_lowest_1 : decode cX5_lowest 1 = .ok (.lookupswitch 44 #[(67, 38), (83, 41), (87, 35)], 35) := by decide +kernel
theorem dX5_lowest_36 : decode cX5_lowest 36 = .ok (.ldc 47, 2) := by decide +kernel
theorem dX5_lowest_38 : decode cX5_lowest 38 = .ok (.areturn, 1) := by decide +kernel
theorem dX5_lowest_39 : decode cX5_lowest 39 = .ok (.ldc 49, 2) := by decide +kernel
theorem dX5_lowest_41 : decode cX5_lowest 41 = .ok (.areturn, 1) := by decide +kernel
theorem dX5_lowest_42 : decode cX5_lowest 42 = .ok (.ldc 51, 2) := by decide +kernel
theorem dX5_lowest_44 : decode cX5_lowest 44 = .ok (.areturn, 1) := by decide +kernel
theorem dX5_lowest_45 : decode cX5_lowest 45 = .ok (.ldc 53, 2) := by decide +kernel
theorem dX5_lowest_47 : decode cX5_lowest 47 = .ok (.areturn, 1) := by decide +kernel
theorem dX5_highest_0 : decode cX5_highest 0 = .ok (.iload_n 0, 1) := by decide +kernel
theorem dX5_highest_1 : decode cX5_highest 1 = .ok (.lookupswitch 44 #[(67, 38), (83, 41), (87, 35)], 35) := by decide +kernel
theorem dX5_highest_36 : decode cX5_highest 36 = .ok (.ldc 55, 2) := by decide +kernel
theorem dX5_highest_38 : decode cX5_highest 38 = .ok (.areturn, 1) := by decide +kernel
theorem dX5_highest_39 : decode cX5_highest 39 = .ok (.ldc 57, 2) := by decide +kernel
theorem dX5_highest_41 : decode cX5_highest 41 = .ok (.areturn, 1) := by decide +kernel
theorem dX5_highest_42 : decode cX5_highest 42 = .ok (.ldc 59, 2) := by decide +kernel
theorem dX5_highest_44 : decode cX5_highest 44 = .ok (.areturn, 1) := by decide +kernel
theorem dX5_highest_45 : decode cX5_highest 45 = .ok (.ldc 53, 2) := by decide +kernel
theorem dX5_highest_47 : decode cX5_highest 47 = .ok (.areturn, 1) := by decide +kernel
theorem dX6_init_0 : decode cX6_init 0 = .ok (.aload_n 0, 1) := by decide +kernel
theorem dX6_init_1 : decode cX6_init 1 = .ok (.invokespecial 3, 3) := by decide +kernel
theorem dX6_init_4 : decode cX6_init 4 = .ok (.aload_n 0, 1) := by decide +kernel
theorem dX6_init_5 : decode cX6_init 5 = .ok (.iconst 4, 1) := by decide +kernel
theorem dX6_init_6 : decode cX6_init 6 = .ok (.newarray .int, 2) := by decide +kernel
theorem dX6_init_8 : decode cX6_init 8 = .ok (.putfield 9, 3) := by decide +kernel
theorem dX6_init_11 : decode cX6_init 11 = .ok (.aload_n 0, 1) := by decide +kernel
theorem dX6_init_12 : decode cX6_init 12 = .ok (.iconst 4, 1) := by decide +kernel
theorem dX6_init_13 : decode cX6_init 13 = .ok (.newarray .int, 2) := by decide +kernel
theorem dX6_init_15 : decode cX6_init 15 = .ok (.putfield 15, 3) := by decide +kernel
theorem dX6_init_18 : decode cX6_init 18 = .ok (.aload_n 0, 1) := by decide +kernel
theorem dX6_init_19 : decode cX6_init 19 = .ok (.iconst 5, 1) := by decide +kernel
theorem dX6_init_20 : decode cX6_init 20 = .ok (.newarray .int, 2) := by decide +kernel
theorem dX6_init_22 : decode cX6_init 22 = .ok (.putfield 18, 3) := by decide +kernel
theorem dX6_init_25 : decode cX6_init 25 = .ok (.aload_n 0, 1) := by decide +kernel
theorem dX6_init_26 : decode cX6_init 26 = .ok (.iconst 4, 1) := by decide +kernel
theorem dX6_init_27 : decode cX6_init 27 = .ok (.bipush 6, 2) := by decide +kernel
theorem dX6_init_29 : decode cX6_init 29 = .ok (.multianewarray 21 2, 4) := by decide +kernel
theorem dX6_init_33 : decode cX6_init 33 = .ok (.putfield 23, 3) := by decide +kernel
theorem dX6_init_36 : decode cX6_init 36 = .ok (.aload_n 0, 1) := by decide +kernel
theorem dX6_init_37 : decode cX6_init 37 = .ok (.iconst 0, 1) := by decide +kernel
theorem dX6_init_38 : decode cX6_init 38 = .ok (.putfield 26, 3) := by decide +kernel
theorem dX6_init_41 : decode cX6_init 41 = .ok (.aload_n 0, 1) := by decide +kernel
theorem dX6_init_42 : decode cX6_init 42 = .ok (.iconst 0, 1) := by decide +kernel
theorem dX6_init_43 : decode cX6_init 43 = .ok (.putfield 30, 3) := by decide +kernel
theorem dX6_init_46 : decode cX6_init 46 = .ok (.return_, 1) := by decide +kernel
theorem dX6_look_0 : decode cX6_look 0 = .ok (.aload_n 0, 1) := by decide +kernel
theorem dX6_look_1 : decode cX6_look 1 = .ok (.aload_n 2, 1) := by decide +kernel
theorem dX6_look_2 : decode cX6_look 2 = .ok (.getfield 33, 3) := by decide +kernel
theorem dX6_look_5 : decode cX6_look 5 = .ok (.iconst 4, 1) := by decide +kernel
theorem dX6_look_6 : decode cX6_look 6 = .ok (.invokestatic 36, 3) := by decide +kernel
theorem dX6_look_9 : decode cX6_look 9 = .ok (.putfield 26, 3) := by decide +kernel
theorem dX6_look_12 : decode cX6_look 12 = .ok (.aload_n 0, 1) := by decide +kernel
theorem dX6_look_13 : decode cX6_look 13 = .ok (.aload_n 2, 1) := by decide +kernel
theorem dX6_look_14 : decode cX6_look 14 = .ok (.getfield 42, 3) := by decide +kernel
theorem dX6_look_17 : decode cX6_look 17 = .ok (.iconst 5, 1) := by decide +kernel
theorem dX6_look_18 : decode cX6_look 18 = .ok (.invokestatic 36, 3) := by decide +kernel
theorem dX6_look_21 : decode cX6_look 21 = .ok (.putfield 30, 3) := by decide +kernel
theorem dX6_look_24 : decode cX6_look 24 = .ok (.iconst 0, 1) := by decide +kernel
theorem dX6_look_25 : decode cX6_look 25 = .ok (.istore_n 3, 1) := by decide +kernel
theorem dX6_look_26 : decode cX6_look 26 = .ok (.iload_n 3, 1) := by decide +kernel
theorem dX6_look_27 : decode cX6_look 27 = .ok (.aload_n 0, 1) := by decide +kernel
theorem dX6_look_28 : decode cX6_look 28 = .ok (.getfield 26, 3) := by decide +kernel
theorem dX6_look_31 : decode cX6_look 31 = .ok (.if_icmp .ge 37, 3) := by decide +kernel
theorem dX6_look_34 : decode cX6_look 34 = .ok (.aload_n 0, 1) := by decide +kernel
theorem dX6_look_35 : decode cX6_look 35 = .ok (.getfield 9, 3) := by decide +kernel
theorem dX6_look_38 : decode cX6_look 38 = .ok (.iload_n 3, 1) := by decide +kernel
theorem dX6_look_39 : decode cX6_look 39 = .ok (.aload_n 1, 1) := by decide +kernel
theorem dX6_look_40 : decode cX6_look 40 = .ok (.iload_n 3, 1) := by decide +kernel
theorem dX6_look_41 : decode cX6_look 41 = .ok (.invokevirtual 43, 3) := by decide +kernel
theorem dX6_look_44 : decode cX6_look 44 = .ok (.iastore, 1) := by decide +kernel
theorem dX6_look_45 : decode cX6_look 45 = .ok (.aload_n 0, 1) := by decide +kernel
theorem dX6_look_46 : decode cX6_look 46 = .ok (.getfield 15, 3) := by decide +kernel
theorem dX6_look_49 : decode cX6_look 49 = .ok (.iload_n 3, 1) := by decide +kernel
theorem dX6_look_50 : decode cX6_look 50 = .ok (.aload_n 1, 1) := by decide +kernel
theorem dX6_look_51 : decode cX6_look 51 = .ok (.iload_n 3, 1) := by decide +kernel
theorem dX6_look_52 : decode cX6_look 52 = .ok (.aload_n 1, 1) := by decide +kernel
theorem dX6_look_53 : decode cX6_look 53 = .ok (.getfield 48, 3) := by decide +kernel
theorem dX6_look_56 : decode cX6_look 56 = .ok (.iload_n 3, 1) := by decide +kernel
theorem dX6_look_57 : decode cX6_look 57 = .ok (.iaload, 1) := by decide +kernel
theorem dX6_look_58 : decode cX6_look 58 = .ok (.invokevirtual 51, 3) := by decide +kernel
theorem dX6_look_61 : decode cX6_look 61 = .ok (.iastore, 1) := by decide +kernel
theorem dX6_look_62 : decode cX6_look 62 = .ok (.iinc 3 1, 3) := by decide +kernel
theorem dX6_look_65 : decode cX6_look 65 = .ok (.goto (-39), 3) := by decide +kernel
theorem dX6_look_68 : decode cX6_look 68 = .ok (.iconst 0, 1) := by decide +kernel
theorem dX6_look_69 : decode cX6_look 69 = .ok (.istore_n 3, 1) := by decide +kernel
theorem dX6_look_70 : decode cX6_look 70 = .ok (.iload_n 3, 1) := by decide +kernel
theorem dX6_look_71 : decode cX6_look 71 = .ok (.aload_n 0, 1) := by decide +kernel
theorem dX6_look_72 : decode cX6_look 72 = .ok (.getfield 30, 3) := by decide +kernel
theorem dX6_look_75 : decode cX6_look 75 = .ok (.if_icmp .ge 20, 3) := by decide +kernel
theorem dX6_look_78 : decode cX6_look 78 = .ok (.aload_n 0, 1) := by decide +kernel
theorem dX6_look_79 : decode cX6_look 79 = .ok (.getfield 18, 3) := by decide +kernel
theorem dX6_look_82 : decode cX6_look 82 = .ok (.iload_n 3, 1) := by decide +kernel
theorem dX6_look_83 : decode cX6_look 83 = .ok (.aload_n 1, 1) := by decide +kernel
theorem dX6_look_84 : decode cX6_look 84 = .ok (.iload_n 3, 1) := by decide +kernel
theorem dX6_look_85 : decode cX6_look 85 = .ok (.invokevirtual 54, 3) := by decide +kernel
theorem dX6_look_88 : decode cX6_look 88 = .ok (.iastore, 1) := by decide +kernel
theorem dX6_look_89 : decode cX6_look 89 = .ok (.iinc 3 1, 3) := by decide +kernel
theorem dX6_look_92 : decode cX6_look 92 = .ok (.goto (-22), 3) := by decide +kernel
theorem dX6_look_95 : decode cX6_look 95 = .ok (.return_, 1) := by decide +kernel
theorem dX6_lookAround_0 : decode cX6_lookAround 0 = .ok (.iconst 0, 1) := by decide +kernel
theorem dX6_lookAround_1 : decode cX6_lookAround 1 = .ok (.istore_n 2, 1) := by decide +kernel
theorem dX6_lookAround_2 : decode cX6_lookAround 2 = .ok (.iload_n 2, 1) := by decide +kernel
theorem dX6_lookAround_3 : decode cX6_lookAround 3 = .ok (.aload_n 0, 1) := by decide +kernel
theorem dX6_lookAround_4 : decode cX6_lookAround 4 = .ok (.getfield 26, 3) := by decide +kernel
theorem dX6_lookAround_7 : decode cX6_lookAround 7 = .ok (.if_icmp .ge 37, 3) := by decide +kernel
theorem dX6_lookAround_10 : decode cX6_lookAround 10 = .ok (.iconst 0, 1) := by decide +kernel
theorem dX6_lookAround_11 : decode cX6_lookAround 11 = .ok (.istore_n 3, 1) := by decide +kernel
theorem dX6_lookAround_12 : decode cX6_lookAround 12 = .ok (.iload_n 3, 1) := by decide +kernel
theorem dX6_lookAround_13 : decode cX6_lookAround 13 = .ok (.bipush 6, 2) := by decide +kernel
theorem dX6_lookAround_15 : decode cX6_lookAround 15 = .ok (.if_icmp .ge 23, 3) := by decide +kernel
theorem dX6_lookAround_18 : decode cX6_lookAround 18 = .ok (.aload_n 0, 1) := by decide +kernel
theorem dX6_lookAround_19 : decode cX6_lookAround 19 = .ok (.getfield 23, 3) := by decide +kernel
theorem dX6_lookAround_22 : decode cX6_lookAround 22 = .ok (.iload_n 2, 1) := by decide +kernel
theorem dX6_lookAround_23 : decode cX6_lookAround 23 = .ok (.aaload, 1) := by decide +kernel
theorem dX6_lookAround_24 : decode cX6_lookAround 24 = .ok (.iload_n 3, 1) := by decide +kernel
theorem dX6_lookAround_25 : decode cX6_lookAround 25 = .ok (.aload_n 1, 1) := by decide +kernel
theorem dX6_lookAround_26 : decode cX6_lookAround 26 = .ok (.iload_n 2, 1) := by decide +kernel
theorem dX6_lookAround_27 : decode cX6_lookAround 27 = .ok (.iload_n 3, 1) := by decide +kernel
theorem dX6_lookAround_28 : decode cX6_lookAround 28 = .ok (.invokevirtual 51, 3) := by decide +kernel
theorem dX6_lookAround_31 : decode cX6_lookAround 31 = .ok (.iastore, 1) := by decide +kernel
theorem dX6_lookAround_32 : decode cX6_lookAround 32 = .ok (.iinc 3 1, 3) := by decide +kernel
theorem dX6_lookAround_35 : decode cX6_lookAround 35 = .ok (.goto (-23), 3) := by decide +kernel
theorem dX6_lookAround_38 : decode cX6_lookAround 38 = .ok (.iinc 2 1, 3) := by decide +kernel
theorem dX6_lookAround_41 : decode cX6_lookAround 41 = .ok (.goto (-39), 3) := by decide +kernel
theorem dX6_lookAround_44 : decode cX6_lookAround 44 = .ok (.return_, 1) := by decide +kernel
theorem dX6_everyone_0 : decode cX6_everyone 0 = .ok (.iconst 1, 1) := by decide +kernel
theorem dX6_everyone_1 : decode cX6_everyone 1 = .ok (.aload_n 0, 1) := by decide +kernel
theorem dX6_everyone_2 : decode cX6_everyone 2 = .ok (.getfield 26, 3) := by decide +kernel
theorem dX6_everyone_5 : decode cX6_everyone 5 = .ok (.ishl, 1) := by decide +kernel
theorem dX6_everyone_6 : decode cX6_everyone 6 = .ok (.iconst 1, 1) := by decide +kernel
theorem dX6_everyone_7 : decode cX6_everyone 7 = .ok (.isub, 1) := by decide +kernel
theorem dX6_everyone_8 : decode cX6_everyone 8 = .ok (.ireturn, 1) := by decide +kernel
theorem dX6_owedBy_0 : decode cX6_owedBy 0 = .ok (.iconst 0, 1) := by decide +kernel
theorem dX6_owedBy_1 : decode cX6_owedBy 1 = .ok (.istore_n 2, 1) := by decide +kernel
theorem dX6_owedBy_2 : decode cX6_owedBy 2 = .ok (.iconst 0, 1) := by decide +kernel
theorem dX6_owedBy_3 : decode cX6_owedBy 3 = .ok (.istore_n 3, 1) := by decide +kernel
theorem dX6_owedBy_4 : decode cX6_owedBy 4 = .ok (.iload_n 3, 1) := by decide +kernel
theorem dX6_owedBy_5 : decode cX6_owedBy 5 = .ok (.aload_n 0, 1) := by decide +kernel
theorem dX6_owedBy_6 : decode cX6_owedBy 6 = .ok (.getfield 30, 3) := by decide +kernel
theorem dX6_owedBy_9 : decode cX6_owedBy 9 = .ok (.if_icmp .ge 30, 3) := by decide +kernel
theorem dX6_owedBy_12 : decode cX6_owedBy 12 = .ok (.iload_n 2, 1) := by decide +kernel
theorem dX6_owedBy_13 : decode cX6_owedBy 13 = .ok (.iload_n 1, 1) := by decide +kernel
theorem dX6_owedBy_14 : decode cX6_owedBy 14 = .ok (.iload_n 3, 1) := by decide +kernel
theorem dX6_owedBy_15 : decode cX6_owedBy 15 = .ok (.ishr, 1) := by decide +kernel
theorem dX6_owedBy_16 : decode cX6_owedBy 16 = .ok (.iconst 1, 1) := by decide +kernel
theorem dX6_owedBy_17 : decode cX6_owedBy 17 = .ok (.iand, 1) := by decide +kernel
theorem dX6_owedBy_18 : decode cX6_owedBy 18 = .ok (.ifCond .eq 12, 3) := by decide +kernel
theorem dX6_owedBy_21 : decode cX6_owedBy 21 = .ok (.aload_n 0, 1) := by decide +kernel
theorem dX6_owedBy_22 : decode cX6_owedBy 22 = .ok (.getfield 18, 3) := by decide +kernel
theorem dX6_owedBy_25 : decode cX6_owedBy 25 = .ok (.iload_n 3, 1) := by decide +kernel
theorem dX6_owedBy_26 : decode cX6_owedBy 26 = .ok (.iaload, 1) := by decide +kernel
theorem dX6_owedBy_27 : decode cX6_owedBy 27 = .ok (.goto 4, 3) := by decide +kernel
theorem dX6_owedBy_30 : decode cX6_owedBy 30 = .ok (.iconst 0, 1) := by decide +kernel
theorem dX6_owedBy_31 : decode cX6_owedBy 31 = .ok (.iadd, 1) := by decide +kernel
theorem dX6_owedBy_32 : decode cX6_owedBy 32 = .ok (.istore_n 2, 1) := by decide +kernel
theorem dX6_owedBy_33 : decode cX6_owedBy 33 = .ok (.iinc 3 1, 3) := by decide +kernel
theorem dX6_owedBy_36 : decode cX6_owedBy 36 = .ok (.goto (-32), 3) := by decide +kernel
theorem dX6_owedBy_39 : decode cX6_owedBy 39 = .ok (.iload_n 2, 1) := by decide +kernel
theorem dX6_owedBy_40 : decode cX6_owedBy 40 = .ok (.ireturn, 1) := by decide +kernel
theorem dX6_fillable_0 : decode cX6_fillable 0 = .ok (.aload_n 0, 1) := by decide +kernel
theorem dX6_fillable_1 : decode cX6_fillable 1 = .ok (.iconst 1, 1) := by decide +kernel
theorem dX6_fillable_2 : decode cX6_fillable 2 = .ok (.aload_n 0, 1) := by decide +kernel
theorem dX6_fillable_3 : decode cX6_fillable 3 = .ok (.getfield 30, 3) := by decide +kernel
theorem dX6_fillable_6 : decode cX6_fillable 6 = .ok (.ishl, 1) := by decide +kernel
theorem dX6_fillable_7 : decode cX6_fillable 7 = .ok (.iconst 1, 1) := by decide +kernel
theorem dX6_fillable_8 : decode cX6_fillable 8 = .ok (.isub, 1) := by decide +kernel
theorem dX6_fillable_9 : decode cX6_fillable 9 = .ok (.invokevirtual 56, 3) := by decide +kernel
theorem dX6_fillable_12 : decode cX6_fillable 12 = .ok (.istore_n 2, 1) := by decide +kernel
theorem dX6_fillable_13 : decode cX6_fillable 13 = .ok (.iconst 0, 1) := by decide +kernel
theorem dX6_fillable_14 : decode cX6_fillable 14 = .ok (.istore_n 3, 1) := by decide +kernel
theorem dX6_fillable_15 : decode cX6_fillable 15 = .ok (.iload_n 3, 1) := by decide +kernel
theorem dX6_fillable_16 : decode cX6_fillable 16 = .ok (.iconst 1, 1) := by decide +kernel
theorem dX6_fillable_17 : decode cX6_fillable 17 = .ok (.aload_n 0, 1) := by decide +kernel
theorem dX6_fillable_18 : decode cX6_fillable 18 = .ok (.getfield 26, 3) := by decide +kernel
theorem dX6_fillable_21 : decode cX6_fillable 21 = .ok (.ishl, 1) := by decide +kernel
theorem dX6_fillable_22 : decode cX6_fillable 22 = .ok (.if_icmp .ge 28, 3) := by decide +kernel
theorem dX6_fillable_25 : decode cX6_fillable 25 = .ok (.iload_n 3, 1) := by decide +kernel
theorem dX6_fillable_26 : decode cX6_fillable 26 = .ok (.iload_n 1, 1) := by decide +kernel
theorem dX6_fillable_27 : decode cX6_fillable 27 = .ok (.iconst (-1), 1) := by decide +kernel
theorem dX6_fillable_28 : decode cX6_fillable 28 = .ok (.ixor, 1) := by decide +kernel
theorem dX6_fillable_29 : decode cX6_fillable 29 = .ok (.iand, 1) := by decide +kernel
theorem dX6_fillable_30 : decode cX6_fillable 30 = .ok (.ifCond .ne 14, 3) := by decide +kernel
theorem dX6_fillable_33 : decode cX6_fillable 33 = .ok (.iload_n 2, 1) := by decide +kernel
theorem dX6_fillable_34 : decode cX6_fillable 34 = .ok (.aload_n 0, 1) := by decide +kernel
theorem dX6_fillable_35 : decode cX6_fillable 35 = .ok (.iload_n 3, 1) := by decide +kernel
theorem dX6_fillable_36 : decode cX6_fillable 36 = .ok (.iload_n 1, 1) := by decide +kernel
theorem dX6_fillable_37 : decode cX6_fillable 37 = .ok (.invokevirtual 59, 3) := by decide +kernel
theorem dX6_fillable_40 : decode cX6_fillable 40 = .ok (.invokestatic 36, 3) := by decide +kernel
theorem dX6_fillable_43 : decode cX6_fillable 43 = .ok (.istore_n 2, 1) := by decide +kernel
theorem dX6_fillable_44 : decode cX6_fillable 44 = .ok (.iinc 3 1, 3) := by decide +kernel
theorem dX6_fillable_47 : decode cX6_fillable 47 = .ok (.goto (-32), 3) := by decide +kernel
theorem dX6_fillable_50 : decode cX6_fillable 50 = .ok (.iload_n 2, 1) := by decide +kernel
theorem dX6_fillable_51 : decode cX6_fillable 51 = .ok (.ireturn, 1) := by decide +kernel
theorem dX6_cut_0 : decode cX6_cut 0 = .ok (.iconst 0, 1) := by decide +kernel
theorem dX6_cut_1 : decode cX6_cut 1 = .ok (.istore_n 3, 1) := by decide +kernel
theorem dX6_cut_2 : decode cX6_cut 2 = .ok (.iconst 0, 1) := by decide +kernel
theorem dX6_cut_3 : decode cX6_cut 3 = .ok (.istore 4, 2) := by decide +kernel
theorem dX6_cut_5 : decode cX6_cut 5 = .ok (.iconst 0, 1) := by decide +kernel
theorem dX6_cut_6 : decode cX6_cut 6 = .ok (.istore 5, 2) := by decide +kernel
theorem dX6_cut_8 : decode cX6_cut 8 = .ok (.iload 5, 2) := by decide +kernel
theorem dX6_cut_10 : decode cX6_cut 10 = .ok (.aload_n 0, 1) := by decide +kernel
theorem dX6_cut_11 : decode cX6_cut 11 = .ok (.getfield 26, 3) := by decide +kernel
theorem dX6_cut_14 : decode cX6_cut 14 = .ok (.if_icmp .ge 52, 3) := by decide +kernel
theorem dX6_cut_17 : decode cX6_cut 17 = .ok (.iload_n 1, 1) := by decide +kernel
theorem dX6_cut_18 : decode cX6_cut 18 = .ok (.iload 5, 2) := by decide +kernel
theorem dX6_cut_20 : decode cX6_cut 20 = .ok (.ishr, 1) := by decide +kernel
theorem dX6_cut_21 : decode cX6_cut 21 = .ok (.iconst 1, 1) := by decide +kernel
theorem dX6_cut_22 : decode cX6_cut 22 = .ok (.iand, 1) := by decide +kernel
theorem dX6_cut_23 : decode cX6_cut 23 = .ok (.ifCond .eq 16, 3) := by decide +kernel
theorem dX6_cut_26 : decode cX6_cut 26 = .ok (.iload_n 3, 1) := by decide +kernel
theorem dX6_cut_27 : decode cX6_cut 27 = .ok (.aload_n 0, 1) := by decide +kernel
theorem dX6_cut_28 : decode cX6_cut 28 = .ok (.getfield 15, 3) := by decide +kernel
theorem dX6_cut_31 : decode cX6_cut 31 = .ok (.iload 5, 2) := by decide +kernel
theorem dX6_cut_33 : decode cX6_cut 33 = .ok (.iaload, 1) := by decide +kernel
theorem dX6_cut_34 : decode cX6_cut 34 = .ok (.ior, 1) := by decide +kernel
theorem dX6_cut_35 : decode cX6_cut 35 = .ok (.istore_n 3, 1) := by decide +kernel
theorem dX6_cut_36 : decode cX6_cut 36 = .ok (.goto 24, 3) := by decide +kernel
theorem dX6_cut_39 : decode cX6_cut 39 = .ok (.iload_n 2, 1) := by decide +kernel
theorem dX6_cut_40 : decode cX6_cut 40 = .ok (.iload 5, 2) := by decide +kernel
theorem dX6_cut_42 : decode cX6_cut 42 = .ok (.ishr, 1) := by decide +kernel
theorem dX6_cut_43 : decode cX6_cut 43 = .ok (.iconst 1, 1) := by decide +kernel
theorem dX6_cut_44 : decode cX6_cut 44 = .ok (.iand, 1) := by decide +kernel
theorem dX6_cut_45 : decode cX6_cut 45 = .ok (.ifCond .eq 15, 3) := by decide +kernel
theorem dX6_cut_48 : decode cX6_cut 48 = .ok (.iload 4, 2) := by decide +kernel
theorem dX6_cut_50 : decode cX6_cut 50 = .ok (.aload_n 0, 1) := by decide +kernel
theorem dX6_cut_51 : decode cX6_cut 51 = .ok (.getfield 9, 3) := by decide +kernel
theorem dX6_cut_54 : decode cX6_cut 54 = .ok (.iload 5, 2) := by decide +kernel
theorem dX6_cut_56 : decode cX6_cut 56 = .ok (.iaload, 1) := by decide +kernel
theorem dX6_cut_57 : decode cX6_cut 57 = .ok (.iadd, 1) := by decide +kernel
theorem dX6_cut_58 : decode cX6_cut 58 = .ok (.istore 4, 2) := by decide +kernel
theorem dX6_cut_60 : decode cX6_cut 60 = .ok (.iinc 5 1, 3) := by decide +kernel
theorem dX6_cut_63 : decode cX6_cut 63 = .ok (.goto (-55), 3) := by decide +kernel
theorem dX6_cut_66 : decode cX6_cut 66 = .ok (.iload 4, 2) := by decide +kernel
theorem dX6_cut_68 : decode cX6_cut 68 = .ok (.aload_n 0, 1) := by decide +kernel
theorem dX6_cut_69 : decode cX6_cut 69 = .ok (.iload_n 3, 1) := by decide +kernel
theorem dX6_cut_70 : decode cX6_cut 70 = .ok (.invokevirtual 56, 3) := by decide +kernel
theorem dX6_cut_73 : decode cX6_cut 73 = .ok (.iadd, 1) := by decide +kernel
theorem dX6_cut_74 : decode cX6_cut 74 = .ok (.ireturn, 1) := by decide +kernel
theorem dX6_shortOf_0 : decode cX6_shortOf 0 = .ok (.iload_n 1, 1) := by decide +kernel
theorem dX6_shortOf_1 : decode cX6_shortOf 1 = .ok (.ifCond .lt 11, 3) := by decide +kernel
theorem dX6_shortOf_4 : decode cX6_shortOf 4 = .ok (.iload_n 1, 1) := by decide +kernel
theorem dX6_shortOf_5 : decode cX6_shortOf 5 = .ok (.aload_n 0, 1) := by decide +kernel
theorem dX6_shortOf_6 : decode cX6_shortOf 6 = .ok (.getfield 30, 3) := by decide +kernel
theorem dX6_shortOf_9 : decode cX6_shortOf 9 = .ok (.if_icmp .lt 5, 3) := by decide +kernel
theorem dX6_shortOf_12 : decode cX6_shortOf 12 = .ok (.iconst 0, 1) := by decide +kernel
theorem dX6_shortOf_13 : decode cX6_shortOf 13 = .ok (.ireturn, 1) := by decide +kernel
theorem dX6_shortOf_14 : decode cX6_shortOf 14 = .ok (.iconst 0, 1) := by decide +kernel
theorem dX6_shortOf_15 : decode cX6_shortOf 15 = .ok (.istore_n 2, 1) := by decide +kernel
theorem dX6_shortOf_16 : decode cX6_shortOf 16 = .ok (.iconst 0, 1) := by decide +kernel
theorem dX6_shortOf_17 : decode cX6_shortOf 17 = .ok (.istore_n 3, 1) := by decide +kernel
theorem dX6_shortOf_18 : decode cX6_shortOf 18 = .ok (.iload_n 3, 1) := by decide +kernel
theorem dX6_shortOf_19 : decode cX6_shortOf 19 = .ok (.aload_n 0, 1) := by decide +kernel
theorem dX6_shortOf_20 : decode cX6_shortOf 20 = .ok (.getfield 26, 3) := by decide +kernel
theorem dX6_shortOf_23 : decode cX6_shortOf 23 = .ok (.if_icmp .ge 35, 3) := by decide +kernel
theorem dX6_shortOf_26 : decode cX6_shortOf 26 = .ok (.iload_n 2, 1) := by decide +kernel
theorem dX6_shortOf_27 : decode cX6_shortOf 27 = .ok (.aload_n 0, 1) := by decide +kernel
theorem dX6_shortOf_28 : decode cX6_shortOf 28 = .ok (.getfield 15, 3) := by decide +kernel
theorem dX6_shortOf_31 : decode cX6_shortOf 31 = .ok (.iload_n 3, 1) := by decide +kernel
theorem dX6_shortOf_32 : decode cX6_shortOf 32 = .ok (.iaload, 1) := by decide +kernel
theorem dX6_shortOf_33 : decode cX6_shortOf 33 = .ok (.iload_n 1, 1) := by decide +kernel
theorem dX6_shortOf_34 : decode cX6_shortOf 34 = .ok (.ishr, 1) := by decide +kernel
theorem dX6_shortOf_35 : decode cX6_shortOf 35 = .ok (.iconst 1, 1) := by decide +kernel
theorem dX6_shortOf_36 : decode cX6_shortOf 36 = .ok (.iand, 1) := by decide +kernel
theorem dX6_shortOf_37 : decode cX6_shortOf 37 = .ok (.ifCond .eq 12, 3) := by decide +kernel
theorem dX6_shortOf_40 : decode cX6_shortOf 40 = .ok (.aload_n 0, 1) := by decide +kernel
theorem dX6_shortOf_41 : decode cX6_shortOf 41 = .ok (.getfield 9, 3) := by decide +kernel
theorem dX6_shortOf_44 : decode cX6_shortOf 44 = .ok (.iload_n 3, 1) := by decide +kernel
theorem dX6_shortOf_45 : decode cX6_shortOf 45 = .ok (.iaload, 1) := by decide +kernel
theorem dX6_shortOf_46 : decode cX6_shortOf 46 = .ok (.goto 4, 3) := by decide +kernel
theorem dX6_shortOf_49 : decode cX6_shortOf 49 = .ok (.iconst 0, 1) := by decide +kernel
theorem dX6_shortOf_50 : decode cX6_shortOf 50 = .ok (.iadd, 1) := by decide +kernel
theorem dX6_shortOf_51 : decode cX6_shortOf 51 = .ok (.istore_n 2, 1) := by decide +kernel
theorem dX6_shortOf_52 : decode cX6_shortOf 52 = .ok (.iinc 3 1, 3) := by decide +kernel
theorem dX6_shortOf_55 : decode cX6_shortOf 55 = .ok (.goto (-37), 3) := by decide +kernel
theorem dX6_shortOf_58 : decode cX6_shortOf 58 = .ok (.iconst 0, 1) := by decide +kernel
theorem dX6_shortOf_59 : decode cX6_shortOf 59 = .ok (.aload_n 0, 1) := by decide +kernel
theorem dX6_shortOf_60 : decode cX6_shortOf 60 = .ok (.getfield 18, 3) := by decide +kernel
theorem dX6_shortOf_63 : decode cX6_shortOf 63 = .ok (.iload_n 1, 1) := by decide +kernel
theorem dX6_shortOf_64 : decode cX6_shortOf 64 = .ok (.iaload, 1) := by decide +kernel
theorem dX6_shortOf_65 : decode cX6_shortOf 65 = .ok (.iload_n 2, 1) := by decide +kernel
theorem dX6_shortOf_66 : decode cX6_shortOf 66 = .ok (.isub, 1) := by decide +kernel
theorem dX6_shortOf_67 : decode cX6_shortOf 67 = .ok (.invokestatic 62, 3) := by decide +kernel
theorem dX6_shortOf_70 : decode cX6_shortOf 70 = .ok (.ireturn, 1) := by decide +kernel
theorem dX6_fewestPuffs_0 : decode cX6_fewestPuffs 0 = .ok (.aload_n 0, 1) := by decide +kernel
theorem dX6_fewestPuffs_1 : decode cX6_fewestPuffs 1 = .ok (.iconst 1, 1) := by decide +kernel
theorem dX6_fewestPuffs_2 : decode cX6_fewestPuffs 2 = .ok (.aload_n 0, 1) := by decide +kernel
theorem dX6_fewestPuffs_3 : decode cX6_fewestPuffs 3 = .ok (.getfield 30, 3) := by decide +kernel
theorem dX6_fewestPuffs_6 : decode cX6_fewestPuffs 6 = .ok (.ishl, 1) := by decide +kernel
theorem dX6_fewestPuffs_7 : decode cX6_fewestPuffs 7 = .ok (.iconst 1, 1) := by decide +kernel
theorem dX6_fewestPuffs_8 : decode cX6_fewestPuffs 8 = .ok (.isub, 1) := by decide +kernel
theorem dX6_fewestPuffs_9 : decode cX6_fewestPuffs 9 = .ok (.invokevirtual 56, 3) := by decide +kernel
theorem dX6_fewestPuffs_12 : decode cX6_fewestPuffs 12 = .ok (.istore_n 2, 1) := by decide +kernel
theorem dX6_fewestPuffs_13 : decode cX6_fewestPuffs 13 = .ok (.iconst 1, 1) := by decide +kernel
theorem dX6_fewestPuffs_14 : decode cX6_fewestPuffs 14 = .ok (.istore_n 3, 1) := by decide +kernel
theorem dX6_fewestPuffs_15 : decode cX6_fewestPuffs 15 = .ok (.iconst 0, 1) := by decide +kernel
theorem dX6_fewestPuffs_16 : decode cX6_fewestPuffs 16 = .ok (.istore 4, 2) := by decide +kernel
theorem dX6_fewestPuffs_18 : decode cX6_fewestPuffs 18 = .ok (.iload 4, 2) := by decide +kernel
theorem dX6_fewestPuffs_20 : decode cX6_fewestPuffs 20 = .ok (.aload_n 0, 1) := by decide +kernel
theorem dX6_fewestPuffs_21 : decode cX6_fewestPuffs 21 = .ok (.getfield 26, 3) := by decide +kernel
theorem dX6_fewestPuffs_24 : decode cX6_fewestPuffs 24 = .ok (.if_icmp .ge 14, 3) := by decide +kernel
theorem dX6_fewestPuffs_27 : decode cX6_fewestPuffs 27 = .ok (.iload_n 3, 1) := by decide +kernel
theorem dX6_fewestPuffs_28 : decode cX6_fewestPuffs 28 = .ok (.bipush 6, 2) := by decide +kernel
theorem dX6_fewestPuffs_30 : decode cX6_fewestPuffs 30 = .ok (.imul, 1) := by decide +kernel
theorem dX6_fewestPuffs_31 : decode cX6_fewestPuffs 31 = .ok (.istore_n 3, 1) := by decide +kernel
theorem dX6_fewestPuffs_32 : decode cX6_fewestPuffs 32 = .ok (.iinc 4 1, 3) := by decide +kernel
theorem dX6_fewestPuffs_35 : decode cX6_fewestPuffs 35 = .ok (.goto (-17), 3) := by decide +kernel
theorem dX6_fewestPuffs_38 : decode cX6_fewestPuffs 38 = .ok (.iconst 4, 1) := by decide +kernel
theorem dX6_fewestPuffs_39 : decode cX6_fewestPuffs 39 = .ok (.istore 4, 2) := by decide +kernel
theorem dX6_fewestPuffs_41 : decode cX6_fewestPuffs 41 = .ok (.iconst 0, 1) := by decide +kernel
theorem dX6_fewestPuffs_42 : decode cX6_fewestPuffs 42 = .ok (.istore 5, 2) := by decide +kernel
theorem dX6_fewestPuffs_44 : decode cX6_fewestPuffs 44 = .ok (.iload 5, 2) := by decide +kernel
theorem dX6_fewestPuffs_46 : decode cX6_fewestPuffs 46 = .ok (.iload_n 3, 1) := by decide +kernel
theorem dX6_fewestPuffs_47 : decode cX6_fewestPuffs 47 = .ok (.if_icmp .ge 41, 3) := by decide +kernel
theorem dX6_fewestPuffs_50 : decode cX6_fewestPuffs 50 = .ok (.aload_n 0, 1) := by decide +kernel
theorem dX6_fewestPuffs_51 : decode cX6_fewestPuffs 51 = .ok (.aload_n 1, 1) := by decide +kernel
theorem dX6_fewestPuffs_52 : decode cX6_fewestPuffs 52 = .ok (.iload 5, 2) := by decide +kernel
theorem dX6_fewestPuffs_54 : decode cX6_fewestPuffs 54 = .ok (.invokevirtual 65, 3) := by decide +kernel
theorem dX6_fewestPuffs_57 : decode cX6_fewestPuffs 57 = .ok (.istore 6, 2) := by decide +kernel
theorem dX6_fewestPuffs_59 : decode cX6_fewestPuffs 59 = .ok (.iload 6, 2) := by decide +kernel
theorem dX6_fewestPuffs_61 : decode cX6_fewestPuffs 61 = .ok (.iload 4, 2) := by decide +kernel
theorem dX6_fewestPuffs_63 : decode cX6_fewestPuffs 63 = .ok (.if_icmp .ge 19, 3) := by decide +kernel
theorem dX6_fewestPuffs_66 : decode cX6_fewestPuffs 66 = .ok (.aload_n 0, 1) := by decide +kernel
theorem dX6_fewestPuffs_67 : decode cX6_fewestPuffs 67 = .ok (.aload_n 0, 1) := by decide +kernel
theorem dX6_fewestPuffs_68 : decode cX6_fewestPuffs 68 = .ok (.invokevirtual 69, 3) := by decide +kernel
theorem dX6_fewestPuffs_71 : decode cX6_fewestPuffs 71 = .ok (.invokevirtual 73, 3) := by decide +kernel
theorem dX6_fewestPuffs_74 : decode cX6_fewestPuffs 74 = .ok (.iload_n 2, 1) := by decide +kernel
theorem dX6_fewestPuffs_75 : decode cX6_fewestPuffs 75 = .ok (.if_icmp .ne 7, 3) := by decide +kernel
theorem dX6_fewestPuffs_78 : decode cX6_fewestPuffs 78 = .ok (.iload 6, 2) := by decide +kernel
theorem dX6_fewestPuffs_80 : decode cX6_fewestPuffs 80 = .ok (.istore 4, 2) := by decide +kernel
theorem dX6_fewestPuffs_82 : decode cX6_fewestPuffs 82 = .ok (.iinc 5 1, 3) := by decide +kernel
theorem dX6_fewestPuffs_85 : decode cX6_fewestPuffs 85 = .ok (.goto (-41), 3) := by decide +kernel
theorem dX6_fewestPuffs_88 : decode cX6_fewestPuffs 88 = .ok (.iload 4, 2) := by decide +kernel
theorem dX6_fewestPuffs_90 : decode cX6_fewestPuffs 90 = .ok (.iconst 3, 1) := by decide +kernel
theorem dX6_fewestPuffs_91 : decode cX6_fewestPuffs 91 = .ok (.if_icmp .le 8, 3) := by decide +kernel
theorem dX6_fewestPuffs_94 : decode cX6_fewestPuffs 94 = .ok (.bipush (-9), 2) := by decide +kernel
theorem dX6_fewestPuffs_96 : decode cX6_fewestPuffs 96 = .ok (.goto 5, 3) := by decide +kernel
theorem dX6_fewestPuffs_99 : decode cX6_fewestPuffs 99 = .ok (.iload 4, 2) := by decide +kernel
theorem dX6_fewestPuffs_101 : decode cX6_fewestPuffs 101 = .ok (.ireturn, 1) := by decide +kernel
theorem dX6_place_0 : decode cX6_place 0 = .ok (.iload_n 2, 1) := by decide +kernel
theorem dX6_place_1 : decode cX6_place 1 = .ok (.istore_n 3, 1) := by decide +kernel
theorem dX6_place_2 : decode cX6_place 2 = .ok (.iconst 0, 1) := by decide +kernel
theorem dX6_place_3 : decode cX6_place 3 = .ok (.istore 4, 2) := by decide +kernel
theorem dX6_place_5 : decode cX6_place 5 = .ok (.iconst 0, 1) := by decide +kernel
theorem dX6_place_6 : decode cX6_place 6 = .ok (.istore 5, 2) := by decide +kernel
theorem dX6_place_8 : decode cX6_place 8 = .ok (.iload 5, 2) := by decide +kernel
theorem dX6_place_10 : decode cX6_place 10 = .ok (.aload_n 0, 1) := by decide +kernel
theorem dX6_place_11 : decode cX6_place 11 = .ok (.getfield 26, 3) := by decide +kernel
theorem dX6_place_14 : decode cX6_place 14 = .ok (.if_icmp .ge 63, 3) := by decide +kernel
theorem dX6_place_17 : decode cX6_place 17 = .ok (.iload_n 3, 1) := by decide +kernel
theorem dX6_place_18 : decode cX6_place 18 = .ok (.bipush 6, 2) := by decide +kernel
theorem dX6_place_20 : decode cX6_place 20 = .ok (.irem, 1) := by decide +kernel
theorem dX6_place_21 : decode cX6_place 21 = .ok (.istore 6, 2) := by decide +kernel
theorem dX6_place_23 : decode cX6_place 23 = .ok (.iload_n 3, 1) := by decide +kernel
theorem dX6_place_24 : decode cX6_place 24 = .ok (.bipush 6, 2) := by decide +kernel
theorem dX6_place_26 : decode cX6_place 26 = .ok (.idiv, 1) := by decide +kernel
theorem dX6_place_27 : decode cX6_place 27 = .ok (.istore_n 3, 1) := by decide +kernel
theorem dX6_place_28 : decode cX6_place 28 = .ok (.aload_n 0, 1) := by decide +kernel
theorem dX6_place_29 : decode cX6_place 29 = .ok (.getfield 15, 3) := by decide +kernel
theorem dX6_place_32 : decode cX6_place 32 = .ok (.iload 5, 2) := by decide +kernel
theorem dX6_place_34 : decode cX6_place 34 = .ok (.aload_n 0, 1) := by decide +kernel
theorem dX6_place_35 : decode cX6_place 35 = .ok (.getfield 23, 3) := by decide +kernel
theorem dX6_place_38 : decode cX6_place 38 = .ok (.iload 5, 2) := by decide +kernel
theorem dX6_place_40 : decode cX6_place 40 = .ok (.aaload, 1) := by decide +kernel
theorem dX6_place_41 : decode cX6_place 41 = .ok (.aload_n 1, 1) := by decide +kernel
theorem dX6_place_42 : decode cX6_place 42 = .ok (.getfield 48, 3) := by decide +kernel
theorem dX6_place_45 : decode cX6_place 45 = .ok (.iload 5, 2) := by decide +kernel
theorem dX6_place_47 : decode cX6_place 47 = .ok (.iaload, 1) := by decide +kernel
theorem dX6_place_48 : decode cX6_place 48 = .ok (.iload 6, 2) := by decide +kernel
theorem dX6_place_50 : decode cX6_place 50 = .ok (.iadd, 1) := by decide +kernel
theorem dX6_place_51 : decode cX6_place 51 = .ok (.invokestatic 76, 3) := by decide +kernel
theorem dX6_place_54 : decode cX6_place 54 = .ok (.iaload, 1) := by decide +kernel
theorem dX6_place_55 : decode cX6_place 55 = .ok (.iastore, 1) := by decide +kernel
theorem dX6_place_56 : decode cX6_place 56 = .ok (.iload 4, 2) := by decide +kernel
theorem dX6_place_58 : decode cX6_place 58 = .ok (.iload 6, 2) := by decide +kernel
theorem dX6_place_60 : decode cX6_place 60 = .ok (.bipush 6, 2) := by decide +kernel
theorem dX6_place_62 : decode cX6_place 62 = .ok (.iload 6, 2) := by decide +kernel
theorem dX6_place_64 : decode cX6_place 64 = .ok (.isub, 1) := by decide +kernel
theorem dX6_place_65 : decode cX6_place 65 = .ok (.invokestatic 36, 3) := by decide +kernel
theorem dX6_place_68 : decode cX6_place 68 = .ok (.iadd, 1) := by decide +kernel
theorem dX6_place_69 : decode cX6_place 69 = .ok (.istore 4, 2) := by decide +kernel
theorem dX6_place_71 : decode cX6_place 71 = .ok (.iinc 5 1, 3) := by decide +kernel
theorem dX6_place_74 : decode cX6_place 74 = .ok (.goto (-66), 3) := by decide +kernel
theorem dX6_place_77 : decode cX6_place 77 = .ok (.iload 4, 2) := by decide +kernel
theorem dX6_place_79 : decode cX6_place 79 = .ok (.ireturn, 1) := by decide +kernel
theorem dX6_gainInOrders_0 : decode cX6_gainInOrders 0 = .ok (.iconst 0, 1) := by decide +kernel
theorem dX6_gainInOrders_1 : decode cX6_gainInOrders 1 = .ok (.istore_n 2, 1) := by decide +kernel
theorem dX6_gainInOrders_2 : decode cX6_gainInOrders 2 = .ok (.iconst 0, 1) := by decide +kernel
theorem dX6_gainInOrders_3 : decode cX6_gainInOrders 3 = .ok (.istore_n 3, 1) := by decide +kernel
theorem dX6_gainInOrders_4 : decode cX6_gainInOrders 4 = .ok (.iload_n 3, 1) := by decide +kernel
theorem dX6_gainInOrders_5 : decode cX6_gainInOrders 5 = .ok (.iconst 1, 1) := by decide +kernel
theorem dX6_gainInOrders_6 : decode cX6_gainInOrders 6 = .ok (.aload_n 0, 1) := by decide +kernel
theorem dX6_gainInOrders_7 : decode cX6_gainInOrders 7 = .ok (.getfield 26, 3) := by decide +kernel
theorem dX6_gainInOrders_10 : decode cX6_gainInOrders 10 = .ok (.ishl, 1) := by decide +kernel
theorem dX6_gainInOrders_11 : decode cX6_gainInOrders 11 = .ok (.if_icmp .ge 64, 3) := by decide +kernel
theorem dX6_gainInOrders_14 : decode cX6_gainInOrders 14 = .ok (.iload_n 3, 1) := by decide +kernel
theorem dX6_gainInOrders_15 : decode cX6_gainInOrders 15 = .ok (.iload_n 1, 1) := by decide +kernel
theorem dX6_gainInOrders_16 : decode cX6_gainInOrders 16 = .ok (.ishr, 1) := by decide +kernel
theorem dX6_gainInOrders_17 : decode cX6_gainInOrders 17 = .ok (.iconst 1, 1) := by decide +kernel
theorem dX6_gainInOrders_18 : decode cX6_gainInOrders 18 = .ok (.iand, 1) := by decide +kernel
theorem dX6_gainInOrders_19 : decode cX6_gainInOrders 19 = .ok (.ifCond .ne 50, 3) := by decide +kernel
theorem dX6_gainInOrders_22 : decode cX6_gainInOrders 22 = .ok (.iload_n 3, 1) := by decide +kernel
theorem dX6_gainInOrders_23 : decode cX6_gainInOrders 23 = .ok (.invokestatic 81, 3) := by decide +kernel
theorem dX6_gainInOrders_26 : decode cX6_gainInOrders 26 = .ok (.istore 4, 2) := by decide +kernel
theorem dX6_gainInOrders_28 : decode cX6_gainInOrders 28 = .ok (.iload 4, 2) := by decide +kernel
theorem dX6_gainInOrders_30 : decode cX6_gainInOrders 30 = .ok (.invokestatic 86, 3) := by decide +kernel
theorem dX6_gainInOrders_33 : decode cX6_gainInOrders 33 = .ok (.aload_n 0, 1) := by decide +kernel
theorem dX6_gainInOrders_34 : decode cX6_gainInOrders 34 = .ok (.getfield 26, 3) := by decide +kernel
theorem dX6_gainInOrders_37 : decode cX6_gainInOrders 37 = .ok (.iconst 1, 1) := by decide +kernel
theorem dX6_gainInOrders_38 : decode cX6_gainInOrders 38 = .ok (.isub, 1) := by decide +kernel
theorem dX6_gainInOrders_39 : decode cX6_gainInOrders 39 = .ok (.iload 4, 2) := by decide +kernel
theorem dX6_gainInOrders_41 : decode cX6_gainInOrders 41 = .ok (.isub, 1) := by decide +kernel
theorem dX6_gainInOrders_42 : decode cX6_gainInOrders 42 = .ok (.invokestatic 86, 3) := by decide +kernel
theorem dX6_gainInOrders_45 : decode cX6_gainInOrders 45 = .ok (.imul, 1) := by decide +kernel
theorem dX6_gainInOrders_46 : decode cX6_gainInOrders 46 = .ok (.istore 5, 2) := by decide +kernel
theorem dX6_gainInOrders_48 : decode cX6_gainInOrders 48 = .ok (.iload_n 2, 1) := by decide +kernel
theorem dX6_gainInOrders_49 : decode cX6_gainInOrders 49 = .ok (.iload 5, 2) := by decide +kernel
theorem dX6_gainInOrders_51 : decode cX6_gainInOrders 51 = .ok (.aload_n 0, 1) := by decide +kernel
theorem dX6_gainInOrders_52 : decode cX6_gainInOrders 52 = .ok (.iload_n 3, 1) := by decide +kernel
theorem dX6_gainInOrders_53 : decode cX6_gainInOrders 53 = .ok (.iconst 1, 1) := by decide +kernel
theorem dX6_gainInOrders_54 : decode cX6_gainInOrders 54 = .ok (.iload_n 1, 1) := by decide +kernel
theorem dX6_gainInOrders_55 : decode cX6_gainInOrders 55 = .ok (.ishl, 1) := by decide +kernel
theorem dX6_gainInOrders_56 : decode cX6_gainInOrders 56 = .ok (.ior, 1) := by decide +kernel
theorem dX6_gainInOrders_57 : decode cX6_gainInOrders 57 = .ok (.invokevirtual 73, 3) := by decide +kernel
theorem dX6_gainInOrders_60 : decode cX6_gainInOrders 60 = .ok (.aload_n 0, 1) := by decide +kernel
theorem dX6_gainInOrders_61 : decode cX6_gainInOrders 61 = .ok (.iload_n 3, 1) := by decide +kernel
theorem dX6_gainInOrders_62 : decode cX6_gainInOrders 62 = .ok (.invokevirtual 73, 3) := by decide +kernel
theorem dX6_gainInOrders_65 : decode cX6_gainInOrders 65 = .ok (.isub, 1) := by decide +kernel
theorem dX6_gainInOrders_66 : decode cX6_gainInOrders 66 = .ok (.imul, 1) := by decide +kernel
theorem dX6_gainInOrders_67 : decode cX6_gainInOrders 67 = .ok (.iadd, 1) := by decide +kernel
theorem dX6_gainInOrders_68 : decode cX6_gainInOrders 68 = .ok (.istore_n 2, 1) := by decide +kernel
theorem dX6_gainInOrders_69 : decode cX6_gainInOrders 69 = .ok (.iinc 3 1, 3) := by decide +kernel
theorem dX6_gainInOrders_72 : decode cX6_gainInOrders 72 = .ok (.goto (-68), 3) := by decide +kernel
theorem dX6_gainInOrders_75 : decode cX6_gainInOrders 75 = .ok (.iload_n 2, 1) := by decide +kernel
theorem dX6_gainInOrders_76 : decode cX6_gainInOrders 76 = .ok (.ireturn, 1) := by decide +kernel
theorem dX7_init_0 : decode cX7_init 0 = .ok (.aload_n 0, 1) := by decide +kernel
theorem dX7_init_1 : decode cX7_init 1 = .ok (.invokespecial 3, 3) := by decide +kernel
theorem dX7_init_4 : decode cX7_init 4 = .ok (.aload_n 0, 1) := by decide +kernel
theorem dX7_init_5 : decode cX7_init 5 = .ok (.bipush 6, 2) := by decide +kernel
theorem dX7_init_7 : decode cX7_init 7 = .ok (.newarray .int, 2) := by decide +kernel
theorem dX7_init_9 : decode cX7_init 9 = .ok (.putfield 9, 3) := by decide +kernel
theorem dX7_init_12 : decode cX7_init 12 = .ok (.aload_n 0, 1) := by decide +kernel
theorem dX7_init_13 : decode cX7_init 13 = .ok (.bipush 6, 2) := by decide +kernel
theorem dX7_init_15 : decode cX7_init 15 = .ok (.newarray .int, 2) := by decide +kernel
theorem dX7_init_17 : decode cX7_init 17 = .ok (.putfield 15, 3) := by decide +kernel
theorem dX7_init_20 : decode cX7_init 20 = .ok (.aload_n 0, 1) := by decide +kernel
theorem dX7_init_21 : decode cX7_init 21 = .ok (.iconst 0, 1) := by decide +kernel
theorem dX7_init_22 : decode cX7_init 22 = .ok (.putfield 18, 3) := by decide +kernel
theorem dX7_init_25 : decode cX7_init 25 = .ok (.return_, 1) := by decide +kernel
theorem dX7_add_0 : decode cX7_add 0 = .ok (.aload_n 0, 1) := by decide +kernel
theorem dX7_add_1 : decode cX7_add 1 = .ok (.getfield 18, 3) := by decide +kernel
theorem dX7_add_4 : decode cX7_add 4 = .ok (.ifCond .lt 12, 3) := by decide +kernel
theorem dX7_add_7 : decode cX7_add 7 = .ok (.aload_n 0, 1) := by decide +kernel
theorem dX7_add_8 : decode cX7_add 8 = .ok (.getfield 18, 3) := by decide +kernel
theorem dX7_add_11 : decode cX7_add 11 = .ok (.bipush 6, 2) := by decide +kernel
theorem dX7_add_13 : decode cX7_add 13 = .ok (.if_icmp .lt 5, 3) := by decide +kernel
theorem dX7_add_16 : decode cX7_add 16 = .ok (.iconst 0, 1) := by decide +kernel
theorem dX7_add_17 : decode cX7_add 17 = .ok (.ireturn, 1) := by decide +kernel
theorem dX7_add_18 : decode cX7_add 18 = .ok (.aload_n 0, 1) := by decide +kernel
theorem dX7_add_19 : decode cX7_add 19 = .ok (.getfield 9, 3) := by decide +kernel
theorem dX7_add_22 : decode cX7_add 22 = .ok (.aload_n 0, 1) := by decide +kernel
theorem dX7_add_23 : decode cX7_add 23 = .ok (.getfield 18, 3) := by decide +kernel
theorem dX7_add_26 : decode cX7_add 26 = .ok (.iload_n 1, 1) := by decide +kernel
theorem dX7_add_27 : decode cX7_add 27 = .ok (.iastore, 1) := by decide +kernel
theorem dX7_add_28 : decode cX7_add 28 = .ok (.aload_n 0, 1) := by decide +kernel
theorem dX7_add_29 : decode cX7_add 29 = .ok (.getfield 15, 3) := by decide +kernel
theorem dX7_add_32 : decode cX7_add 32 = .ok (.aload_n 0, 1) := by decide +kernel
theorem dX7_add_33 : decode cX7_add 33 = .ok (.getfield 18, 3) := by decide +kernel
theorem dX7_add_36 : decode cX7_add 36 = .ok (.iload_n 2, 1) := by decide +kernel
theorem dX7_add_37 : decode cX7_add 37 = .ok (.iastore, 1) := by decide +kernel
theorem dX7_add_38 : decode cX7_add 38 = .ok (.aload_n 0, 1) := by decide +kernel
theorem dX7_add_39 : decode cX7_add 39 = .ok (.dup, 1) := by decide +kernel
theorem dX7_add_40 : decode cX7_add 40 = .ok (.getfield 18, 3) := by decide +kernel
theorem dX7_add_43 : decode cX7_add 43 = .ok (.iconst 1, 1) := by decide +kernel
theorem dX7_add_44 : decode cX7_add 44 = .ok (.iadd, 1) := by decide +kernel
theorem dX7_add_45 : decode cX7_add 45 = .ok (.putfield 18, 3) := by decide +kernel
theorem dX7_add_48 : decode cX7_add 48 = .ok (.iconst 1, 1) := by decide +kernel
theorem dX7_add_49 : decode cX7_add 49 = .ok (.ireturn, 1) := by decide +kernel
theorem dX7_beginnings_0 : decode cX7_beginnings 0 = .ok (.iconst 0, 1) := by decide +kernel
theorem dX7_beginnings_1 : decode cX7_beginnings 1 = .ok (.istore_n 3, 1) := by decide +kernel
theorem dX7_beginnings_2 : decode cX7_beginnings 2 = .ok (.iconst 0, 1) := by decide +kernel
theorem dX7_beginnings_3 : decode cX7_beginnings 3 = .ok (.istore 4, 2) := by decide +kernel
theorem dX7_beginnings_5 : decode cX7_beginnings 5 = .ok (.iload 4, 2) := by decide +kernel
theorem dX7_beginnings_7 : decode cX7_beginnings 7 = .ok (.bipush 6, 2) := by decide +kernel
theorem dX7_beginnings_9 : decode cX7_beginnings 9 = .ok (.if_icmp .ge 27, 3) := by decide +kernel
theorem dX7_beginnings_12 : decode cX7_beginnings 12 = .ok (.aload_n 0, 1) := by decide +kernel
theorem dX7_beginnings_13 : decode cX7_beginnings 13 = .ok (.iload_n 1, 1) := by decide +kernel
theorem dX7_beginnings_14 : decode cX7_beginnings 14 = .ok (.iload 4, 2) := by decide +kernel
theorem dX7_beginnings_16 : decode cX7_beginnings 16 = .ok (.aload_n 2, 1) := by decide +kernel
theorem dX7_beginnings_17 : decode cX7_beginnings 17 = .ok (.invokevirtual 22, 3) := by decide +kernel
theorem dX7_beginnings_20 : decode cX7_beginnings 20 = .ok (.ifCond .eq 10, 3) := by decide +kernel
theorem dX7_beginnings_23 : decode cX7_beginnings 23 = .ok (.iload_n 3, 1) := by decide +kernel
theorem dX7_beginnings_24 : decode cX7_beginnings 24 = .ok (.iconst 1, 1) := by decide +kernel
theorem dX7_beginnings_25 : decode cX7_beginnings 25 = .ok (.iload 4, 2) := by decide +kernel
theorem dX7_beginnings_27 : decode cX7_beginnings 27 = .ok (.ishl, 1) := by decide +kernel
theorem dX7_beginnings_28 : decode cX7_beginnings 28 = .ok (.ior, 1) := by decide +kernel
theorem dX7_beginnings_29 : decode cX7_beginnings 29 = .ok (.istore_n 3, 1) := by decide +kernel
theorem dX7_beginnings_30 : decode cX7_beginnings 30 = .ok (.iinc 4 1, 3) := by decide +kernel
theorem dX7_beginnings_33 : decode cX7_beginnings 33 = .ok (.goto (-28), 3) := by decide +kernel
theorem dX7_beginnings_36 : decode cX7_beginnings 36 = .ok (.iload_n 3, 1) := by decide +kernel
theorem dX7_beginnings_37 : decode cX7_beginnings 37 = .ok (.ireturn, 1) := by decide +kernel
theorem dX7_agrees_0 : decode cX7_agrees 0 = .ok (.iconst 0, 1) := by decide +kernel
theorem dX7_agrees_1 : decode cX7_agrees 1 = .ok (.istore 4, 2) := by decide +kernel
theorem dX7_agrees_3 : decode cX7_agrees 3 = .ok (.iload 4, 2) := by decide +kernel
theorem dX7_agrees_5 : decode cX7_agrees 5 = .ok (.aload_n 0, 1) := by decide +kernel
theorem dX7_agrees_6 : decode cX7_agrees 6 = .ok (.getfield 18, 3) := by decide +kernel
theorem dX7_agrees_9 : decode cX7_agrees 9 = .ok (.if_icmp .ge 42, 3) := by decide +kernel
theorem dX7_agrees_12 : decode cX7_agrees 12 = .ok (.iload 4, 2) := by decide +kernel
theorem dX7_agrees_14 : decode cX7_agrees 14 = .ok (.bipush 6, 2) := by decide +kernel
theorem dX7_agrees_16 : decode cX7_agrees 16 = .ok (.if_icmp .ge 35, 3) := by decide +kernel
theorem dX7_agrees_19 : decode cX7_agrees 19 = .ok (.aload_n 3, 1) := by decide +kernel
theorem dX7_agrees_20 : decode cX7_agrees 20 = .ok (.iload_n 1, 1) := by decide +kernel
theorem dX7_agrees_21 : decode cX7_agrees 21 = .ok (.iload_n 2, 1) := by decide +kernel
theorem dX7_agrees_22 : decode cX7_agrees 22 = .ok (.iconst 0, 1) := by decide +kernel
theorem dX7_agrees_23 : decode cX7_agrees 23 = .ok (.aload_n 0, 1) := by decide +kernel
theorem dX7_agrees_24 : decode cX7_agrees 24 = .ok (.getfield 15, 3) := by decide +kernel
theorem dX7_agrees_27 : decode cX7_agrees 27 = .ok (.iload 4, 2) := by decide +kernel
theorem dX7_agrees_29 : decode cX7_agrees 29 = .ok (.iaload, 1) := by decide +kernel
theorem dX7_agrees_30 : decode cX7_agrees 30 = .ok (.invokevirtual 26, 3) := by decide +kernel
theorem dX7_agrees_33 : decode cX7_agrees 33 = .ok (.aload_n 0, 1) := by decide +kernel
theorem dX7_agrees_34 : decode cX7_agrees 34 = .ok (.getfield 9, 3) := by decide +kernel
theorem dX7_agrees_37 : decode cX7_agrees 37 = .ok (.iload 4, 2) := by decide +kernel
theorem dX7_agrees_39 : decode cX7_agrees 39 = .ok (.iaload, 1) := by decide +kernel
theorem dX7_agrees_40 : decode cX7_agrees 40 = .ok (.if_icmp .eq 5, 3) := by decide +kernel
theorem dX7_agrees_43 : decode cX7_agrees 43 = .ok (.iconst 0, 1) := by decide +kernel
theorem dX7_agrees_44 : decode cX7_agrees 44 = .ok (.ireturn, 1) := by decide +kernel
theorem dX7_agrees_45 : decode cX7_agrees 45 = .ok (.iinc 4 1, 3) := by decide +kernel
theorem dX7_agrees_48 : decode cX7_agrees 48 = .ok (.goto (-45), 3) := by decide +kernel
theorem dX7_agrees_51 : decode cX7_agrees 51 = .ok (.iconst 1, 1) := by decide +kernel
theorem dX7_agrees_52 : decode cX7_agrees 52 = .ok (.ireturn, 1) := by decide +kernel
theorem dX8_init_0 : decode cX8_init 0 = .ok (.aload_n 0, 1) := by decide +kernel
theorem dX8_init_1 : decode cX8_init 1 = .ok (.invokespecial 3, 3) := by decide +kernel
theorem dX8_init_4 : decode cX8_init 4 = .ok (.aload_n 0, 1) := by decide +kernel
theorem dX8_init_5 : decode cX8_init 5 = .ok (.aload_n 1, 1) := by decide +kernel
theorem dX8_init_6 : decode cX8_init 6 = .ok (.putfield 9, 3) := by decide +kernel
theorem dX8_init_9 : decode cX8_init 9 = .ok (.aload_n 0, 1) := by decide +kernel
theorem dX8_init_10 : decode cX8_init 10 = .ok (.iconst 4, 1) := by decide +kernel
theorem dX8_init_11 : decode cX8_init 11 = .ok (.newarray .int, 2) := by decide +kernel
theorem dX8_init_13 : decode cX8_init 13 = .ok (.putfield 15, 3) := by decide +kernel
theorem dX8_init_16 : decode cX8_init 16 = .ok (.aload_n 0, 1) := by decide +kernel
theorem dX8_init_17 : decode cX8_init 17 = .ok (.iconst 4, 1) := by decide +kernel
theorem dX8_init_18 : decode cX8_init 18 = .ok (.newarray .int, 2) := by decide +kernel
theorem dX8_init_20 : decode cX8_init 20 = .ok (.putfield 19, 3) := by decide +kernel
theorem dX8_init_23 : decode cX8_init 23 = .ok (.aload_n 0, 1) := by decide +kernel
theorem dX8_init_24 : decode cX8_init 24 = .ok (.iconst 5, 1) := by decide +kernel
theorem dX8_init_25 : decode cX8_init 25 = .ok (.newarray .int, 2) := by decide +kernel
theorem dX8_init_27 : decode cX8_init 27 = .ok (.putfield 22, 3) := by decide +kernel
theorem dX8_init_30 : decode cX8_init 30 = .ok (.aload_n 0, 1) := by decide +kernel
theorem dX8_init_31 : decode cX8_init 31 = .ok (.iconst 0, 1) := by decide +kernel
theorem dX8_init_32 : decode cX8_init 32 = .ok (.putfield 25, 3) := by decide +kernel
theorem dX8_init_35 : decode cX8_init 35 = .ok (.aload_n 0, 1) := by decide +kernel
theorem dX8_init_36 : decode cX8_init 36 = .ok (.iconst 0, 1) := by decide +kernel
theorem dX8_init_37 : decode cX8_init 37 = .ok (.putfield 29, 3) := by decide +kernel
theorem dX8_init_40 : decode cX8_init 40 = .ok (.aload_n 0, 1) := by decide +kernel
theorem dX8_init_41 : decode cX8_init 41 = .ok (.iconst 0, 1) := by decide +kernel
theorem dX8_init_42 : decode cX8_init 42 = .ok (.putfield 32, 3) := by decide +kernel
theorem dX8_init_45 : decode cX8_init 45 = .ok (.return_, 1) := by decide +kernel
theorem dX8_begin_0 : decode cX8_begin 0 = .ok (.iconst 0, 1) := by decide +kernel
theorem dX8_begin_1 : decode cX8_begin 1 = .ok (.istore_n 1, 1) := by decide +kernel
theorem dX8_begin_2 : decode cX8_begin 2 = .ok (.iload_n 1, 1) := by decide +kernel
theorem dX8_begin_3 : decode cX8_begin 3 = .ok (.iconst 4, 1) := by decide +kernel
theorem dX8_begin_4 : decode cX8_begin 4 = .ok (.if_icmp .ge 39, 3) := by decide +kernel
theorem dX8_begin_7 : decode cX8_begin 7 = .ok (.aload_n 0, 1) := by decide +kernel
theorem dX8_begin_8 : decode cX8_begin 8 = .ok (.getfield 15, 3) := by decide +kernel
theorem dX8_begin_11 : decode cX8_begin 11 = .ok (.iload_n 1, 1) := by decide +kernel
theorem dX8_begin_12 : decode cX8_begin 12 = .ok (.aload_n 0, 1) := by decide +kernel
theorem dX8_begin_13 : decode cX8_begin 13 = .ok (.getfield 9, 3) := by decide +kernel
theorem dX8_begin_16 : decode cX8_begin 16 = .ok (.getfield 35, 3) := by decide +kernel
theorem dX8_begin_19 : decode cX8_begin 19 = .ok (.iload_n 1, 1) := by decide +kernel
theorem dX8_begin_20 : decode cX8_begin 20 = .ok (.iaload, 1) := by decide +kernel
theorem dX8_begin_21 : decode cX8_begin 21 = .ok (.iastore, 1) := by decide +kernel
theorem dX8_begin_22 : decode cX8_begin 22 = .ok (.aload_n 0, 1) := by decide +kernel
theorem dX8_begin_23 : decode cX8_begin 23 = .ok (.getfield 19, 3) := by decide +kernel
theorem dX8_begin_26 : decode cX8_begin 26 = .ok (.iload_n 1, 1) := by decide +kernel
theorem dX8_begin_27 : decode cX8_begin 27 = .ok (.aload_n 0, 1) := by decide +kernel
theorem dX8_begin_28 : decode cX8_begin 28 = .ok (.getfield 9, 3) := by decide +kernel
theorem dX8_begin_31 : decode cX8_begin 31 = .ok (.getfield 40, 3) := by decide +kernel
theorem dX8_begin_34 : decode cX8_begin 34 = .ok (.iload_n 1, 1) := by decide +kernel
theorem dX8_begin_35 : decode cX8_begin 35 = .ok (.iaload, 1) := by decide +kernel
theorem dX8_begin_36 : decode cX8_begin 36 = .ok (.iastore, 1) := by decide +kernel
theorem dX8_begin_37 : decode cX8_begin 37 = .ok (.iinc 1 1, 3) := by decide +kernel
theorem dX8_begin_40 : decode cX8_begin 40 = .ok (.goto (-38), 3) := by decide +kernel
theorem dX8_begin_43 : decode cX8_begin 43 = .ok (.iconst 0, 1) := by decide +kernel
theorem dX8_begin_44 : decode cX8_begin 44 = .ok (.istore_n 1, 1) := by decide +kernel
theorem dX8_begin_45 : decode cX8_begin 45 = .ok (.iload_n 1, 1) := by decide +kernel
theorem dX8_begin_46 : decode cX8_begin 46 = .ok (.iconst 5, 1) := by decide +kernel
theorem dX8_begin_47 : decode cX8_begin 47 = .ok (.if_icmp .ge 16, 3) := by decide +kernel
theorem dX8_begin_50 : decode cX8_begin 50 = .ok (.aload_n 0, 1) := by decide +kernel
theorem dX8_begin_51 : decode cX8_begin 51 = .ok (.getfield 22, 3) := by decide +kernel
theorem dX8_begin_54 : decode cX8_begin 54 = .ok (.iload_n 1, 1) := by decide +kernel
theorem dX8_begin_55 : decode cX8_begin 55 = .ok (.iconst 0, 1) := by decide +kernel
theorem dX8_begin_56 : decode cX8_begin 56 = .ok (.iastore, 1) := by decide +kernel
theorem dX8_begin_57 : decode cX8_begin 57 = .ok (.iinc 1 1, 3) := by decide +kernel
theorem dX8_begin_60 : decode cX8_begin 60 = .ok (.goto (-15), 3) := by decide +kernel
theorem dX8_begin_63 : decode cX8_begin 63 = .ok (.aload_n 0, 1) := by decide +kernel
theorem dX8_begin_64 : decode cX8_begin 64 = .ok (.iconst 0, 1) := by decide +kernel
theorem dX8_begin_65 : decode cX8_begin 65 = .ok (.putfield 25, 3) := by decide +kernel
theorem dX8_begin_68 : decode cX8_begin 68 = .ok (.aload_n 0, 1) := by decide +kernel
theorem dX8_begin_69 : decode cX8_begin 69 = .ok (.iconst 0, 1) := by decide +kernel
theorem dX8_begin_70 : decode cX8_begin 70 = .ok (.putfield 29, 3) := by decide +kernel
theorem dX8_begin_73 : decode cX8_begin 73 = .ok (.aload_n 0, 1) := by decide +kernel
theorem dX8_begin_74 : decode cX8_begin 74 = .ok (.iconst 0, 1) := by decide +kernel
theorem dX8_begin_75 : decode cX8_begin 75 = .ok (.putfield 32, 3) := by decide +kernel
theorem dX8_begin_78 : decode cX8_begin 78 = .ok (.return_, 1) := by decide +kernel
theorem dX8_store_0 : decode cX8_store 0 = .ok (.aload_n 1, 1) := by decide +kernel
theorem dX8_store_1 : decode cX8_store 1 = .ok (.ifnull 10, 3) := by decide +kernel
theorem dX8_store_4 : decode cX8_store 4 = .ok (.aload_n 1, 1) := by decide +kernel
theorem dX8_store_5 : decode cX8_store 5 = .ok (.arraylength, 1) := by decide +kernel
theorem dX8_store_6 : decode cX8_store 6 = .ok (.bipush 16, 2) := by decide +kernel
theorem dX8_store_8 : decode cX8_store 8 = .ok (.if_icmp .ge 4, 3) := by decide +kernel
theorem dX8_store_11 : decode cX8_store 11 = .ok (.return_, 1) := by decide +kernel
theorem dX8_store_12 : decode cX8_store 12 = .ok (.aload_n 0, 1) := by decide +kernel
theorem dX8_store_13 : decode cX8_store 13 = .ok (.getfield 15, 3) := by decide +kernel
theorem dX8_store_16 : decode cX8_store 16 = .ok (.iconst 0, 1) := by decide +kernel
theorem dX8_store_17 : decode cX8_store 17 = .ok (.aload_n 1, 1) := by decide +kernel
theorem dX8_store_18 : decode cX8_store 18 = .ok (.iconst 0, 1) := by decide +kernel
theorem dX8_store_19 : decode cX8_store 19 = .ok (.iconst 4, 1) := by decide +kernel
theorem dX8_store_20 : decode cX8_store 20 = .ok (.invokestatic 43, 3) := by decide +kernel
theorem dX8_store_23 : decode cX8_store 23 = .ok (.aload_n 0, 1) := by decide +kernel
theorem dX8_store_24 : decode cX8_store 24 = .ok (.getfield 19, 3) := by decide +kernel
theorem dX8_store_27 : decode cX8_store 27 = .ok (.iconst 0, 1) := by decide +kernel
theorem dX8_store_28 : decode cX8_store 28 = .ok (.aload_n 1, 1) := by decide +kernel
theorem dX8_store_29 : decode cX8_store 29 = .ok (.iconst 4, 1) := by decide +kernel
theorem dX8_store_30 : decode cX8_store 30 = .ok (.iconst 4, 1) := by decide +kernel
theorem dX8_store_31 : decode cX8_store 31 = .ok (.invokestatic 43, 3) := by decide +kernel
theorem dX8_store_34 : decode cX8_store 34 = .ok (.aload_n 0, 1) := by decide +kernel
theorem dX8_store_35 : decode cX8_store 35 = .ok (.getfield 22, 3) := by decide +kernel
theorem dX8_store_38 : decode cX8_store 38 = .ok (.iconst 0, 1) := by decide +kernel
theorem dX8_store_39 : decode cX8_store 39 = .ok (.aload_n 1, 1) := by decide +kernel
theorem dX8_store_40 : decode cX8_store 40 = .ok (.bipush 8, 2) := by decide +kernel
theorem dX8_store_42 : decode cX8_store 42 = .ok (.iconst 5, 1) := by decide +kernel
theorem dX8_store_43 : decode cX8_store 43 = .ok (.invokestatic 43, 3) := by decide +kernel
theorem dX8_store_46 : decode cX8_store 46 = .ok (.aload_n 1, 1) := by decide +kernel
theorem dX8_store_47 : decode cX8_store 47 = .ok (.bipush 13, 2) := by decide +kernel
theorem dX8_store_49 : decode cX8_store 49 = .ok (.aload_n 0, 1) := by decide +kernel
theorem dX8_store_50 : decode cX8_store 50 = .ok (.getfield 25, 3) := by decide +kernel
theorem dX8_store_53 : decode cX8_store 53 = .ok (.iastore, 1) := by decide +kernel
theorem dX8_store_54 : decode cX8_store 54 = .ok (.aload_n 1, 1) := by decide +kernel
theorem dX8_store_55 : decode cX8_store 55 = .ok (.bipush 14, 2) := by decide +kernel
theorem dX8_store_57 : decode cX8_store 57 = .ok (.aload_n 0, 1) := by decide +kernel
theorem dX8_store_58 : decode cX8_store 58 = .ok (.getfield 29, 3) := by decide +kernel
theorem dX8_store_61 : decode cX8_store 61 = .ok (.iastore, 1) := by decide +kernel
theorem dX8_store_62 : decode cX8_store 62 = .ok (.aload_n 1, 1) := by decide +kernel
theorem dX8_store_63 : decode cX8_store 63 = .ok (.bipush 15, 2) := by decide +kernel
theorem dX8_store_65 : decode cX8_store 65 = .ok (.aload_n 0, 1) := by decide +kernel
theorem dX8_store_66 : decode cX8_store 66 = .ok (.getfield 32, 3) := by decide +kernel
theorem dX8_store_69 : decode cX8_store 69 = .ok (.iastore, 1) := by decide +kernel
theorem dX8_store_70 : decode cX8_store 70 = .ok (.return_, 1) := by decide +kernel
theorem dX8_load_0 : decode cX8_load 0 = .ok (.aload_n 1, 1) := by decide +kernel
theorem dX8_load_1 : decode cX8_load 1 = .ok (.ifnull 10, 3) := by decide +kernel
theorem dX8_load_4 : decode cX8_load 4 = .ok (.aload_n 1, 1) := by decide +kernel
theorem dX8_load_5 : decode cX8_load 5 = .ok (.arraylength, 1) := by decide +kernel
theorem dX8_load_6 : decode cX8_load 6 = .ok (.bipush 16, 2) := by decide +kernel
theorem dX8_load_8 : decode cX8_load 8 = .ok (.if_icmp .ge 4, 3) := by decide +kernel
theorem dX8_load_11 : decode cX8_load 11 = .ok (.return_, 1) := by decide +kernel
theorem dX8_load_12 : decode cX8_load 12 = .ok (.aload_n 1, 1) := by decide +kernel
theorem dX8_load_13 : decode cX8_load 13 = .ok (.iconst 0, 1) := by decide +kernel
theorem dX8_load_14 : decode cX8_load 14 = .ok (.aload_n 0, 1) := by decide +kernel
theorem dX8_load_15 : decode cX8_load 15 = .ok (.getfield 15, 3) := by decide +kernel
theorem dX8_load_18 : decode cX8_load 18 = .ok (.iconst 0, 1) := by decide +kernel
theorem dX8_load_19 : decode cX8_load 19 = .ok (.iconst 4, 1) := by decide +kernel
theorem dX8_load_20 : decode cX8_load 20 = .ok (.invokestatic 43, 3) := by decide +kernel
theorem dX8_load_23 : decode cX8_load 23 = .ok (.aload_n 1, 1) := by decide +kernel
theorem dX8_load_24 : decode cX8_load 24 = .ok (.iconst 4, 1) := by decide +kernel
theorem dX8_load_25 : decode cX8_load 25 = .ok (.aload_n 0, 1) := by decide +kernel
theorem dX8_load_26 : decode cX8_load 26 = .ok (.getfield 19, 3) := by decide +kernel
theorem dX8_load_29 : decode cX8_load 29 = .ok (.iconst 0, 1) := by decide +kernel
theorem dX8_load_30 : decode cX8_load 30 = .ok (.iconst 4, 1) := by decide +kernel
theorem dX8_load_31 : decode cX8_load 31 = .ok (.invokestatic 43, 3) := by decide +kernel
theorem dX8_load_34 : decode cX8_load 34 = .ok (.aload_n 1, 1) := by decide +kernel
theorem dX8_load_35 : decode cX8_load 35 = .ok (.bipush 8, 2) := by decide +kernel
theorem dX8_load_37 : decode cX8_load 37 = .ok (.aload_n 0, 1) := by decide +kernel
theorem dX8_load_38 : decode cX8_load 38 = .ok (.getfield 22, 3) := by decide +kernel
theorem dX8_load_41 : decode cX8_load 41 = .ok (.iconst 0, 1) := by decide +kernel
theorem dX8_load_42 : decode cX8_load 42 = .ok (.iconst 5, 1) := by decide +kernel
theorem dX8_load_43 : decode cX8_load 43 = .ok (.invokestatic 43, 3) := by decide +kernel
theorem dX8_load_46 : decode cX8_load 46 = .ok (.aload_n 0, 1) := by decide +kernel
theorem dX8_load_47 : decode cX8_load 47 = .ok (.aload_n 1, 1) := by decide +kernel
theorem dX8_load_48 : decode cX8_load 48 = .ok (.bipush 13, 2) := by decide +kernel
theorem dX8_load_50 : decode cX8_load 50 = .ok (.iaload, 1) := by decide +kernel
theorem dX8_load_51 : decode cX8_load 51 = .ok (.putfield 25, 3) := by decide +kernel
theorem dX8_load_54 : decode cX8_load 54 = .ok (.aload_n 0, 1) := by decide +kernel
theorem dX8_load_55 : decode cX8_load 55 = .ok (.aload_n 1, 1) := by decide +kernel
theorem dX8_load_56 : decode cX8_load 56 = .ok (.bipush 14, 2) := by decide +kernel
theorem dX8_load_58 : decode cX8_load 58 = .ok (.iaload, 1) := by decide +kernel
theorem dX8_load_59 : decode cX8_load 59 = .ok (.putfield 29, 3) := by decide +kernel
theorem dX8_load_62 : decode cX8_load 62 = .ok (.aload_n 0, 1) := by decide +kernel
theorem dX8_load_63 : decode cX8_load 63 = .ok (.aload_n 1, 1) := by decide +kernel
theorem dX8_load_64 : decode cX8_load 64 = .ok (.bipush 15, 2) := by decide +kernel
theorem dX8_load_66 : decode cX8_load 66 = .ok (.iaload, 1) := by decide +kernel
theorem dX8_load_67 : decode cX8_load 67 = .ok (.putfield 32, 3) := by decide +kernel
theorem dX8_load_70 : decode cX8_load 70 = .ok (.return_, 1) := by decide +kernel
theorem dX8_isTorn_0 : decode cX8_isTorn 0 = .ok (.aload_n 0, 1) := by decide +kernel
theorem dX8_isTorn_1 : decode cX8_isTorn 1 = .ok (.getfield 25, 3) := by decide +kernel
theorem dX8_isTorn_4 : decode cX8_isTorn 4 = .ok (.iload_n 1, 1) := by decide +kernel
theorem dX8_isTorn_5 : decode cX8_isTorn 5 = .ok (.ishr, 1) := by decide +kernel
theorem dX8_isTorn_6 : decode cX8_isTorn 6 = .ok (.iconst 1, 1) := by decide +kernel
theorem dX8_isTorn_7 : decode cX8_isTorn 7 = .ok (.iand, 1) := by decide +kernel
theorem dX8_isTorn_8 : decode cX8_isTorn 8 = .ok (.ifCond .eq 7, 3) := by decide +kernel
theorem dX8_isTorn_11 : decode cX8_isTorn 11 = .ok (.iconst 1, 1) := by decide +kernel
theorem dX8_isTorn_12 : decode cX8_isTorn 12 = .ok (.goto 4, 3) := by decide +kernel
theorem dX8_isTorn_15 : decode cX8_isTorn 15 = .ok (.iconst 0, 1) := by decide +kernel
theorem dX8_isTorn_16 : decode cX8_isTorn 16 = .ok (.ireturn, 1) := by decide +kernel
theorem dX8_owed_0 : decode cX8_owed 0 = .ok (.aload_n 0, 1) := by decide +kernel
theorem dX8_owed_1 : decode cX8_owed 1 = .ok (.getfield 9, 3) := by decide +kernel
theorem dX8_owed_4 : decode cX8_owed 4 = .ok (.iload_n 1, 1) := by decide +kernel
theorem dX8_owed_5 : decode cX8_owed 5 = .ok (.invokevirtual 49, 3) := by decide +kernel
theorem dX8_owed_8 : decode cX8_owed 8 = .ok (.ifCond .eq 27, 3) := by decide +kernel
theorem dX8_owed_11 : decode cX8_owed 11 = .ok (.aload_n 0, 1) := by decide +kernel
theorem dX8_owed_12 : decode cX8_owed 12 = .ok (.iload_n 1, 1) := by decide +kernel
theorem dX8_owed_13 : decode cX8_owed 13 = .ok (.invokevirtual 53, 3) := by decide +kernel
theorem dX8_owed_16 : decode cX8_owed 16 = .ok (.ifCond .ne 19, 3) := by decide +kernel
theorem dX8_owed_19 : decode cX8_owed 19 = .ok (.aload_n 0, 1) := by decide +kernel
theorem dX8_owed_20 : decode cX8_owed 20 = .ok (.getfield 9, 3) := by decide +kernel
theorem dX8_owed_23 : decode cX8_owed 23 = .ok (.getfield 56, 3) := by decide +kernel
theorem dX8_owed_26 : decode cX8_owed 26 = .ok (.iload_n 1, 1) := by decide +kernel
theorem dX8_owed_27 : decode cX8_owed 27 = .ok (.iaload, 1) := by decide +kernel
theorem dX8_owed_28 : decode cX8_owed 28 = .ok (.aload_n 0, 1) := by decide +kernel
theorem dX8_owed_29 : decode cX8_owed 29 = .ok (.getfield 32, 3) := by decide +kernel
theorem dX8_owed_32 : decode cX8_owed 32 = .ok (.if_icmp .ge 5, 3) := by decide +kernel
theorem dX8_owed_35 : decode cX8_owed 35 = .ok (.iconst 0, 1) := by decide +kernel
theorem dX8_owed_36 : decode cX8_owed 36 = .ok (.ireturn, 1) := by decide +kernel
theorem dX8_owed_37 : decode cX8_owed 37 = .ok (.aload_n 0, 1) := by decide +kernel
theorem dX8_owed_38 : decode cX8_owed 38 = .ok (.getfield 9, 3) := by decide +kernel
theorem dX8_owed_41 : decode cX8_owed 41 = .ok (.getfield 59, 3) := by decide +kernel
theorem dX8_owed_44 : decode cX8_owed 44 = .ok (.iload_n 1, 1) := by decide +kernel
theorem dX8_owed_45 : decode cX8_owed 45 = .ok (.iaload, 1) := by decide +kernel
theorem dX8_owed_46 : decode cX8_owed 46 = .ok (.aload_n 0, 1) := by decide +kernel
theorem dX8_owed_47 : decode cX8_owed 47 = .ok (.getfield 22, 3) := by decide +kernel
theorem dX8_owed_50 : decode cX8_owed 50 = .ok (.iload_n 1, 1) := by decide +kernel
theorem dX8_owed_51 : decode cX8_owed 51 = .ok (.iaload, 1) := by decide +kernel
theorem dX8_owed_52 : decode cX8_owed 52 = .ok (.isub, 1) := by decide +kernel
theorem dX8_owed_53 : decode cX8_owed 53 = .ok (.ireturn, 1) := by decide +kernel
theorem dX8_owedInAll_0 : decode cX8_owedInAll 0 = .ok (.aload_n 0, 1) := by decide +kernel
theorem dX8_owedInAll_1 : decode cX8_owedInAll 1 = .ok (.bipush 31, 2) := by decide +kernel
theorem dX8_owedInAll_3 : decode cX8_owedInAll 3 = .ok (.invokevirtual 62, 3) := by decide +kernel
theorem dX8_owedInAll_6 : decode cX8_owedInAll 6 = .ok (.ireturn, 1) := by decide +kernel
theorem dX8_owedBy_0 : decode cX8_owedBy 0 = .ok (.iconst 0, 1) := by decide +kernel
theorem dX8_owedBy_1 : decode cX8_owedBy 1 = .ok (.istore_n 2, 1) := by decide +kernel
theorem dX8_owedBy_2 : decode cX8_owedBy 2 = .ok (.iconst 0, 1) := by decide +kernel
theorem dX8_owedBy_3 : decode cX8_owedBy 3 = .ok (.istore_n 3, 1) := by decide +kernel
theorem dX8_owedBy_4 : decode cX8_owedBy 4 = .ok (.iload_n 3, 1) := by decide +kernel
theorem dX8_owedBy_5 : decode cX8_owedBy 5 = .ok (.aload_n 0, 1) := by decide +kernel
theorem dX8_owedBy_6 : decode cX8_owedBy 6 = .ok (.getfield 9, 3) := by decide +kernel
theorem dX8_owedBy_9 : decode cX8_owedBy 9 = .ok (.getfield 66, 3) := by decide +kernel
theorem dX8_owedBy_12 : decode cX8_owedBy 12 = .ok (.if_icmp .ge 25, 3) := by decide +kernel
theorem dX8_owedBy_15 : decode cX8_owedBy 15 = .ok (.iload_n 1, 1) := by decide +kernel
theorem dX8_owedBy_16 : decode cX8_owedBy 16 = .ok (.iload_n 3, 1) := by decide +kernel
theorem dX8_owedBy_17 : decode cX8_owedBy 17 = .ok (.ishr, 1) := by decide +kernel
theorem dX8_owedBy_18 : decode cX8_owedBy 18 = .ok (.iconst 1, 1) := by decide +kernel
theorem dX8_owedBy_19 : decode cX8_owedBy 19 = .ok (.iand, 1) := by decide +kernel
theorem dX8_owedBy_20 : decode cX8_owedBy 20 = .ok (.ifCond .eq 11, 3) := by decide +kernel
theorem dX8_owedBy_23 : decode cX8_owedBy 23 = .ok (.iload_n 2, 1) := by decide +kernel
theorem dX8_owedBy_24 : decode cX8_owedBy 24 = .ok (.aload_n 0, 1) := by decide +kernel
theorem dX8_owedBy_25 : decode cX8_owedBy 25 = .ok (.iload_n 3, 1) := by decide +kernel
theorem dX8_owedBy_26 : decode cX8_owedBy 26 = .ok (.invokevirtual 69, 3) := by decide +kernel
theorem dX8_owedBy_29 : decode cX8_owedBy 29 = .ok (.iadd, 1) := by decide +kernel
theorem dX8_owedBy_30 : decode cX8_owedBy 30 = .ok (.istore_n 2, 1) := by decide +kernel
theorem dX8_owedBy_31 : decode cX8_owedBy 31 = .ok (.iinc 3 1, 3) := by decide +kernel
theorem dX8_owedBy_34 : decode cX8_owedBy 34 = .ok (.goto (-30), 3) := by decide +kernel
theorem dX8_owedBy_37 : decode cX8_owedBy 37 = .ok (.iload_n 2, 1) := by decide +kernel
theorem dX8_owedBy_38 : decode cX8_owedBy 38 = .ok (.ireturn, 1) := by decide +kernel
theorem dX8_filledInAll_0 : decode cX8_filledInAll 0 = .ok (.iconst 0, 1) := by decide +kernel
theorem dX8_filledInAll_1 : decode cX8_filledInAll 1 = .ok (.istore_n 1, 1) := by decide +kernel
theorem dX8_filledInAll_2 : decode cX8_filledInAll 2 = .ok (.iconst 0, 1) := by decide +kernel
theorem dX8_filledInAll_3 : decode cX8_filledInAll 3 = .ok (.istore_n 2, 1) := by decide +kernel
theorem dX8_filledInAll_4 : decode cX8_filledInAll 4 = .ok (.iload_n 2, 1) := by decide +kernel
theorem dX8_filledInAll_5 : decode cX8_filledInAll 5 = .ok (.iconst 5, 1) := by decide +kernel
theorem dX8_filledInAll_6 : decode cX8_filledInAll 6 = .ok (.if_icmp .ge 18, 3) := by decide +kernel
theorem dX8_filledInAll_9 : decode cX8_filledInAll 9 = .ok (.iload_n 1, 1) := by decide +kernel
theorem dX8_filledInAll_10 : decode cX8_filledInAll 10 = .ok (.aload_n 0, 1) := by decide +kernel
theorem dX8_filledInAll_11 : decode cX8_filledInAll 11 = .ok (.getfield 22, 3) := by decide +kernel
theorem dX8_filledInAll_14 : decode cX8_filledInAll 14 = .ok (.iload_n 2, 1) := by decide +kernel
theorem dX8_filledInAll_15 : decode cX8_filledInAll 15 = .ok (.iaload, 1) := by decide +kernel
theorem dX8_filledInAll_16 : decode cX8_filledInAll 16 = .ok (.iadd, 1) := by decide +kernel
theorem dX8_filledInAll_17 : decode cX8_filledInAll 17 = .ok (.istore_n 1, 1) := by decide +kernel
theorem dX8_filledInAll_18 : decode cX8_filledInAll 18 = .ok (.iinc 2 1, 3) := by decide +kernel
theorem dX8_filledInAll_21 : decode cX8_filledInAll 21 = .ok (.goto (-17), 3) := by decide +kernel
theorem dX8_filledInAll_24 : decode cX8_filledInAll 24 = .ok (.iload_n 1, 1) := by decide +kernel
theorem dX8_filledInAll_25 : decode cX8_filledInAll 25 = .ok (.ireturn, 1) := by decide +kernel
theorem dX8_has_0 : decode cX8_has 0 = .ok (.aload_n 0, 1) := by decide +kernel
theorem dX8_has_1 : decode cX8_has 1 = .ok (.getfield 9, 3) := by decide +kernel
theorem dX8_has_4 : decode cX8_has 4 = .ok (.iload_n 1, 1) := by decide +kernel
theorem dX8_has_5 : decode cX8_has 5 = .ok (.invokevirtual 72, 3) := by decide +kernel
theorem dX8_has_8 : decode cX8_has 8 = .ok (.ifCond .ne 5, 3) := by decide +kernel
theorem dX8_has_11 : decode cX8_has 11 = .ok (.iconst 0, 1) := by decide +kernel
theorem dX8_has_12 : decode cX8_has 12 = .ok (.ireturn, 1) := by decide +kernel
theorem dX8_has_13 : decode cX8_has 13 = .ok (.aload_n 0, 1) := by decide +kernel
theorem dX8_has_14 : decode cX8_has 14 = .ok (.getfield 9, 3) := by decide +kernel
theorem dX8_has_17 : decode cX8_has 17 = .ok (.getfield 75, 3) := by decide +kernel
theorem dX8_has_20 : decode cX8_has 20 = .ok (.iload_n 1, 1) := by decide +kernel
theorem dX8_has_21 : decode cX8_has 21 = .ok (.iaload, 1) := by decide +kernel
theorem dX8_has_22 : decode cX8_has 22 = .ok (.iconst 1, 1) := by decide +kernel
theorem dX8_has_23 : decode cX8_has 23 = .ok (.if_icmp .ne 14, 3) := by decide +kernel
theorem dX8_has_26 : decode cX8_has 26 = .ok (.aload_n 0, 1) := by decide +kernel
theorem dX8_has_27 : decode cX8_has 27 = .ok (.getfield 19, 3) := by decide +kernel
theorem dX8_has_30 : decode cX8_has 30 = .ok (.iload_n 1, 1) := by decide +kernel
theorem dX8_has_31 : decode cX8_has 31 = .ok (.iaload, 1) := by decide +kernel
theorem dX8_has_32 : decode cX8_has 32 = .ok (.iconst 2, 1) := by decide +kernel
theorem dX8_has_33 : decode cX8_has 33 = .ok (.idiv, 1) := by decide +kernel
theorem dX8_has_34 : decode cX8_has 34 = .ok (.goto 9, 3) := by decide +kernel
theorem dX8_has_37 : decode cX8_has 37 = .ok (.aload_n 0, 1) := by decide +kernel
theorem dX8_has_38 : decode cX8_has 38 = .ok (.getfield 19, 3) := by decide +kernel
theorem dX8_has_41 : decode cX8_has 41 = .ok (.iload_n 1, 1) := by decide +kernel
theorem dX8_has_42 : decode cX8_has 42 = .ok (.iaload, 1) := by decide +kernel
theorem dX8_has_43 : decode cX8_has 43 = .ok (.ireturn, 1) := by decide +kernel
theorem dX8_takes_0 : decode cX8_takes 0 = .ok (.aload_n 0, 1) := by decide +kernel
theorem dX8_takes_1 : decode cX8_takes 1 = .ok (.iload_n 1, 1) := by decide +kernel
theorem dX8_takes_2 : decode cX8_takes 2 = .ok (.invokevirtual 78, 3) := by decide +kernel
theorem dX8_takes_5 : decode cX8_takes 5 = .ok (.iconst 1, 1) := by decide +kernel
theorem dX8_takes_6 : decode cX8_takes 6 = .ok (.if_icmp .lt 25, 3) := by decide +kernel
theorem dX8_takes_9 : decode cX8_takes 9 = .ok (.aload_n 0, 1) := by decide +kernel
theorem dX8_takes_10 : decode cX8_takes 10 = .ok (.iload_n 2, 1) := by decide +kernel
theorem dX8_takes_11 : decode cX8_takes 11 = .ok (.invokevirtual 69, 3) := by decide +kernel
theorem dX8_takes_14 : decode cX8_takes 14 = .ok (.iconst 1, 1) := by decide +kernel
theorem dX8_takes_15 : decode cX8_takes 15 = .ok (.if_icmp .lt 16, 3) := by decide +kernel
theorem dX8_takes_18 : decode cX8_takes 18 = .ok (.aload_n 0, 1) := by decide +kernel
theorem dX8_takes_19 : decode cX8_takes 19 = .ok (.getfield 9, 3) := by decide +kernel
theorem dX8_takes_22 : decode cX8_takes 22 = .ok (.getfield 56, 3) := by decide +kernel
theorem dX8_takes_25 : decode cX8_takes 25 = .ok (.iload_n 2, 1) := by decide +kernel
theorem dX8_takes_26 : decode cX8_takes 26 = .ok (.iaload, 1) := by decide +kernel
theorem dX8_takes_27 : decode cX8_takes 27 = .ok (.iload_n 3, 1) := by decide +kernel
theorem dX8_takes_28 : decode cX8_takes 28 = .ok (.if_icmp .ge 5, 3) := by decide +kernel
theorem dX8_takes_31 : decode cX8_takes 31 = .ok (.iconst 0, 1) := by decide +kernel
theorem dX8_takes_32 : decode cX8_takes 32 = .ok (.ireturn, 1) := by decide +kernel
theorem dX8_takes_33 : decode cX8_takes 33 = .ok (.aload_n 0, 1) := by decide +kernel
theorem dX8_takes_34 : decode cX8_takes 34 = .ok (.getfield 9, 3) := by decide +kernel
theorem dX8_takes_37 : decode cX8_takes 37 = .ok (.getfield 81, 3) := by decide +kernel
theorem dX8_takes_40 : decode cX8_takes 40 = .ok (.iload_n 2, 1) := by decide +kernel
theorem dX8_takes_41 : decode cX8_takes 41 = .ok (.iaload, 1) := by decide +kernel
theorem dX8_takes_42 : decode cX8_takes 42 = .ok (.iconst 1, 1) := by decide +kernel
theorem dX8_takes_43 : decode cX8_takes 43 = .ok (.if_icmp .ne 22, 3) := by decide +kernel
theorem dX8_takes_46 : decode cX8_takes 46 = .ok (.aload_n 0, 1) := by decide +kernel
theorem dX8_takes_47 : decode cX8_takes 47 = .ok (.getfield 9, 3) := by decide +kernel
theorem dX8_takes_50 : decode cX8_takes 50 = .ok (.getfield 75, 3) := by decide +kernel
theorem dX8_takes_53 : decode cX8_takes 53 = .ok (.iload_n 1, 1) := by decide +kernel
theorem dX8_takes_54 : decode cX8_takes 54 = .ok (.iaload, 1) := by decide +kernel
theorem dX8_takes_55 : decode cX8_takes 55 = .ok (.iconst 1, 1) := by decide +kernel
theorem dX8_takes_56 : decode cX8_takes 56 = .ok (.if_icmp .eq 7, 3) := by decide +kernel
theorem dX8_takes_59 : decode cX8_takes 59 = .ok (.iconst 1, 1) := by decide +kernel
theorem dX8_takes_60 : decode cX8_takes 60 = .ok (.goto 4, 3) := by decide +kernel
theorem dX8_takes_63 : decode cX8_takes 63 = .ok (.iconst 0, 1) := by decide +kernel
theorem dX8_takes_64 : decode cX8_takes 64 = .ok (.ireturn, 1) := by decide +kernel
theorem dX8_takes_65 : decode cX8_takes 65 = .ok (.aload_n 0, 1) := by decide +kernel
theorem dX8_takes_66 : decode cX8_takes 66 = .ok (.getfield 9, 3) := by decide +kernel
theorem dX8_takes_69 : decode cX8_takes 69 = .ok (.getfield 81, 3) := by decide +kernel
theorem dX8_takes_72 : decode cX8_takes 72 = .ok (.iload_n 2, 1) := by decide +kernel
theorem dX8_takes_73 : decode cX8_takes 73 = .ok (.iaload, 1) := by decide +kernel
theorem dX8_takes_74 : decode cX8_takes 74 = .ok (.iconst 2, 1) := by decide +kernel
theorem dX8_takes_75 : decode cX8_takes 75 = .ok (.if_icmp .ne 14, 3) := by decide +kernel
theorem dX8_takes_78 : decode cX8_takes 78 = .ok (.aload_n 0, 1) := by decide +kernel
theorem dX8_takes_79 : decode cX8_takes 79 = .ok (.getfield 9, 3) := by decide +kernel
theorem dX8_takes_82 : decode cX8_takes 82 = .ok (.iload_n 3, 1) := by decide +kernel
theorem dX8_takes_83 : decode cX8_takes 83 = .ok (.invokevirtual 84, 3) := by decide +kernel
theorem dX8_takes_86 : decode cX8_takes 86 = .ok (.ifCond .ne 7, 3) := by decide +kernel
theorem dX8_takes_89 : decode cX8_takes 89 = .ok (.iconst 1, 1) := by decide +kernel
theorem dX8_takes_90 : decode cX8_takes 90 = .ok (.goto 4, 3) := by decide +kernel
theorem dX8_takes_93 : decode cX8_takes 93 = .ok (.iconst 0, 1) := by decide +kernel
theorem dX8_takes_94 : decode cX8_takes 94 = .ok (.ireturn, 1) := by decide +kernel
theorem dX8_canDrop_0 : decode cX8_canDrop 0 = .ok (.aload_n 0, 1) := by decide +kernel
theorem dX8_canDrop_1 : decode cX8_canDrop 1 = .ok (.getfield 9, 3) := by decide +kernel
theorem dX8_canDrop_4 : decode cX8_canDrop 4 = .ok (.iload_n 1, 1) := by decide +kernel
theorem dX8_canDrop_5 : decode cX8_canDrop 5 = .ok (.invokevirtual 72, 3) := by decide +kernel
theorem dX8_canDrop_8 : decode cX8_canDrop 8 = .ok (.ifCond .eq 14, 3) := by decide +kernel
theorem dX8_canDrop_11 : decode cX8_canDrop 11 = .ok (.aload_n 0, 1) := by decide +kernel
theorem dX8_canDrop_12 : decode cX8_canDrop 12 = .ok (.getfield 9, 3) := by decide +kernel
theorem dX8_canDrop_15 : decode cX8_canDrop 15 = .ok (.iload_n 2, 1) := by decide +kernel
theorem dX8_canDrop_16 : decode cX8_canDrop 16 = .ok (.invokevirtual 49, 3) := by decide +kernel
theorem dX8_canDrop_19 : decode cX8_canDrop 19 = .ok (.ifCond .ne 5, 3) := by decide +kernel
theorem dX8_canDrop_22 : decode cX8_canDrop 22 = .ok (.iconst 0, 1) := by decide +kernel
theorem dX8_canDrop_23 : decode cX8_canDrop 23 = .ok (.ireturn, 1) := by decide +kernel
theorem dX8_canDrop_24 : decode cX8_canDrop 24 = .ok (.aload_n 0, 1) := by decide +kernel
theorem dX8_canDrop_25 : decode cX8_canDrop 25 = .ok (.getfield 15, 3) := by decide +kernel
theorem dX8_canDrop_28 : decode cX8_canDrop 28 = .ok (.iload_n 1, 1) := by decide +kernel
theorem dX8_canDrop_29 : decode cX8_canDrop 29 = .ok (.iaload, 1) := by decide +kernel
theorem dX8_canDrop_30 : decode cX8_canDrop 30 = .ok (.aload_n 0, 1) := by decide +kernel
theorem dX8_canDrop_31 : decode cX8_canDrop 31 = .ok (.getfield 9, 3) := by decide +kernel
theorem dX8_canDrop_34 : decode cX8_canDrop 34 = .ok (.getfield 87, 3) := by decide +kernel
theorem dX8_canDrop_37 : decode cX8_canDrop 37 = .ok (.iload_n 2, 1) := by decide +kernel
theorem dX8_canDrop_38 : decode cX8_canDrop 38 = .ok (.iaload, 1) := by decide +kernel
theorem dX8_canDrop_39 : decode cX8_canDrop 39 = .ok (.if_icmp .ne 20, 3) := by decide +kernel
theorem dX8_canDrop_42 : decode cX8_canDrop 42 = .ok (.aload_n 0, 1) := by decide +kernel
theorem dX8_canDrop_43 : decode cX8_canDrop 43 = .ok (.iload_n 1, 1) := by decide +kernel
theorem dX8_canDrop_44 : decode cX8_canDrop 44 = .ok (.iload_n 2, 1) := by decide +kernel
theorem dX8_canDrop_45 : decode cX8_canDrop 45 = .ok (.aload_n 0, 1) := by decide +kernel
theorem dX8_canDrop_46 : decode cX8_canDrop 46 = .ok (.getfield 32, 3) := by decide +kernel
theorem dX8_canDrop_49 : decode cX8_canDrop 49 = .ok (.invokevirtual 90, 3) := by decide +kernel
theorem dX8_canDrop_52 : decode cX8_canDrop 52 = .ok (.ifCond .eq 7, 3) := by decide +kernel
theorem dX8_canDrop_55 : decode cX8_canDrop 55 = .ok (.iconst 1, 1) := by decide +kernel
theorem dX8_canDrop_56 : decode cX8_canDrop 56 = .ok (.goto 4, 3) := by decide +kernel
theorem dX8_canDrop_59 : decode cX8_canDrop 59 = .ok (.iconst 0, 1) := by decide +kernel
theorem dX8_canDrop_60 : decode cX8_canDrop 60 = .ok (.ireturn, 1) := by decide +kernel
theorem dX8_droppable_0 : decode cX8_droppable 0 = .ok (.iconst 0, 1) := by decide +kernel
theorem dX8_droppable_1 : decode cX8_droppable 1 = .ok (.istore_n 2, 1) := by decide +kernel
theorem dX8_droppable_2 : decode cX8_droppable 2 = .ok (.iconst 0, 1) := by decide +kernel
theorem dX8_droppable_3 : decode cX8_droppable 3 = .ok (.istore_n 3, 1) := by decide +kernel
theorem dX8_droppable_4 : decode cX8_droppable 4 = .ok (.iload_n 3, 1) := by decide +kernel
theorem dX8_droppable_5 : decode cX8_droppable 5 = .ok (.aload_n 0, 1) := by decide +kernel
theorem dX8_droppable_6 : decode cX8_droppable 6 = .ok (.getfield 9, 3) := by decide +kernel
theorem dX8_droppable_9 : decode cX8_droppable 9 = .ok (.getfield 66, 3) := by decide +kernel
theorem dX8_droppable_12 : decode cX8_droppable 12 = .ok (.if_icmp .ge 24, 3) := by decide +kernel
theorem dX8_droppable_15 : decode cX8_droppable 15 = .ok (.aload_n 0, 1) := by decide +kernel
theorem dX8_droppable_16 : decode cX8_droppable 16 = .ok (.iload_n 1, 1) := by decide +kernel
theorem dX8_droppable_17 : decode cX8_droppable 17 = .ok (.iload_n 3, 1) := by decide +kernel
theorem dX8_droppable_18 : decode cX8_droppable 18 = .ok (.invokevirtual 94, 3) := by decide +kernel
theorem dX8_droppable_21 : decode cX8_droppable 21 = .ok (.ifCond .eq 9, 3) := by decide +kernel
theorem dX8_droppable_24 : decode cX8_droppable 24 = .ok (.iload_n 2, 1) := by decide +kernel
theorem dX8_droppable_25 : decode cX8_droppable 25 = .ok (.iconst 1, 1) := by decide +kernel
theorem dX8_droppable_26 : decode cX8_droppable 26 = .ok (.iload_n 3, 1) := by decide +kernel
theorem dX8_droppable_27 : decode cX8_droppable 27 = .ok (.ishl, 1) := by decide +kernel
theorem dX8_droppable_28 : decode cX8_droppable 28 = .ok (.ior, 1) := by decide +kernel
theorem dX8_droppable_29 : decode cX8_droppable 29 = .ok (.istore_n 2, 1) := by decide +kernel
theorem dX8_droppable_30 : decode cX8_droppable 30 = .ok (.iinc 3 1, 3) := by decide +kernel
theorem dX8_droppable_33 : decode cX8_droppable 33 = .ok (.goto (-29), 3) := by decide +kernel
theorem dX8_droppable_36 : decode cX8_droppable 36 = .ok (.iload_n 2, 1) := by decide +kernel
theorem dX8_droppable_37 : decode cX8_droppable 37 = .ok (.ireturn, 1) := by decide +kernel
theorem dX8_servable_0 : decode cX8_servable 0 = .ok (.aload_n 0, 1) := by decide +kernel
theorem dX8_servable_1 : decode cX8_servable 1 = .ok (.getfield 9, 3) := by decide +kernel
theorem dX8_servable_4 : decode cX8_servable 4 = .ok (.iload_n 1, 1) := by decide +kernel
theorem dX8_servable_5 : decode cX8_servable 5 = .ok (.invokevirtual 72, 3) := by decide +kernel
theorem dX8_servable_8 : decode cX8_servable 8 = .ok (.ifCond .ne 5, 3) := by decide +kernel
theorem dX8_servable_11 : decode cX8_servable 11 = .ok (.iconst 0, 1) := by decide +kernel
theorem dX8_servable_12 : decode cX8_servable 12 = .ok (.ireturn, 1) := by decide +kernel
theorem dX8_servable_13 : decode cX8_servable 13 = .ok (.iconst 0, 1) := by decide +kernel
theorem dX8_servable_14 : decode cX8_servable 14 = .ok (.istore_n 3, 1) := by decide +kernel
theorem dX8_servable_15 : decode cX8_servable 15 = .ok (.iload_n 2, 1) := by decide +kernel
theorem dX8_servable_16 : decode cX8_servable 16 = .ok (.istore 4, 2) := by decide +kernel
theorem dX8_servable_18 : decode cX8_servable 18 = .ok (.aload_n 0, 1) := by decide +kernel
theorem dX8_servable_19 : decode cX8_servable 19 = .ok (.getfield 32, 3) := by decide +kernel
theorem dX8_servable_22 : decode cX8_servable 22 = .ok (.istore 5, 2) := by decide +kernel
theorem dX8_servable_24 : decode cX8_servable 24 = .ok (.iload 5, 2) := by decide +kernel
theorem dX8_servable_26 : decode cX8_servable 26 = .ok (.bipush 9, 2) := by decide +kernel
theorem dX8_servable_28 : decode cX8_servable 28 = .ok (.if_icmp .gt 90, 3) := by decide +kernel
theorem dX8_servable_31 : decode cX8_servable 31 = .ok (.iconst 0, 1) := by decide +kernel
theorem dX8_servable_32 : decode cX8_servable 32 = .ok (.istore 6, 2) := by decide +kernel
theorem dX8_servable_34 : decode cX8_servable 34 = .ok (.iload 6, 2) := by decide +kernel
theorem dX8_servable_36 : decode cX8_servable 36 = .ok (.aload_n 0, 1) := by decide +kernel
theorem dX8_servable_37 : decode cX8_servable 37 = .ok (.getfield 9, 3) := by decide +kernel
theorem dX8_servable_40 : decode cX8_servable 40 = .ok (.getfield 66, 3) := by decide +kernel
theorem dX8_servable_43 : decode cX8_servable 43 = .ok (.if_icmp .ge 43, 3) := by decide +kernel
theorem dX8_servable_46 : decode cX8_servable 46 = .ok (.iload 4, 2) := by decide +kernel
theorem dX8_servable_48 : decode cX8_servable 48 = .ok (.aload_n 0, 1) := by decide +kernel
theorem dX8_servable_49 : decode cX8_servable 49 = .ok (.getfield 9, 3) := by decide +kernel
theorem dX8_servable_52 : decode cX8_servable 52 = .ok (.getfield 87, 3) := by decide +kernel
theorem dX8_servable_55 : decode cX8_servable 55 = .ok (.iload 6, 2) := by decide +kernel
theorem dX8_servable_57 : decode cX8_servable 57 = .ok (.iaload, 1) := by decide +kernel
theorem dX8_servable_58 : decode cX8_servable 58 = .ok (.if_icmp .ne 22, 3) := by decide +kernel
theorem dX8_servable_61 : decode cX8_servable 61 = .ok (.aload_n 0, 1) := by decide +kernel
theorem dX8_servable_62 : decode cX8_servable 62 = .ok (.iload_n 1, 1) := by decide +kernel
theorem dX8_servable_63 : decode cX8_servable 63 = .ok (.iload 6, 2) := by decide +kernel
theorem dX8_servable_65 : decode cX8_servable 65 = .ok (.iload 5, 2) := by decide +kernel
theorem dX8_servable_67 : decode cX8_servable 67 = .ok (.invokevirtual 90, 3) := by decide +kernel
theorem dX8_servable_70 : decode cX8_servable 70 = .ok (.ifCond .eq 10, 3) := by decide +kernel
theorem dX8_servable_73 : decode cX8_servable 73 = .ok (.iload_n 3, 1) := by decide +kernel
theorem dX8_servable_74 : decode cX8_servable 74 = .ok (.iconst 1, 1) := by decide +kernel
theorem dX8_servable_75 : decode cX8_servable 75 = .ok (.iload 6, 2) := by decide +kernel
theorem dX8_servable_77 : decode cX8_servable 77 = .ok (.ishl, 1) := by decide +kernel
theorem dX8_servable_78 : decode cX8_servable 78 = .ok (.ior, 1) := by decide +kernel
theorem dX8_servable_79 : decode cX8_servable 79 = .ok (.istore_n 3, 1) := by decide +kernel
theorem dX8_servable_80 : decode cX8_servable 80 = .ok (.iinc 6 1, 3) := by decide +kernel
theorem dX8_servable_83 : decode cX8_servable 83 = .ok (.goto (-49), 3) := by decide +kernel
theorem dX8_servable_86 : decode cX8_servable 86 = .ok (.iload 4, 2) := by decide +kernel
theorem dX8_servable_88 : decode cX8_servable 88 = .ok (.aload_n 0, 1) := by decide +kernel
theorem dX8_servable_89 : decode cX8_servable 89 = .ok (.getfield 9, 3) := by decide +kernel
theorem dX8_servable_92 : decode cX8_servable 92 = .ok (.aload_n 0, 1) := by decide +kernel
theorem dX8_servable_93 : decode cX8_servable 93 = .ok (.getfield 9, 3) := by decide +kernel
theorem dX8_servable_96 : decode cX8_servable 96 = .ok (.getfield 75, 3) := by decide +kernel
theorem dX8_servable_99 : decode cX8_servable 99 = .ok (.iload_n 1, 1) := by decide +kernel
theorem dX8_servable_100 : decode cX8_servable 100 = .ok (.iaload, 1) := by decide +kernel
theorem dX8_servable_101 : decode cX8_servable 101 = .ok (.iload 5, 2) := by decide +kernel
theorem dX8_servable_103 : decode cX8_servable 103 = .ok (.invokevirtual 98, 3) := by decide +kernel
theorem dX8_servable_106 : decode cX8_servable 106 = .ok (.iadd, 1) := by decide +kernel
theorem dX8_servable_107 : decode cX8_servable 107 = .ok (.invokestatic 102, 3) := by decide +kernel
theorem dX8_servable_110 : decode cX8_servable 110 = .ok (.istore 4, 2) := by decide +kernel
theorem dX8_servable_112 : decode cX8_servable 112 = .ok (.iinc 5 1, 3) := by decide +kernel
theorem dX8_servable_115 : decode cX8_servable 115 = .ok (.goto (-91), 3) := by decide +kernel
theorem dX8_servable_118 : decode cX8_servable 118 = .ok (.iload_n 3, 1) := by decide +kernel
theorem dX8_servable_119 : decode cX8_servable 119 = .ok (.ireturn, 1) := by decide +kernel
theorem dX8_drop_0 : decode cX8_drop 0 = .ok (.aload_n 0, 1) := by decide +kernel
theorem dX8_drop_1 : decode cX8_drop 1 = .ok (.getfield 9, 3) := by decide +kernel
theorem dX8_drop_4 : decode cX8_drop 4 = .ok (.iload_n 1, 1) := by decide +kernel
theorem dX8_drop_5 : decode cX8_drop 5 = .ok (.invokevirtual 72, 3) := by decide +kernel
theorem dX8_drop_8 : decode cX8_drop 8 = .ok (.ifCond .eq 14, 3) := by decide +kernel
theorem dX8_drop_11 : decode cX8_drop 11 = .ok (.aload_n 0, 1) := by decide +kernel
theorem dX8_drop_12 : decode cX8_drop 12 = .ok (.getfield 9, 3) := by decide +kernel
theorem dX8_drop_15 : decode cX8_drop 15 = .ok (.iload_n 2, 1) := by decide +kernel
theorem dX8_drop_16 : decode cX8_drop 16 = .ok (.invokevirtual 49, 3) := by decide +kernel
theorem dX8_drop_19 : decode cX8_drop 19 = .ok (.ifCond .ne 4, 3) := by decide +kernel
theorem dX8_drop_22 : decode cX8_drop 22 = .ok (.return_, 1) := by decide +kernel
theorem dX8_drop_23 : decode cX8_drop 23 = .ok (.aload_n 0, 1) := by decide +kernel
theorem dX8_drop_24 : decode cX8_drop 24 = .ok (.getfield 19, 3) := by decide +kernel
theorem dX8_drop_27 : decode cX8_drop 27 = .ok (.iload_n 1, 1) := by decide +kernel
theorem dX8_drop_28 : decode cX8_drop 28 = .ok (.dup2, 1) := by decide +kernel
theorem dX8_drop_29 : decode cX8_drop 29 = .ok (.iaload, 1) := by decide +kernel
theorem dX8_drop_30 : decode cX8_drop 30 = .ok (.aload_n 0, 1) := by decide +kernel
theorem dX8_drop_31 : decode cX8_drop 31 = .ok (.getfield 9, 3) := by decide +kernel
theorem dX8_drop_34 : decode cX8_drop 34 = .ok (.getfield 75, 3) := by decide +kernel
theorem dX8_drop_37 : decode cX8_drop 37 = .ok (.iload_n 1, 1) := by decide +kernel
theorem dX8_drop_38 : decode cX8_drop 38 = .ok (.iaload, 1) := by decide +kernel
theorem dX8_drop_39 : decode cX8_drop 39 = .ok (.iconst 1, 1) := by decide +kernel
theorem dX8_drop_40 : decode cX8_drop 40 = .ok (.if_icmp .ne 7, 3) := by decide +kernel
theorem dX8_drop_43 : decode cX8_drop 43 = .ok (.iconst 2, 1) := by decide +kernel
theorem dX8_drop_44 : decode cX8_drop 44 = .ok (.goto 4, 3) := by decide +kernel
theorem dX8_drop_47 : decode cX8_drop 47 = .ok (.iconst 1, 1) := by decide +kernel
theorem dX8_drop_48 : decode cX8_drop 48 = .ok (.isub, 1) := by decide +kernel
theorem dX8_drop_49 : decode cX8_drop 49 = .ok (.iastore, 1) := by decide +kernel
theorem dX8_drop_50 : decode cX8_drop 50 = .ok (.aload_n 0, 1) := by decide +kernel
theorem dX8_drop_51 : decode cX8_drop 51 = .ok (.getfield 22, 3) := by decide +kernel
theorem dX8_drop_54 : decode cX8_drop 54 = .ok (.iload_n 2, 1) := by decide +kernel
theorem dX8_drop_55 : decode cX8_drop 55 = .ok (.dup2, 1) := by decide +kernel
theorem dX8_drop_56 : decode cX8_drop 56 = .ok (.iaload, 1) := by decide +kernel
theorem dX8_drop_57 : decode cX8_drop 57 = .ok (.iconst 1, 1) := by decide +kernel
theorem dX8_drop_58 : decode cX8_drop 58 = .ok (.iadd, 1) := by decide +kernel
theorem dX8_drop_59 : decode cX8_drop 59 = .ok (.iastore, 1) := by decide +kernel
theorem dX8_drop_60 : decode cX8_drop 60 = .ok (.return_, 1) := by decide +kernel
theorem dX8_tryDrop_0 : decode cX8_tryDrop 0 = .ok (.aload_n 0, 1) := by decide +kernel
theorem dX8_tryDrop_1 : decode cX8_tryDrop 1 = .ok (.iload_n 1, 1) := by decide +kernel
theorem dX8_tryDrop_2 : decode cX8_tryDrop 2 = .ok (.iload_n 2, 1) := by decide +kernel
theorem dX8_tryDrop_3 : decode cX8_tryDrop 3 = .ok (.invokevirtual 94, 3) := by decide +kernel
theorem dX8_tryDrop_6 : decode cX8_tryDrop 6 = .ok (.ifCond .ne 5, 3) := by decide +kernel
theorem dX8_tryDrop_9 : decode cX8_tryDrop 9 = .ok (.iconst 0, 1) := by decide +kernel
theorem dX8_tryDrop_10 : decode cX8_tryDrop 10 = .ok (.ireturn, 1) := by decide +kernel
theorem dX8_tryDrop_11 : decode cX8_tryDrop 11 = .ok (.aload_n 0, 1) := by decide +kernel
theorem dX8_tryDrop_12 : decode cX8_tryDrop 12 = .ok (.iload_n 1, 1) := by decide +kernel
theorem dX8_tryDrop_13 : decode cX8_tryDrop 13 = .ok (.iload_n 2, 1) := by decide +kernel
theorem dX8_tryDrop_14 : decode cX8_tryDrop 14 = .ok (.invokevirtual 107, 3) := by decide +kernel
theorem dX8_tryDrop_17 : decode cX8_tryDrop 17 = .ok (.iconst 1, 1) := by decide +kernel
theorem dX8_tryDrop_18 : decode cX8_tryDrop 18 = .ok (.ireturn, 1) := by decide +kernel
theorem dX8_push_0 : decode cX8_push 0 = .ok (.aload_n 0, 1) := by decide +kernel
theorem dX8_push_1 : decode cX8_push 1 = .ok (.getfield 9, 3) := by decide +kernel
theorem dX8_push_4 : decode cX8_push 4 = .ok (.iload_n 1, 1) := by decide +kernel
theorem dX8_push_5 : decode cX8_push 5 = .ok (.invokevirtual 72, 3) := by decide +kernel
theorem dX8_push_8 : decode cX8_push 8 = .ok (.ifCond .eq 28, 3) := by decide +kernel
theorem dX8_push_11 : decode cX8_push 11 = .ok (.aload_n 0, 1) := by decide +kernel
theorem dX8_push_12 : decode cX8_push 12 = .ok (.getfield 15, 3) := by decide +kernel
theorem dX8_push_15 : decode cX8_push 15 = .ok (.iload_n 1, 1) := by decide +kernel
theorem dX8_push_16 : decode cX8_push 16 = .ok (.aload_n 0, 1) := by decide +kernel
theorem dX8_push_17 : decode cX8_push 17 = .ok (.getfield 15, 3) := by decide +kernel
theorem dX8_push_20 : decode cX8_push 20 = .ok (.iload_n 1, 1) := by decide +kernel
theorem dX8_push_21 : decode cX8_push 21 = .ok (.iaload, 1) := by decide +kernel
theorem dX8_push_22 : decode cX8_push 22 = .ok (.iload_n 2, 1) := by decide +kernel
theorem dX8_push_23 : decode cX8_push 23 = .ok (.ifCond .eq 7, 3) := by decide +kernel
theorem dX8_push_26 : decode cX8_push 26 = .ok (.iconst 1, 1) := by decide +kernel
theorem dX8_push_27 : decode cX8_push 27 = .ok (.goto 4, 3) := by decide +kernel
theorem dX8_push_30 : decode cX8_push 30 = .ok (.iconst (-1), 1) := by decide +kernel
theorem dX8_push_31 : decode cX8_push 31 = .ok (.iadd, 1) := by decide +kernel
theorem dX8_push_32 : decode cX8_push 32 = .ok (.invokestatic 102, 3) := by decide +kernel
theorem dX8_push_35 : decode cX8_push 35 = .ok (.iastore, 1) := by decide +kernel
theorem dX8_push_36 : decode cX8_push 36 = .ok (.return_, 1) := by decide +kernel
theorem dX8_rip_0 : decode cX8_rip 0 = .ok (.aload_n 0, 1) := by decide +kernel
theorem dX8_rip_1 : decode cX8_rip 1 = .ok (.getfield 9, 3) := by decide +kernel
theorem dX8_rip_4 : decode cX8_rip 4 = .ok (.iload_n 1, 1) := by decide +kernel
theorem dX8_rip_5 : decode cX8_rip 5 = .ok (.invokevirtual 49, 3) := by decide +kernel
theorem dX8_rip_8 : decode cX8_rip 8 = .ok (.ifCond .eq 22, 3) := by decide +kernel
theorem dX8_rip_11 : decode cX8_rip 11 = .ok (.aload_n 0, 1) := by decide +kernel
theorem dX8_rip_12 : decode cX8_rip 12 = .ok (.dup, 1) := by decide +kernel
theorem dX8_rip_13 : decode cX8_rip 13 = .ok (.getfield 25, 3) := by decide +kernel
theorem dX8_rip_16 : decode cX8_rip 16 = .ok (.iconst 1, 1) := by decide +kernel
theorem dX8_rip_17 : decode cX8_rip 17 = .ok (.iload_n 1, 1) := by decide +kernel
theorem dX8_rip_18 : decode cX8_rip 18 = .ok (.ishl, 1) := by decide +kernel
theorem dX8_rip_19 : decode cX8_rip 19 = .ok (.ior, 1) := by decide +kernel
theorem dX8_rip_20 : decode cX8_rip 20 = .ok (.putfield 25, 3) := by decide +kernel
theorem dX8_rip_23 : decode cX8_rip 23 = .ok (.aload_n 0, 1) := by decide +kernel
theorem dX8_rip_24 : decode cX8_rip 24 = .ok (.getfield 22, 3) := by decide +kernel
theorem dX8_rip_27 : decode cX8_rip 27 = .ok (.iload_n 1, 1) := by decide +kernel
theorem dX8_rip_28 : decode cX8_rip 28 = .ok (.iconst 0, 1) := by decide +kernel
theorem dX8_rip_29 : decode cX8_rip 29 = .ok (.iastore, 1) := by decide +kernel
theorem dX8_rip_30 : decode cX8_rip 30 = .ok (.return_, 1) := by decide +kernel
theorem dX8_goDay_0 : decode cX8_goDay 0 = .ok (.aload_n 0, 1) := by decide +kernel
theorem dX8_goDay_1 : decode cX8_goDay 1 = .ok (.aload_n 0, 1) := by decide +kernel
theorem dX8_goDay_2 : decode cX8_goDay 2 = .ok (.getfield 32, 3) := by decide +kernel
theorem dX8_goDay_5 : decode cX8_goDay 5 = .ok (.iconst 1, 1) := by decide +kernel
theorem dX8_goDay_6 : decode cX8_goDay 6 = .ok (.iadd, 1) := by decide +kernel
theorem dX8_goDay_7 : decode cX8_goDay 7 = .ok (.invokevirtual 111, 3) := by decide +kernel
theorem dX8_goDay_10 : decode cX8_goDay 10 = .ok (.aload_n 0, 1) := by decide +kernel
theorem dX8_goDay_11 : decode cX8_goDay 11 = .ok (.getfield 29, 3) := by decide +kernel
theorem dX8_goDay_14 : decode cX8_goDay 14 = .ok (.isub, 1) := by decide +kernel
theorem dX8_goDay_15 : decode cX8_goDay 15 = .ok (.istore_n 1, 1) := by decide +kernel
theorem dX8_goDay_16 : decode cX8_goDay 16 = .ok (.iconst 0, 1) := by decide +kernel
theorem dX8_goDay_17 : decode cX8_goDay 17 = .ok (.istore_n 2, 1) := by decide +kernel
theorem dX8_goDay_18 : decode cX8_goDay 18 = .ok (.iload_n 2, 1) := by decide +kernel
theorem dX8_goDay_19 : decode cX8_goDay 19 = .ok (.aload_n 0, 1) := by decide +kernel
theorem dX8_goDay_20 : decode cX8_goDay 20 = .ok (.getfield 9, 3) := by decide +kernel
theorem dX8_goDay_23 : decode cX8_goDay 23 = .ok (.getfield 114, 3) := by decide +kernel
theorem dX8_goDay_26 : decode cX8_goDay 26 = .ok (.if_icmp .ge 45, 3) := by decide +kernel
theorem dX8_goDay_29 : decode cX8_goDay 29 = .ok (.aload_n 0, 1) := by decide +kernel
theorem dX8_goDay_30 : decode cX8_goDay 30 = .ok (.getfield 15, 3) := by decide +kernel
theorem dX8_goDay_33 : decode cX8_goDay 33 = .ok (.iload_n 2, 1) := by decide +kernel
theorem dX8_goDay_34 : decode cX8_goDay 34 = .ok (.aload_n 0, 1) := by decide +kernel
theorem dX8_goDay_35 : decode cX8_goDay 35 = .ok (.getfield 15, 3) := by decide +kernel
theorem dX8_goDay_38 : decode cX8_goDay 38 = .ok (.iload_n 2, 1) := by decide +kernel
theorem dX8_goDay_39 : decode cX8_goDay 39 = .ok (.iaload, 1) := by decide +kernel
theorem dX8_goDay_40 : decode cX8_goDay 40 = .ok (.aload_n 0, 1) := by decide +kernel
theorem dX8_goDay_41 : decode cX8_goDay 41 = .ok (.getfield 9, 3) := by decide +kernel
theorem dX8_goDay_44 : decode cX8_goDay 44 = .ok (.aload_n 0, 1) := by decide +kernel
theorem dX8_goDay_45 : decode cX8_goDay 45 = .ok (.getfield 9, 3) := by decide +kernel
theorem dX8_goDay_48 : decode cX8_goDay 48 = .ok (.getfield 75, 3) := by decide +kernel
theorem dX8_goDay_51 : decode cX8_goDay 51 = .ok (.iload_n 2, 1) := by decide +kernel
theorem dX8_goDay_52 : decode cX8_goDay 52 = .ok (.iaload, 1) := by decide +kernel
theorem dX8_goDay_53 : decode cX8_goDay 53 = .ok (.aload_n 0, 1) := by decide +kernel
theorem dX8_goDay_54 : decode cX8_goDay 54 = .ok (.getfield 32, 3) := by decide +kernel
theorem dX8_goDay_57 : decode cX8_goDay 57 = .ok (.invokevirtual 98, 3) := by decide +kernel
theorem dX8_goDay_60 : decode cX8_goDay 60 = .ok (.iadd, 1) := by decide +kernel
theorem dX8_goDay_61 : decode cX8_goDay 61 = .ok (.invokestatic 102, 3) := by decide +kernel
theorem dX8_goDay_64 : decode cX8_goDay 64 = .ok (.iastore, 1) := by decide +kernel
theorem dX8_goDay_65 : decode cX8_goDay 65 = .ok (.iinc 2 1, 3) := by decide +kernel
theorem dX8_goDay_68 : decode cX8_goDay 68 = .ok (.goto (-50), 3) := by decide +kernel
theorem dX8_goDay_71 : decode cX8_goDay 71 = .ok (.aload_n 0, 1) := by decide +kernel
theorem dX8_goDay_72 : decode cX8_goDay 72 = .ok (.dup, 1) := by decide +kernel
theorem dX8_goDay_73 : decode cX8_goDay 73 = .ok (.getfield 29, 3) := by decide +kernel
theorem dX8_goDay_76 : decode cX8_goDay 76 = .ok (.iload_n 1, 1) := by decide +kernel
theorem dX8_goDay_77 : decode cX8_goDay 77 = .ok (.iadd, 1) := by decide +kernel
theorem dX8_goDay_78 : decode cX8_goDay 78 = .ok (.putfield 29, 3) := by decide +kernel
theorem dX8_goDay_81 : decode cX8_goDay 81 = .ok (.aload_n 0, 1) := by decide +kernel
theorem dX8_goDay_82 : decode cX8_goDay 82 = .ok (.dup, 1) := by decide +kernel
theorem dX8_goDay_83 : decode cX8_goDay 83 = .ok (.getfield 32, 3) := by decide +kernel
theorem dX8_goDay_86 : decode cX8_goDay 86 = .ok (.iconst 1, 1) := by decide +kernel
theorem dX8_goDay_87 : decode cX8_goDay 87 = .ok (.iadd, 1) := by decide +kernel
theorem dX8_goDay_88 : decode cX8_goDay 88 = .ok (.putfield 32, 3) := by decide +kernel
theorem dX8_goDay_91 : decode cX8_goDay 91 = .ok (.iload_n 1, 1) := by decide +kernel
theorem dX8_goDay_92 : decode cX8_goDay 92 = .ok (.ireturn, 1) := by decide +kernel
theorem dX8_umbrellasBy_0 : decode cX8_umbrellasBy 0 = .ok (.aload_n 0, 1) := by decide +kernel
theorem dX8_umbrellasBy_1 : decode cX8_umbrellasBy 1 = .ok (.getfield 29, 3) := by decide +kernel
theorem dX8_umbrellasBy_4 : decode cX8_umbrellasBy 4 = .ok (.istore_n 2, 1) := by decide +kernel
theorem dX8_umbrellasBy_5 : decode cX8_umbrellasBy 5 = .ok (.iconst 0, 1) := by decide +kernel
theorem dX8_umbrellasBy_6 : decode cX8_umbrellasBy 6 = .ok (.istore_n 3, 1) := by decide +kernel
theorem dX8_umbrellasBy_7 : decode cX8_umbrellasBy 7 = .ok (.iload_n 3, 1) := by decide +kernel
theorem dX8_umbrellasBy_8 : decode cX8_umbrellasBy 8 = .ok (.aload_n 0, 1) := by decide +kernel
theorem dX8_umbrellasBy_9 : decode cX8_umbrellasBy 9 = .ok (.getfield 9, 3) := by decide +kernel
theorem dX8_umbrellasBy_12 : decode cX8_umbrellasBy 12 = .ok (.getfield 66, 3) := by decide +kernel
theorem dX8_umbrellasBy_15 : decode cX8_umbrellasBy 15 = .ok (.if_icmp .ge 30, 3) := by decide +kernel
theorem dX8_umbrellasBy_18 : decode cX8_umbrellasBy 18 = .ok (.aload_n 0, 1) := by decide +kernel
theorem dX8_umbrellasBy_19 : decode cX8_umbrellasBy 19 = .ok (.getfield 9, 3) := by decide +kernel
theorem dX8_umbrellasBy_22 : decode cX8_umbrellasBy 22 = .ok (.getfield 56, 3) := by decide +kernel
theorem dX8_umbrellasBy_25 : decode cX8_umbrellasBy 25 = .ok (.iload_n 3, 1) := by decide +kernel
theorem dX8_umbrellasBy_26 : decode cX8_umbrellasBy 26 = .ok (.iaload, 1) := by decide +kernel
theorem dX8_umbrellasBy_27 : decode cX8_umbrellasBy 27 = .ok (.iload_n 1, 1) := by decide +kernel
theorem dX8_umbrellasBy_28 : decode cX8_umbrellasBy 28 = .ok (.if_icmp .ge 11, 3) := by decide +kernel
theorem dX8_umbrellasBy_31 : decode cX8_umbrellasBy 31 = .ok (.iload_n 2, 1) := by decide +kernel
theorem dX8_umbrellasBy_32 : decode cX8_umbrellasBy 32 = .ok (.aload_n 0, 1) := by decide +kernel
theorem dX8_umbrellasBy_33 : decode cX8_umbrellasBy 33 = .ok (.iload_n 3, 1) := by decide +kernel
theorem dX8_umbrellasBy_34 : decode cX8_umbrellasBy 34 = .ok (.invokevirtual 69, 3) := by decide +kernel
theorem dX8_umbrellasBy_37 : decode cX8_umbrellasBy 37 = .ok (.iadd, 1) := by decide +kernel
theorem dX8_umbrellasBy_38 : decode cX8_umbrellasBy 38 = .ok (.istore_n 2, 1) := by decide +kernel
theorem dX8_umbrellasBy_39 : decode cX8_umbrellasBy 39 = .ok (.iinc 3 1, 3) := by decide +kernel
theorem dX8_umbrellasBy_42 : decode cX8_umbrellasBy 42 = .ok (.goto (-35), 3) := by decide +kernel
theorem dX8_umbrellasBy_45 : decode cX8_umbrellasBy 45 = .ok (.iload_n 2, 1) := by decide +kernel
theorem dX8_umbrellasBy_46 : decode cX8_umbrellasBy 46 = .ok (.ireturn, 1) := by decide +kernel
theorem dX8_does_0 : decode cX8_does 0 = .ok (.iload_n 1, 1) := by decide +kernel
theorem dX8_does_1 : decode cX8_does 1 = .ok (.bipush 100, 2) := by decide +kernel
theorem dX8_does_3 : decode cX8_does 3 = .ok (.idiv, 1) := by decide +kernel
theorem dX8_does_4 : decode cX8_does 4 = .ok (.istore_n 2, 1) := by decide +kernel
theorem dX8_does_5 : decode cX8_does 5 = .ok (.iload_n 1, 1) := by decide +kernel
theorem dX8_does_6 : decode cX8_does 6 = .ok (.bipush 10, 2) := by decide +kernel
theorem dX8_does_8 : decode cX8_does 8 = .ok (.idiv, 1) := by decide +kernel
theorem dX8_does_9 : decode cX8_does 9 = .ok (.bipush 10, 2) := by decide +kernel
theorem dX8_does_11 : decode cX8_does 11 = .ok (.irem, 1) := by decide +kernel
theorem dX8_does_12 : decode cX8_does 12 = .ok (.istore_n 3, 1) := by decide +kernel
theorem dX8_does_13 : decode cX8_does 13 = .ok (.iload_n 1, 1) := by decide +kernel
theorem dX8_does_14 : decode cX8_does 14 = .ok (.bipush 10, 2) := by decide +kernel
theorem dX8_does_16 : decode cX8_does 16 = .ok (.irem, 1) := by decide +kernel
theorem dX8_does_17 : decode cX8_does 17 = .ok (.istore 4, 2) := by decide +kernel
theorem dX8_does_19 : decode cX8_does 19 = .ok (.iload_n 2, 1) := by decide +kernel
theorem dX8_does_20 : decode cX8_does 20 = .ok (.tableswitch 156 0 4 #[36, 49, 57, 94, 129], 36) := by decide +kernel
theorem dX8_does_56 : decode cX8_does 56 = .ok (.iload_n 1, 1) := by decide +kernel
theorem dX8_does_57 : decode cX8_does 57 = .ok (.ifCond .eq 5, 3) := by decide +kernel
theorem dX8_does_60 : decode cX8_does 60 = .ok (.iconst 0, 1) := by decide +kernel
theorem dX8_does_61 : decode cX8_does 61 = .ok (.ireturn, 1) := by decide +kernel
theorem dX8_does_62 : decode cX8_does 62 = .ok (.aload_n 0, 1) := by decide +kernel
theorem dX8_does_63 : decode cX8_does 63 = .ok (.invokevirtual 117, 3) := by decide +kernel
theorem dX8_does_66 : decode cX8_does 66 = .ok (.pop, 1) := by decide +kernel
theorem dX8_does_67 : decode cX8_does 67 = .ok (.iconst 1, 1) := by decide +kernel
theorem dX8_does_68 : decode cX8_does 68 = .ok (.ireturn, 1) := by decide +kernel
theorem dX8_does_69 : decode cX8_does 69 = .ok (.aload_n 0, 1) := by decide +kernel
theorem dX8_does_70 : decode cX8_does 70 = .ok (.iload_n 3, 1) := by decide +kernel
theorem dX8_does_71 : decode cX8_does 71 = .ok (.iload 4, 2) := by decide +kernel
theorem dX8_does_73 : decode cX8_does 73 = .ok (.invokevirtual 121, 3) := by decide +kernel
theorem dX8_does_76 : decode cX8_does 76 = .ok (.ireturn, 1) := by decide +kernel
theorem dX8_does_77 : decode cX8_does 77 = .ok (.aload_n 0, 1) := by decide +kernel
theorem dX8_does_78 : decode cX8_does 78 = .ok (.getfield 9, 3) := by decide +kernel
theorem dX8_does_81 : decode cX8_does 81 = .ok (.iload_n 3, 1) := by decide +kernel
theorem dX8_does_82 : decode cX8_does 82 = .ok (.invokevirtual 72, 3) := by decide +kernel
theorem dX8_does_85 : decode cX8_does 85 = .ok (.ifCond .eq 9, 3) := by decide +kernel
theorem dX8_does_88 : decode cX8_does 88 = .ok (.iload 4, 2) := by decide +kernel
theorem dX8_does_90 : decode cX8_does 90 = .ok (.iconst 1, 1) := by decide +kernel
theorem dX8_does_91 : decode cX8_does 91 = .ok (.if_icmp .le 5, 3) := by decide +kernel
theorem dX8_does_94 : decode cX8_does 94 = .ok (.iconst 0, 1) := by decide +kernel
theorem dX8_does_95 : decode cX8_does 95 = .ok (.ireturn, 1) := by decide +kernel
theorem dX8_does_96 : decode cX8_does 96 = .ok (.aload_n 0, 1) := by decide +kernel
theorem dX8_does_97 : decode cX8_does 97 = .ok (.iload_n 3, 1) := by decide +kernel
theorem dX8_does_98 : decode cX8_does 98 = .ok (.iload 4, 2) := by decide +kernel
theorem dX8_does_100 : decode cX8_does 100 = .ok (.iconst 1, 1) := by decide +kernel
theorem dX8_does_101 : decode cX8_does 101 = .ok (.if_icmp .ne 7, 3) := by decide +kernel
theorem dX8_does_104 : decode cX8_does 104 = .ok (.iconst 1, 1) := by decide +kernel
theorem dX8_does_105 : decode cX8_does 105 = .ok (.goto 4, 3) := by decide +kernel
theorem dX8_does_108 : decode cX8_does 108 = .ok (.iconst 0, 1) := by decide +kernel
theorem dX8_does_109 : decode cX8_does 109 = .ok (.invokevirtual 124, 3) := by decide +kernel
theorem dX8_does_112 : decode cX8_does 112 = .ok (.iconst 1, 1) := by decide +kernel
theorem dX8_does_113 : decode cX8_does 113 = .ok (.ireturn, 1) := by decide +kernel
theorem dX8_does_114 : decode cX8_does 114 = .ok (.iload_n 3, 1) := by decide +kernel
theorem dX8_does_115 : decode cX8_does 115 = .ok (.ifCond .ne 24, 3) := by decide +kernel
theorem dX8_does_118 : decode cX8_does 118 = .ok (.aload_n 0, 1) := by decide +kernel
theorem dX8_does_119 : decode cX8_does 119 = .ok (.getfield 9, 3) := by decide +kernel
theorem dX8_does_122 : decode cX8_does 122 = .ok (.iload 4, 2) := by decide +kernel
theorem dX8_does_124 : decode cX8_does 124 = .ok (.invokevirtual 49, 3) := by decide +kernel
theorem dX8_does_127 : decode cX8_does 127 = .ok (.ifCond .eq 12, 3) := by decide +kernel
theorem dX8_does_130 : decode cX8_does 130 = .ok (.aload_n 0, 1) := by decide +kernel
theorem dX8_does_131 : decode cX8_does 131 = .ok (.iload 4, 2) := by decide +kernel
theorem dX8_does_133 : decode cX8_does 133 = .ok (.invokevirtual 53, 3) := by decide +kernel
theorem dX8_does_136 : decode cX8_does 136 = .ok (.ifCond .eq 5, 3) := by decide +kernel
theorem dX8_does_139 : decode cX8_does 139 = .ok (.iconst 0, 1) := by decide +kernel
theorem dX8_does_140 : decode cX8_does 140 = .ok (.ireturn, 1) := by decide +kernel
theorem dX8_does_141 : decode cX8_does 141 = .ok (.aload_n 0, 1) := by decide +kernel
theorem dX8_does_142 : decode cX8_does 142 = .ok (.iload 4, 2) := by decide +kernel
theorem dX8_does_144 : decode cX8_does 144 = .ok (.invokevirtual 128, 3) := by decide +kernel
theorem dX8_does_147 : decode cX8_does 147 = .ok (.iconst 1, 1) := by decide +kernel
theorem dX8_does_148 : decode cX8_does 148 = .ok (.ireturn, 1) := by decide +kernel
theorem dX8_does_149 : decode cX8_does 149 = .ok (.aload_n 0, 1) := by decide +kernel
theorem dX8_does_150 : decode cX8_does 150 = .ok (.getfield 9, 3) := by decide +kernel
theorem dX8_does_153 : decode cX8_does 153 = .ok (.iload_n 3, 1) := by decide +kernel
theorem dX8_does_154 : decode cX8_does 154 = .ok (.invokevirtual 49, 3) := by decide +kernel
theorem dX8_does_157 : decode cX8_does 157 = .ok (.ifCond .eq 17, 3) := by decide +kernel
theorem dX8_does_160 : decode cX8_does 160 = .ok (.aload_n 0, 1) := by decide +kernel
theorem dX8_does_161 : decode cX8_does 161 = .ok (.iload_n 3, 1) := by decide +kernel
theorem dX8_does_162 : decode cX8_does 162 = .ok (.invokevirtual 69, 3) := by decide +kernel
theorem dX8_does_165 : decode cX8_does 165 = .ok (.iload 4, 2) := by decide +kernel
theorem dX8_does_167 : decode cX8_does 167 = .ok (.if_icmp .gt 7, 3) := by decide +kernel
theorem dX8_does_170 : decode cX8_does 170 = .ok (.iconst 1, 1) := by decide +kernel
theorem dX8_does_171 : decode cX8_does 171 = .ok (.goto 4, 3) := by decide +kernel
theorem dX8_does_174 : decode cX8_does 174 = .ok (.iconst 0, 1) := by decide +kernel
theorem dX8_does_175 : decode cX8_does 175 = .ok (.ireturn, 1) := by decide +kernel
theorem dX8_does_176 : decode cX8_does 176 = .ok (.iconst 0, 1) := by decide +kernel
theorem dX8_does_177 : decode cX8_does 177 = .ok (.ireturn, 1) := by decide +kernel
theorem dX9_init_0 : decode cX9_init 0 = .ok (.aload_n 0, 1) := by decide +kernel
theorem dX9_init_1 : decode cX9_init 1 = .ok (.invokespecial 1, 3) := by decide +kernel
theorem dX9_init_4 : decode cX9_init 4 = .ok (.aload_n 0, 1) := by decide +kernel
theorem dX9_init_5 : decode cX9_init 5 = .ok (.new 7, 3) := by decide +kernel
theorem dX9_init_8 : decode cX9_init 8 = .ok (.dup, 1) := by decide +kernel
theorem dX9_init_9 : decode cX9_init 9 = .ok (.invokespecial 9, 3) := by decide +kernel
theorem dX9_init_12 : decode cX9_init 12 = .ok (.putfield 10, 3) := by decide +kernel
theorem dX9_init_15 : decode cX9_init 15 = .ok (.aload_n 0, 1) := by decide +kernel
theorem dX9_init_16 : decode cX9_init 16 = .ok (.new 16, 3) := by decide +kernel
theorem dX9_init_19 : decode cX9_init 19 = .ok (.dup, 1) := by decide +kernel
theorem dX9_init_20 : decode cX9_init 20 = .ok (.invokespecial 18, 3) := by decide +kernel
theorem dX9_init_23 : decode cX9_init 23 = .ok (.putfield 19, 3) := by decide +kernel
theorem dX9_init_26 : decode cX9_init 26 = .ok (.aload_n 0, 1) := by decide +kernel
theorem dX9_init_27 : decode cX9_init 27 = .ok (.new 23, 3) := by decide +kernel
theorem dX9_init_30 : decode cX9_init 30 = .ok (.dup, 1) := by decide +kernel
theorem dX9_init_31 : decode cX9_init 31 = .ok (.aload_n 0, 1) := by decide +kernel
theorem dX9_init_32 : decode cX9_init 32 = .ok (.getfield 19, 3) := by decide +kernel
theorem dX9_init_35 : decode cX9_init 35 = .ok (.invokespecial 25, 3) := by decide +kernel
theorem dX9_init_38 : decode cX9_init 38 = .ok (.putfield 28, 3) := by decide +kernel
theorem dX9_init_41 : decode cX9_init 41 = .ok (.aload_n 0, 1) := by decide +kernel
theorem dX9_init_42 : decode cX9_init 42 = .ok (.new 23, 3) := by decide +kernel
theorem dX9_init_45 : decode cX9_init 45 = .ok (.dup, 1) := by decide +kernel
theorem dX9_init_46 : decode cX9_init 46 = .ok (.aload_n 0, 1) := by decide +kernel
theorem dX9_init_47 : decode cX9_init 47 = .ok (.getfield 19, 3) := by decide +kernel
theorem dX9_init_50 : decode cX9_init 50 = .ok (.invokespecial 25, 3) := by decide +kernel
theorem dX9_init_53 : decode cX9_init 53 = .ok (.putfield 32, 3) := by decide +kernel
theorem dX9_init_56 : decode cX9_init 56 = .ok (.aload_n 0, 1) := by decide +kernel
theorem dX9_init_57 : decode cX9_init 57 = .ok (.new 35, 3) := by decide +kernel
theorem dX9_init_60 : decode cX9_init 60 = .ok (.dup, 1) := by decide +kernel
theorem dX9_init_61 : decode cX9_init 61 = .ok (.invokespecial 37, 3) := by decide +kernel
theorem dX9_init_64 : decode cX9_init 64 = .ok (.putfield 38, 3) := by decide +kernel
theorem dX9_init_67 : decode cX9_init 67 = .ok (.aload_n 0, 1) := by decide +kernel
theorem dX9_init_68 : decode cX9_init 68 = .ok (.new 42, 3) := by decide +kernel
theorem dX9_init_71 : decode cX9_init 71 = .ok (.dup, 1) := by decide +kernel
theorem dX9_init_72 : decode cX9_init 72 = .ok (.invokespecial 44, 3) := by decide +kernel
theorem dX9_init_75 : decode cX9_init 75 = .ok (.putfield 45, 3) := by decide +kernel
theorem dX9_init_78 : decode cX9_init 78 = .ok (.aload_n 0, 1) := by decide +kernel
theorem dX9_init_79 : decode cX9_init 79 = .ok (.new 49, 3) := by decide +kernel
theorem dX9_init_82 : decode cX9_init 82 = .ok (.dup, 1) := by decide +kernel
theorem dX9_init_83 : decode cX9_init 83 = .ok (.invokespecial 51, 3) := by decide +kernel
theorem dX9_init_86 : decode cX9_init 86 = .ok (.putfield 52, 3) := by decide +kernel
theorem dX9_init_89 : decode cX9_init 89 = .ok (.aload_n 0, 1) := by decide +kernel
theorem dX9_init_90 : decode cX9_init 90 = .ok (.new 56, 3) := by decide +kernel
theorem dX9_init_93 : decode cX9_init 93 = .ok (.dup, 1) := by decide +kernel
theorem dX9_init_94 : decode cX9_init 94 = .ok (.invokespecial 58, 3) := by decide +kernel
theorem dX9_init_97 : decode cX9_init 97 = .ok (.putfield 59, 3) := by decide +kernel
theorem dX9_init_100 : decode cX9_init 100 = .ok (.aload_n 0, 1) := by decide +kernel
theorem dX9_init_101 : decode cX9_init 101 = .ok (.new 63, 3) := by decide +kernel
theorem dX9_init_104 : decode cX9_init 104 = .ok (.dup, 1) := by decide +kernel
theorem dX9_init_105 : decode cX9_init 105 = .ok (.invokespecial 65, 3) := by decide +kernel
theorem dX9_init_108 : decode cX9_init 108 = .ok (.putfield 66, 3) := by decide +kernel
theorem dX9_init_111 : decode cX9_init 111 = .ok (.aload_n 0, 1) := by decide +kernel
theorem dX9_init_112 : decode cX9_init 112 = .ok (.iconst 2, 1) := by decide +kernel
theorem dX9_init_113 : decode cX9_init 113 = .ok (.bipush 16, 2) := by decide +kernel
theorem dX9_init_115 : decode cX9_init 115 = .ok (.multianewarray 70 2, 4) := by decide +kernel
theorem dX9_init_119 : decode cX9_init 119 = .ok (.putfield 72, 3) := by decide +kernel
theorem dX9_init_122 : decode cX9_init 122 = .ok (.aload_n 0, 1) := by decide +kernel
theorem dX9_init_123 : decode cX9_init 123 = .ok (.iconst 2, 1) := by decide +kernel
theorem dX9_init_124 : decode cX9_init 124 = .ok (.newarray .boolean, 2) := by decide +kernel
theorem dX9_init_126 : decode cX9_init 126 = .ok (.putfield 75, 3) := by decide +kernel
theorem dX9_init_129 : decode cX9_init 129 = .ok (.aload_n 0, 1) := by decide +kernel
theorem dX9_init_130 : decode cX9_init 130 = .ok (.bipush 16, 2) := by decide +kernel
theorem dX9_init_132 : decode cX9_init 132 = .ok (.newarray .int, 2) := by decide +kernel
theorem dX9_init_134 : decode cX9_init 134 = .ok (.putfield 79, 3) := by decide +kernel
theorem dX9_init_137 : decode cX9_init 137 = .ok (.aload_n 0, 1) := by decide +kernel
theorem dX9_init_138 : decode cX9_init 138 = .ok (.iconst 4, 1) := by decide +kernel
theorem dX9_init_139 : decode cX9_init 139 = .ok (.newarray .int, 2) := by decide +kernel
theorem dX9_init_141 : decode cX9_init 141 = .ok (.putfield 83, 3) := by decide +kernel
theorem dX9_init_144 : decode cX9_init 144 = .ok (.aload_n 0, 1) := by decide +kernel
theorem dX9_init_145 : decode cX9_init 145 = .ok (.lconst 0, 1) := by decide +kernel
theorem dX9_init_146 : decode cX9_init 146 = .ok (.putfield 86, 3) := by decide +kernel
theorem dX9_init_149 : decode cX9_init 149 = .ok (.return_, 1) := by decide +kernel
theorem dX9_write_0 : decode cX9_write 0 = .ok (.iload_n 1, 1) := by decide +kernel
theorem dX9_write_1 : decode cX9_write 1 = .ok (.ifCond .lt 10, 3) := by decide +kernel
theorem dX9_write_4 : decode cX9_write 4 = .ok (.iload_n 1, 1) := by decide +kernel
theorem dX9_write_5 : decode cX9_write 5 = .ok (.sipush 255, 3) := by decide +kernel
theorem dX9_write_8 : decode cX9_write 8 = .ok (.if_icmp .le 6, 3) := by decide +kernel
theorem dX9_write_11 : decode cX9_write 11 = .ok (.bipush (-2), 2) := by decide +kernel
theorem dX9_write_13 : decode cX9_write 13 = .ok (.ireturn, 1) := by decide +kernel
theorem dX9_write_14 : decode cX9_write 14 = .ok (.aload_n 0, 1) := by decide +kernel
theorem dX9_write_15 : decode cX9_write 15 = .ok (.getfield 10, 3) := by decide +kernel
theorem dX9_write_18 : decode cX9_write 18 = .ok (.iload_n 1, 1) := by decide +kernel
theorem dX9_write_19 : decode cX9_write 19 = .ok (.invokevirtual 90, 3) := by decide +kernel
theorem dX9_write_22 : decode cX9_write 22 = .ok (.ifCond .eq 13, 3) := by decide +kernel
theorem dX9_write_25 : decode cX9_write 25 = .ok (.aload_n 0, 1) := by decide +kernel
theorem dX9_write_26 : decode cX9_write 26 = .ok (.getfield 10, 3) := by decide +kernel
theorem dX9_write_29 : decode cX9_write 29 = .ok (.getfield 94, 3) := by decide +kernel
theorem dX9_write_32 : decode cX9_write 32 = .ok (.goto 5, 3) := by decide +kernel
theorem dX9_write_35 : decode cX9_write 35 = .ok (.bipush (-4), 2) := by decide +kernel
theorem dX9_write_37 : decode cX9_write 37 = .ok (.ireturn, 1) := by decide +kernel
theorem dX9_wipe_0 : decode cX9_wipe 0 = .ok (.aload_n 0, 1) := by decide +kernel
theorem dX9_wipe_1 : decode cX9_wipe 1 = .ok (.getfield 10, 3) := by decide +kernel
theorem dX9_wipe_4 : decode cX9_wipe 4 = .ok (.getfield 94, 3) := by decide +kernel
theorem dX9_wipe_7 : decode cX9_wipe 7 = .ok (.istore_n 1, 1) := by decide +kernel
theorem dX9_wipe_8 : decode cX9_wipe 8 = .ok (.aload_n 0, 1) := by decide +kernel
theorem dX9_wipe_9 : decode cX9_wipe 9 = .ok (.getfield 10, 3) := by decide +kernel
theorem dX9_wipe_12 : decode cX9_wipe 12 = .ok (.iconst 0, 1) := by decide +kernel
theorem dX9_wipe_13 : decode cX9_wipe 13 = .ok (.putfield 94, 3) := by decide +kernel
theorem dX9_wipe_16 : decode cX9_wipe 16 = .ok (.iload_n 1, 1) := by decide +kernel
theorem dX9_wipe_17 : decode cX9_wipe 17 = .ok (.ireturn, 1) := by decide +kernel
theorem dX9_fault_0 : decode cX9_fault 0 = .ok (.aload_n 0, 1) := by decide +kernel
theorem dX9_fault_1 : decode cX9_fault 1 = .ok (.getfield 10, 3) := by decide +kernel
theorem dX9_fault_4 : decode cX9_fault 4 = .ok (.invokevirtual 98, 3) := by decide +kernel
theorem dX9_fault_7 : decode cX9_fault 7 = .ok (.ireturn, 1) := by decide +kernel
theorem dX9_pass_0 : decode cX9_pass 0 = .ok (.aload_n 0, 1) := by decide +kernel
theorem dX9_pass_1 : decode cX9_pass 1 = .ok (.getfield 10, 3) := by decide +kernel
theorem dX9_pass_4 : decode cX9_pass 4 = .ok (.invokevirtual 98, 3) := by decide +kernel
theorem dX9_pass_7 : decode cX9_pass 7 = .ok (.bipush (-9), 2) := by decide +kernel
theorem dX9_pass_9 : decode cX9_pass 9 = .ok (.if_icmp .eq 6, 3) := by decide +kernel
theorem dX9_pass_12 : decode cX9_pass 12 = .ok (.bipush (-3), 2) := by decide +kernel
theorem dX9_pass_14 : decode cX9_pass 14 = .ok (.ireturn, 1) := by decide +kernel
theorem dX9_pass_15 : decode cX9_pass 15 = .ok (.aload_n 0, 1) := by decide +kernel
theorem dX9_pass_16 : decode cX9_pass 16 = .ok (.getfield 19, 3) := by decide +kernel
theorem dX9_pass_19 : decode cX9_pass 19 = .ok (.aload_n 0, 1) := by decide +kernel
theorem dX9_pass_20 : decode cX9_pass 20 = .ok (.getfield 10, 3) := by decide +kernel
theorem dX9_pass_23 : decode cX9_pass 23 = .ok (.invokevirtual 102, 3) := by decide +kernel
theorem dX9_pass_26 : decode cX9_pass 26 = .ok (.aload_n 0, 1) := by decide +kernel
theorem dX9_pass_27 : decode cX9_pass 27 = .ok (.getfield 28, 3) := by decide +kernel
theorem dX9_pass_30 : decode cX9_pass 30 = .ok (.invokevirtual 106, 3) := by decide +kernel
theorem dX9_pass_33 : decode cX9_pass 33 = .ok (.aload_n 0, 1) := by decide +kernel
theorem dX9_pass_34 : decode cX9_pass 34 = .ok (.getfield 38, 3) := by decide +kernel
theorem dX9_pass_37 : decode cX9_pass 37 = .ok (.invokevirtual 109, 3) := by decide +kernel
theorem dX9_pass_40 : decode cX9_pass 40 = .ok (.iconst 0, 1) := by decide +kernel
theorem dX9_pass_41 : decode cX9_pass 41 = .ok (.istore_n 1, 1) := by decide +kernel
theorem dX9_pass_42 : decode cX9_pass 42 = .ok (.iload_n 1, 1) := by decide +kernel
theorem dX9_pass_43 : decode cX9_pass 43 = .ok (.iconst 2, 1) := by decide +kernel
theorem dX9_pass_44 : decode cX9_pass 44 = .ok (.if_icmp .ge 16, 3) := by decide +kernel
theorem dX9_pass_47 : decode cX9_pass 47 = .ok (.aload_n 0, 1) := by decide +kernel
theorem dX9_pass_48 : decode cX9_pass 48 = .ok (.getfield 75, 3) := by decide +kernel
theorem dX9_pass_51 : decode cX9_pass 51 = .ok (.iload_n 1, 1) := by decide +kernel
theorem dX9_pass_52 : decode cX9_pass 52 = .ok (.iconst 0, 1) := by decide +kernel
theorem dX9_pass_53 : decode cX9_pass 53 = .ok (.bastore, 1) := by decide +kernel
theorem dX9_pass_54 : decode cX9_pass 54 = .ok (.iinc 1 1, 3) := by decide +kernel
theorem dX9_pass_57 : decode cX9_pass 57 = .ok (.goto (-15), 3) := by decide +kernel
theorem dX9_pass_60 : decode cX9_pass 60 = .ok (.bipush 100, 2) := by decide +kernel
theorem dX9_pass_62 : decode cX9_pass 62 = .ok (.aload_n 0, 1) := by decide +kernel
theorem dX9_pass_63 : decode cX9_pass 63 = .ok (.getfield 19, 3) := by decide +kernel
theorem dX9_pass_66 : decode cX9_pass 66 = .ok (.getfield 112, 3) := by decide +kernel
theorem dX9_pass_69 : decode cX9_pass 69 = .ok (.imul, 1) := by decide +kernel
theorem dX9_pass_70 : decode cX9_pass 70 = .ok (.bipush 10, 2) := by decide +kernel
theorem dX9_pass_72 : decode cX9_pass 72 = .ok (.aload_n 0, 1) := by decide +kernel
theorem dX9_pass_73 : decode cX9_pass 73 = .ok (.getfield 19, 3) := by decide +kernel
theorem dX9_pass_76 : decode cX9_pass 76 = .ok (.getfield 115, 3) := by decide +kernel
theorem dX9_pass_79 : decode cX9_pass 79 = .ok (.imul, 1) := by decide +kernel
theorem dX9_pass_80 : decode cX9_pass 80 = .ok (.iadd, 1) := by decide +kernel
theorem dX9_pass_81 : decode cX9_pass 81 = .ok (.aload_n 0, 1) := by decide +kernel
theorem dX9_pass_82 : decode cX9_pass 82 = .ok (.getfield 19, 3) := by decide +kernel
theorem dX9_pass_85 : decode cX9_pass 85 = .ok (.getfield 118, 3) := by decide +kernel
theorem dX9_pass_88 : decode cX9_pass 88 = .ok (.iadd, 1) := by decide +kernel
theorem dX9_pass_89 : decode cX9_pass 89 = .ok (.ireturn, 1) := by decide +kernel
theorem dX9_cloud_0 : decode cX9_cloud 0 = .ok (.aload_n 0, 1) := by decide +kernel
theorem dX9_cloud_1 : decode cX9_cloud 1 = .ok (.getfield 19, 3) := by decide +kernel
theorem dX9_cloud_4 : decode cX9_cloud 4 = .ok (.iload_n 1, 1) := by decide +kernel
theorem dX9_cloud_5 : decode cX9_cloud 5 = .ok (.invokevirtual 121, 3) := by decide +kernel
theorem dX9_cloud_8 : decode cX9_cloud 8 = .ok (.ifCond .ne 5, 3) := by decide +kernel
theorem dX9_cloud_11 : decode cX9_cloud 11 = .ok (.iconst (-1), 1) := by decide +kernel
theorem dX9_cloud_12 : decode cX9_cloud 12 = .ok (.ireturn, 1) := by decide +kernel
theorem dX9_cloud_13 : decode cX9_cloud 13 = .ok (.iload_n 2, 1) := by decide +kernel
theorem dX9_cloud_14 : decode cX9_cloud 14 = .ok (.tableswitch 104 0 5 #[38, 48, 58, 68, 77, 86], 38) := by decide +kernel
theorem dX9_cloud_52 : decode cX9_cloud 52 = .ok (.aload_n 0, 1) := by decide +kernel
theorem dX9_cloud_53 : decode cX9_cloud 53 = .ok (.getfield 28, 3) := by decide +kernel
theorem dX9_cloud_56 : decode cX9_cloud 56 = .ok (.getfield 124, 3) := by decide +kernel
theorem dX9_cloud_59 : decode cX9_cloud 59 = .ok (.iload_n 1, 1) := by decide +kernel
theorem dX9_cloud_60 : decode cX9_cloud 60 = .ok (.iaload, 1) := by decide +kernel
theorem dX9_cloud_61 : decode cX9_cloud 61 = .ok (.ireturn, 1) := by decide +kernel
theorem dX9_cloud_62 : decode cX9_cloud 62 = .ok (.aload_n 0, 1) := by decide +kernel
theorem dX9_cloud_63 : decode cX9_cloud 63 = .ok (.getfield 28, 3) := by decide +kernel
theorem dX9_cloud_66 : decode cX9_cloud 66 = .ok (.getfield 127, 3) := by decide +kernel
theorem dX9_cloud_69 : decode cX9_cloud 69 = .ok (.iload_n 1, 1) := by decide +kernel
theorem dX9_cloud_70 : decode cX9_cloud 70 = .ok (.iaload, 1) := by decide +kernel
theorem dX9_cloud_71 : decode cX9_cloud 71 = .ok (.ireturn, 1) := by decide +kernel
theorem dX9_cloud_72 : decode cX9_cloud 72 = .ok (.aload_n 0, 1) := by decide +kernel
theorem dX9_cloud_73 : decode cX9_cloud 73 = .ok (.getfield 19, 3) := by decide +kernel
theorem dX9_cloud_76 : decode cX9_cloud 76 = .ok (.getfield 130, 3) := by decide +kernel
theorem dX9_cloud_79 : decode cX9_cloud 79 = .ok (.iload_n 1, 1) := by decide +kernel
theorem dX9_cloud_80 : decode cX9_cloud 80 = .ok (.iaload, 1) := by decide +kernel
theorem dX9_cloud_81 : decode cX9_cloud 81 = .ok (.ireturn, 1) := by decide +kernel
theorem dX9_cloud_82 : decode cX9_cloud 82 = .ok (.aload_n 0, 1) := by decide +kernel
theorem dX9_cloud_83 : decode cX9_cloud 83 = .ok (.getfield 28, 3) := by decide +kernel
theorem dX9_cloud_86 : decode cX9_cloud 86 = .ok (.iload_n 1, 1) := by decide +kernel
theorem dX9_cloud_87 : decode cX9_cloud 87 = .ok (.invokevirtual 133, 3) := by decide +kernel
theorem dX9_cloud_90 : decode cX9_cloud 90 = .ok (.ireturn, 1) := by decide +kernel
theorem dX9_cloud_91 : decode cX9_cloud 91 = .ok (.aload_n 0, 1) := by decide +kernel
theorem dX9_cloud_92 : decode cX9_cloud 92 = .ok (.getfield 28, 3) := by decide +kernel
theorem dX9_cloud_95 : decode cX9_cloud 95 = .ok (.iload_n 1, 1) := by decide +kernel
theorem dX9_cloud_96 : decode cX9_cloud 96 = .ok (.invokevirtual 137, 3) := by decide +kernel
theorem dX9_cloud_99 : decode cX9_cloud 99 = .ok (.ireturn, 1) := by decide +kernel
theorem dX9_cloud_100 : decode cX9_cloud 100 = .ok (.aload_n 0, 1) := by decide +kernel
theorem dX9_cloud_101 : decode cX9_cloud 101 = .ok (.getfield 28, 3) := by decide +kernel
theorem dX9_cloud_104 : decode cX9_cloud 104 = .ok (.iload_n 1, 1) := by decide +kernel
theorem dX9_cloud_105 : decode cX9_cloud 105 = .ok (.aload_n 0, 1) := by decide +kernel
theorem dX9_cloud_106 : decode cX9_cloud 106 = .ok (.getfield 28, 3) := by decide +kernel
theorem dX9_cloud_109 : decode cX9_cloud 109 = .ok (.getfield 124, 3) := by decide +kernel
theorem dX9_cloud_112 : decode cX9_cloud 112 = .ok (.iload_n 1, 1) := by decide +kernel
theorem dX9_cloud_113 : decode cX9_cloud 113 = .ok (.iaload, 1) := by decide +kernel
theorem dX9_cloud_114 : decode cX9_cloud 114 = .ok (.invokevirtual 140, 3) := by decide +kernel
theorem dX9_cloud_117 : decode cX9_cloud 117 = .ok (.ireturn, 1) := by decide +kernel
theorem dX9_cloud_118 : decode cX9_cloud 118 = .ok (.bipush (-2), 2) := by decide +kernel
theorem dX9_cloud_120 : decode cX9_cloud 120 = .ok (.ireturn, 1) := by decide +kernel
theorem dX9_paper_0 : decode cX9_paper 0 = .ok (.aload_n 0, 1) := by decide +kernel
theorem dX9_paper_1 : decode cX9_paper 1 = .ok (.getfield 19, 3) := by decide +kernel
theorem dX9_paper_4 : decode cX9_paper 4 = .ok (.iload_n 1, 1) := by decide +kernel
theorem dX9_paper_5 : decode cX9_paper 5 = .ok (.invokevirtual 144, 3) := by decide +kernel
theorem dX9_paper_8 : decode cX9_paper 8 = .ok (.ifCond .ne 5, 3) := by decide +kernel
theorem dX9_paper_11 : decode cX9_paper 11 = .ok (.iconst (-1), 1) := by decide +kernel
theorem dX9_paper_12 : decode cX9_paper 12 = .ok (.ireturn, 1) := by decide +kernel
theorem dX9_paper_13 : decode cX9_paper 13 = .ok (.iload_n 2, 1) := by decide +kernel
theorem dX9_paper_14 : decode cX9_paper 14 = .ok (.tableswitch 104 0 5 #[38, 48, 58, 68, 78, 87], 38) := by decide +kernel
theorem dX9_paper_52 : decode cX9_paper 52 = .ok (.aload_n 0, 1) := by decide +kernel
theorem dX9_paper_53 : decode cX9_paper 53 = .ok (.getfield 19, 3) := by decide +kernel
theorem dX9_paper_56 : decode cX9_paper 56 = .ok (.getfield 147, 3) := by decide +kernel
theorem dX9_paper_59 : decode cX9_paper 59 = .ok (.iload_n 1, 1) := by decide +kernel
theorem dX9_paper_60 : decode cX9_paper 60 = .ok (.iaload, 1) := by decide +kernel
theorem dX9_paper_61 : decode cX9_paper 61 = .ok (.ireturn, 1) := by decide +kernel
theorem dX9_paper_62 : decode cX9_paper 62 = .ok (.aload_n 0, 1) := by decide +kernel
theorem dX9_paper_63 : decode cX9_paper 63 = .ok (.getfield 19, 3) := by decide +kernel
theorem dX9_paper_66 : decode cX9_paper 66 = .ok (.getfield 150, 3) := by decide +kernel
theorem dX9_paper_69 : decode cX9_paper 69 = .ok (.iload_n 1, 1) := by decide +kernel
theorem dX9_paper_70 : decode cX9_paper 70 = .ok (.iaload, 1) := by decide +kernel
theorem dX9_paper_71 : decode cX9_paper 71 = .ok (.ireturn, 1) := by decide +kernel
theorem dX9_paper_72 : decode cX9_paper 72 = .ok (.aload_n 0, 1) := by decide +kernel
theorem dX9_paper_73 : decode cX9_paper 73 = .ok (.getfield 19, 3) := by decide +kernel
theorem dX9_paper_76 : decode cX9_paper 76 = .ok (.getfield 153, 3) := by decide +kernel
theorem dX9_paper_79 : decode cX9_paper 79 = .ok (.iload_n 1, 1) := by decide +kernel
theorem dX9_paper_80 : decode cX9_paper 80 = .ok (.iaload, 1) := by decide +kernel
theorem dX9_paper_81 : decode cX9_paper 81 = .ok (.ireturn, 1) := by decide +kernel
theorem dX9_paper_82 : decode cX9_paper 82 = .ok (.aload_n 0, 1) := by decide +kernel
theorem dX9_paper_83 : decode cX9_paper 83 = .ok (.getfield 28, 3) := by decide +kernel
theorem dX9_paper_86 : decode cX9_paper 86 = .ok (.getfield 156, 3) := by decide +kernel
theorem dX9_paper_89 : decode cX9_paper 89 = .ok (.iload_n 1, 1) := by decide +kernel
theorem dX9_paper_90 : decode cX9_paper 90 = .ok (.iaload, 1) := by decide +kernel
theorem dX9_paper_91 : decode cX9_paper 91 = .ok (.ireturn, 1) := by decide +kernel
theorem dX9_paper_92 : decode cX9_paper 92 = .ok (.aload_n 0, 1) := by decide +kernel
theorem dX9_paper_93 : decode cX9_paper 93 = .ok (.getfield 28, 3) := by decide +kernel
theorem dX9_paper_96 : decode cX9_paper 96 = .ok (.iload_n 1, 1) := by decide +kernel
theorem dX9_paper_97 : decode cX9_paper 97 = .ok (.invokevirtual 159, 3) := by decide +kernel
theorem dX9_paper_100 : decode cX9_paper 100 = .ok (.ireturn, 1) := by decide +kernel
theorem dX9_paper_101 : decode cX9_paper 101 = .ok (.aload_n 0, 1) := by decide +kernel
theorem dX9_paper_102 : decode cX9_paper 102 = .ok (.getfield 28, 3) := by decide +kernel
theorem dX9_paper_105 : decode cX9_paper 105 = .ok (.iload_n 1, 1) := by decide +kernel
theorem dX9_paper_106 : decode cX9_paper 106 = .ok (.invokevirtual 162, 3) := by decide +kernel
theorem dX9_paper_109 : decode cX9_paper 109 = .ok (.ifCond .eq 7, 3) := by decide +kernel
theorem dX9_paper_112 : decode cX9_paper 112 = .ok (.iconst 1, 1) := by decide +kernel
theorem dX9_paper_113 : decode cX9_paper 113 = .ok (.goto 4, 3) := by decide +kernel
theorem dX9_paper_116 : decode cX9_paper 116 = .ok (.iconst 0, 1) := by decide +kernel
theorem dX9_paper_117 : decode cX9_paper 117 = .ok (.ireturn, 1) := by decide +kernel
theorem dX9_paper_118 : decode cX9_paper 118 = .ok (.bipush (-2), 2) := by decide +kernel
theorem dX9_paper_120 : decode cX9_paper 120 = .ok (.ireturn, 1) := by decide +kernel
theorem dX9_day_0 : decode cX9_day 0 = .ok (.aload_n 0, 1) := by decide +kernel
theorem dX9_day_1 : decode cX9_day 1 = .ok (.getfield 38, 3) := by decide +kernel
theorem dX9_day_4 : decode cX9_day 4 = .ok (.aload_n 0, 1) := by decide +kernel
theorem dX9_day_5 : decode cX9_day 5 = .ok (.getfield 28, 3) := by decide +kernel
theorem dX9_day_8 : decode cX9_day 8 = .ok (.invokevirtual 165, 3) := by decide +kernel
theorem dX9_day_11 : decode cX9_day 11 = .ok (.aload_n 0, 1) := by decide +kernel
theorem dX9_day_12 : decode cX9_day 12 = .ok (.getfield 28, 3) := by decide +kernel
theorem dX9_day_15 : decode cX9_day 15 = .ok (.invokevirtual 169, 3) := by decide +kernel
theorem dX9_day_18 : decode cX9_day 18 = .ok (.ireturn, 1) := by decide +kernel
theorem dX9_fall_0 : decode cX9_fall 0 = .ok (.aload_n 0, 1) := by decide +kernel
theorem dX9_fall_1 : decode cX9_fall 1 = .ok (.getfield 19, 3) := by decide +kernel
theorem dX9_fall_4 : decode cX9_fall 4 = .ok (.iload_n 1, 1) := by decide +kernel
theorem dX9_fall_5 : decode cX9_fall 5 = .ok (.invokevirtual 121, 3) := by decide +kernel
theorem dX9_fall_8 : decode cX9_fall 8 = .ok (.ifCond .eq 14, 3) := by decide +kernel
theorem dX9_fall_11 : decode cX9_fall 11 = .ok (.aload_n 0, 1) := by decide +kernel
theorem dX9_fall_12 : decode cX9_fall 12 = .ok (.getfield 19, 3) := by decide +kernel
theorem dX9_fall_15 : decode cX9_fall 15 = .ok (.iload_n 2, 1) := by decide +kernel
theorem dX9_fall_16 : decode cX9_fall 16 = .ok (.invokevirtual 144, 3) := by decide +kernel
theorem dX9_fall_19 : decode cX9_fall 19 = .ok (.ifCond .ne 5, 3) := by decide +kernel
theorem dX9_fall_22 : decode cX9_fall 22 = .ok (.iconst (-1), 1) := by decide +kernel
theorem dX9_fall_23 : decode cX9_fall 23 = .ok (.ireturn, 1) := by decide +kernel
theorem dX9_fall_24 : decode cX9_fall 24 = .ok (.aload_n 0, 1) := by decide +kernel
theorem dX9_fall_25 : decode cX9_fall 25 = .ok (.getfield 28, 3) := by decide +kernel
theorem dX9_fall_28 : decode cX9_fall 28 = .ok (.iload_n 1, 1) := by decide +kernel
theorem dX9_fall_29 : decode cX9_fall 29 = .ok (.iload_n 2, 1) := by decide +kernel
theorem dX9_fall_30 : decode cX9_fall 30 = .ok (.invokevirtual 172, 3) := by decide +kernel
theorem dX9_fall_33 : decode cX9_fall 33 = .ok (.ifCond .ne 6, 3) := by decide +kernel
theorem dX9_fall_36 : decode cX9_fall 36 = .ok (.bipush (-3), 2) := by decide +kernel
theorem dX9_fall_38 : decode cX9_fall 38 = .ok (.ireturn, 1) := by decide +kernel
theorem dX9_fall_39 : decode cX9_fall 39 = .ok (.aload_n 0, 1) := by decide +kernel
theorem dX9_fall_40 : decode cX9_fall 40 = .ok (.getfield 38, 3) := by decide +kernel
theorem dX9_fall_43 : decode cX9_fall 43 = .ok (.aload_n 0, 1) := by decide +kernel
theorem dX9_fall_44 : decode cX9_fall 44 = .ok (.getfield 28, 3) := by decide +kernel
theorem dX9_fall_47 : decode cX9_fall 47 = .ok (.invokevirtual 165, 3) := by decide +kernel
theorem dX9_fall_50 : decode cX9_fall 50 = .ok (.aload_n 0, 1) := by decide +kernel
theorem dX9_fall_51 : decode cX9_fall 51 = .ok (.getfield 28, 3) := by decide +kernel
theorem dX9_fall_54 : decode cX9_fall 54 = .ok (.iload_n 1, 1) := by decide +kernel
theorem dX9_fall_55 : decode cX9_fall 55 = .ok (.iload_n 2, 1) := by decide +kernel
theorem dX9_fall_56 : decode cX9_fall 56 = .ok (.invokevirtual 176, 3) := by decide +kernel
theorem dX9_fall_59 : decode cX9_fall 59 = .ok (.aload_n 0, 1) := by decide +kernel
theorem dX9_fall_60 : decode cX9_fall 60 = .ok (.getfield 28, 3) := by decide +kernel
theorem dX9_fall_63 : decode cX9_fall 63 = .ok (.iload_n 2, 1) := by decide +kernel
theorem dX9_fall_64 : decode cX9_fall 64 = .ok (.invokevirtual 159, 3) := by decide +kernel
theorem dX9_fall_67 : decode cX9_fall 67 = .ok (.ireturn, 1) := by decide +kernel
theorem dX9_puff_0 : decode cX9_puff 0 = .ok (.aload_n 0, 1) := by decide +kernel
theorem dX9_puff_1 : decode cX9_puff 1 = .ok (.getfield 19, 3) := by decide +kernel
theorem dX9_puff_4 : decode cX9_puff 4 = .ok (.iload_n 1, 1) := by decide +kernel
theorem dX9_puff_5 : decode cX9_puff 5 = .ok (.invokevirtual 121, 3) := by decide +kernel
theorem dX9_puff_8 : decode cX9_puff 8 = .ok (.ifCond .ne 5, 3) := by decide +kernel
theorem dX9_puff_11 : decode cX9_puff 11 = .ok (.iconst (-1), 1) := by decide +kernel
theorem dX9_puff_12 : decode cX9_puff 12 = .ok (.ireturn, 1) := by decide +kernel
theorem dX9_puff_13 : decode cX9_puff 13 = .ok (.aload_n 0, 1) := by decide +kernel
theorem dX9_puff_14 : decode cX9_puff 14 = .ok (.getfield 38, 3) := by decide +kernel
theorem dX9_puff_17 : decode cX9_puff 17 = .ok (.aload_n 0, 1) := by decide +kernel
theorem dX9_puff_18 : decode cX9_puff 18 = .ok (.getfield 28, 3) := by decide +kernel
theorem dX9_puff_21 : decode cX9_puff 21 = .ok (.invokevirtual 165, 3) := by decide +kernel
theorem dX9_puff_24 : decode cX9_puff 24 = .ok (.aload_n 0, 1) := by decide +kernel
theorem dX9_puff_25 : decode cX9_puff 25 = .ok (.getfield 28, 3) := by decide +kernel
theorem dX9_puff_28 : decode cX9_puff 28 = .ok (.iload_n 1, 1) := by decide +kernel
theorem dX9_puff_29 : decode cX9_puff 29 = .ok (.iload_n 2, 1) := by decide +kernel
theorem dX9_puff_30 : decode cX9_puff 30 = .ok (.invokevirtual 180, 3) := by decide +kernel
theorem dX9_puff_33 : decode cX9_puff 33 = .ok (.aload_n 0, 1) := by decide +kernel
theorem dX9_puff_34 : decode cX9_puff 34 = .ok (.getfield 28, 3) := by decide +kernel
theorem dX9_puff_37 : decode cX9_puff 37 = .ok (.getfield 124, 3) := by decide +kernel
theorem dX9_puff_40 : decode cX9_puff 40 = .ok (.iload_n 1, 1) := by decide +kernel
theorem dX9_puff_41 : decode cX9_puff 41 = .ok (.iaload, 1) := by decide +kernel
theorem dX9_puff_42 : decode cX9_puff 42 = .ok (.ireturn, 1) := by decide +kernel
theorem dX9_tear_0 : decode cX9_tear 0 = .ok (.aload_n 0, 1) := by decide +kernel
theorem dX9_tear_1 : decode cX9_tear 1 = .ok (.getfield 19, 3) := by decide +kernel
theorem dX9_tear_4 : decode cX9_tear 4 = .ok (.iload_n 1, 1) := by decide +kernel
theorem dX9_tear_5 : decode cX9_tear 5 = .ok (.invokevirtual 144, 3) := by decide +kernel
theorem dX9_tear_8 : decode cX9_tear 8 = .ok (.ifCond .ne 5, 3) := by decide +kernel
theorem dX9_tear_11 : decode cX9_tear 11 = .ok (.iconst (-1), 1) := by decide +kernel
theorem dX9_tear_12 : decode cX9_tear 12 = .ok (.ireturn, 1) := by decide +kernel
theorem dX9_tear_13 : decode cX9_tear 13 = .ok (.aload_n 0, 1) := by decide +kernel
theorem dX9_tear_14 : decode cX9_tear 14 = .ok (.getfield 28, 3) := by decide +kernel
theorem dX9_tear_17 : decode cX9_tear 17 = .ok (.iload_n 1, 1) := by decide +kernel
theorem dX9_tear_18 : decode cX9_tear 18 = .ok (.invokevirtual 162, 3) := by decide +kernel
theorem dX9_tear_21 : decode cX9_tear 21 = .ok (.ifCond .eq 6, 3) := by decide +kernel
theorem dX9_tear_24 : decode cX9_tear 24 = .ok (.bipush (-3), 2) := by decide +kernel
theorem dX9_tear_26 : decode cX9_tear 26 = .ok (.ireturn, 1) := by decide +kernel
theorem dX9_tear_27 : decode cX9_tear 27 = .ok (.aload_n 0, 1) := by decide +kernel
theorem dX9_tear_28 : decode cX9_tear 28 = .ok (.getfield 28, 3) := by decide +kernel
theorem dX9_tear_31 : decode cX9_tear 31 = .ok (.iload_n 1, 1) := by decide +kernel
theorem dX9_tear_32 : decode cX9_tear 32 = .ok (.invokevirtual 159, 3) := by decide +kernel
theorem dX9_tear_35 : decode cX9_tear 35 = .ok (.istore_n 2, 1) := by decide +kernel
theorem dX9_tear_36 : decode cX9_tear 36 = .ok (.aload_n 0, 1) := by decide +kernel
theorem dX9_tear_37 : decode cX9_tear 37 = .ok (.getfield 38, 3) := by decide +kernel
theorem dX9_tear_40 : decode cX9_tear 40 = .ok (.aload_n 0, 1) := by decide +kernel
theorem dX9_tear_41 : decode cX9_tear 41 = .ok (.getfield 28, 3) := by decide +kernel
theorem dX9_tear_44 : decode cX9_tear 44 = .ok (.invokevirtual 165, 3) := by decide +kernel
theorem dX9_tear_47 : decode cX9_tear 47 = .ok (.aload_n 0, 1) := by decide +kernel
theorem dX9_tear_48 : decode cX9_tear 48 = .ok (.getfield 28, 3) := by decide +kernel
theorem dX9_tear_51 : decode cX9_tear 51 = .ok (.iload_n 1, 1) := by decide +kernel
theorem dX9_tear_52 : decode cX9_tear 52 = .ok (.invokevirtual 184, 3) := by decide +kernel
theorem dX9_tear_55 : decode cX9_tear 55 = .ok (.iload_n 2, 1) := by decide +kernel
theorem dX9_tear_56 : decode cX9_tear 56 = .ok (.ireturn, 1) := by decide +kernel
theorem dX9_undo_0 : decode cX9_undo 0 = .ok (.aload_n 0, 1) := by decide +kernel
theorem dX9_undo_1 : decode cX9_undo 1 = .ok (.getfield 38, 3) := by decide +kernel
theorem dX9_undo_4 : decode cX9_undo 4 = .ok (.aload_n 0, 1) := by decide +kernel
theorem dX9_undo_5 : decode cX9_undo 5 = .ok (.getfield 28, 3) := by decide +kernel
theorem dX9_undo_8 : decode cX9_undo 8 = .ok (.invokevirtual 188, 3) := by decide +kernel
theorem dX9_undo_11 : decode cX9_undo 11 = .ok (.ifCond .eq 13, 3) := by decide +kernel
theorem dX9_undo_14 : decode cX9_undo 14 = .ok (.aload_n 0, 1) := by decide +kernel
theorem dX9_undo_15 : decode cX9_undo 15 = .ok (.getfield 38, 3) := by decide +kernel
theorem dX9_undo_18 : decode cX9_undo 18 = .ok (.getfield 192, 3) := by decide +kernel
theorem dX9_undo_21 : decode cX9_undo 21 = .ok (.goto 5, 3) := by decide +kernel
theorem dX9_undo_24 : decode cX9_undo 24 = .ok (.bipush (-3), 2) := by decide +kernel
theorem dX9_undo_26 : decode cX9_undo 26 = .ok (.ireturn, 1) := by decide +kernel
theorem dX9_where_0 : decode cX9_where 0 = .ok (.aload_n 0, 1) := by decide +kernel
theorem dX9_where_1 : decode cX9_where 1 = .ok (.getfield 19, 3) := by decide +kernel
theorem dX9_where_4 : decode cX9_where 4 = .ok (.iload_n 1, 1) := by decide +kernel
theorem dX9_where_5 : decode cX9_where 5 = .ok (.invokevirtual 121, 3) := by decide +kernel
theorem dX9_where_8 : decode cX9_where 8 = .ok (.ifCond .ne 5, 3) := by decide +kernel
theorem dX9_where_11 : decode cX9_where 11 = .ok (.iconst (-1), 1) := by decide +kernel
theorem dX9_where_12 : decode cX9_where 12 = .ok (.ireturn, 1) := by decide +kernel
theorem dX9_where_13 : decode cX9_where 13 = .ok (.iload_n 2, 1) := by decide +kernel
theorem dX9_where_14 : decode cX9_where 14 = .ok (.ifCond .lt 9, 3) := by decide +kernel
theorem dX9_where_17 : decode cX9_where 17 = .ok (.iload_n 2, 1) := by decide +kernel
theorem dX9_where_18 : decode cX9_where 18 = .ok (.bipush 20, 2) := by decide +kernel
theorem dX9_where_20 : decode cX9_where 20 = .ok (.if_icmp .le 6, 3) := by decide +kernel
theorem dX9_where_23 : decode cX9_where 23 = .ok (.bipush (-2), 2) := by decide +kernel
theorem dX9_where_25 : decode cX9_where 25 = .ok (.ireturn, 1) := by decide +kernel
theorem dX9_where_26 : decode cX9_where 26 = .ok (.aload_n 0, 1) := by decide +kernel
theorem dX9_where_27 : decode cX9_where 27 = .ok (.getfield 19, 3) := by decide +kernel
theorem dX9_where_30 : decode cX9_where 30 = .ok (.aload_n 0, 1) := by decide +kernel
theorem dX9_where_31 : decode cX9_where 31 = .ok (.getfield 19, 3) := by decide +kernel
theorem dX9_where_34 : decode cX9_where 34 = .ok (.getfield 130, 3) := by decide +kernel
theorem dX9_where_37 : decode cX9_where 37 = .ok (.iload_n 1, 1) := by decide +kernel
theorem dX9_where_38 : decode cX9_where 38 = .ok (.iaload, 1) := by decide +kernel
theorem dX9_where_39 : decode cX9_where 39 = .ok (.aload_n 0, 1) := by decide +kernel
theorem dX9_where_40 : decode cX9_where 40 = .ok (.getfield 28, 3) := by decide +kernel
theorem dX9_where_43 : decode cX9_where 43 = .ok (.getfield 124, 3) := by decide +kernel
theorem dX9_where_46 : decode cX9_where 46 = .ok (.iload_n 1, 1) := by decide +kernel
theorem dX9_where_47 : decode cX9_where 47 = .ok (.iaload, 1) := by decide +kernel
theorem dX9_where_48 : decode cX9_where 48 = .ok (.aload_n 0, 1) := by decide +kernel
theorem dX9_where_49 : decode cX9_where 49 = .ok (.getfield 28, 3) := by decide +kernel
theorem dX9_where_52 : decode cX9_where 52 = .ok (.getfield 195, 3) := by decide +kernel
theorem dX9_where_55 : decode cX9_where 55 = .ok (.iload_n 2, 1) := by decide +kernel
theorem dX9_where_56 : decode cX9_where 56 = .ok (.invokevirtual 198, 3) := by decide +kernel
theorem dX9_where_59 : decode cX9_where 59 = .ok (.ireturn, 1) := by decide +kernel
theorem dX9_umbrellas_0 : decode cX9_umbrellas 0 = .ok (.iload_n 1, 1) := by decide +kernel
theorem dX9_umbrellas_1 : decode cX9_umbrellas 1 = .ok (.ifCond .lt 9, 3) := by decide +kernel
theorem dX9_umbrellas_4 : decode cX9_umbrellas 4 = .ok (.iload_n 1, 1) := by decide +kernel
theorem dX9_umbrellas_5 : decode cX9_umbrellas 5 = .ok (.bipush 20, 2) := by decide +kernel
theorem dX9_umbrellas_7 : decode cX9_umbrellas 7 = .ok (.if_icmp .le 6, 3) := by decide +kernel
theorem dX9_umbrellas_10 : decode cX9_umbrellas 10 = .ok (.bipush (-2), 2) := by decide +kernel
theorem dX9_umbrellas_12 : decode cX9_umbrellas 12 = .ok (.ireturn, 1) := by decide +kernel
theorem dX9_umbrellas_13 : decode cX9_umbrellas 13 = .ok (.aload_n 0, 1) := by decide +kernel
theorem dX9_umbrellas_14 : decode cX9_umbrellas 14 = .ok (.getfield 28, 3) := by decide +kernel
theorem dX9_umbrellas_17 : decode cX9_umbrellas 17 = .ok (.aload_n 0, 1) := by decide +kernel
theorem dX9_umbrellas_18 : decode cX9_umbrellas 18 = .ok (.getfield 28, 3) := by decide +kernel
theorem dX9_umbrellas_21 : decode cX9_umbrellas 21 = .ok (.getfield 195, 3) := by decide +kernel
theorem dX9_umbrellas_24 : decode cX9_umbrellas 24 = .ok (.iload_n 1, 1) := by decide +kernel
theorem dX9_umbrellas_25 : decode cX9_umbrellas 25 = .ok (.iadd, 1) := by decide +kernel
theorem dX9_umbrellas_26 : decode cX9_umbrellas 26 = .ok (.invokevirtual 202, 3) := by decide +kernel
theorem dX9_umbrellas_29 : decode cX9_umbrellas 29 = .ok (.ireturn, 1) := by decide +kernel
theorem dX9_most_0 : decode cX9_most 0 = .ok (.aload_n 0, 1) := by decide +kernel
theorem dX9_most_1 : decode cX9_most 1 = .ok (.getfield 52, 3) := by decide +kernel
theorem dX9_most_4 : decode cX9_most 4 = .ok (.aload_n 0, 1) := by decide +kernel
theorem dX9_most_5 : decode cX9_most 5 = .ok (.getfield 28, 3) := by decide +kernel
theorem dX9_most_8 : decode cX9_most 8 = .ok (.aload_n 0, 1) := by decide +kernel
theorem dX9_most_9 : decode cX9_most 9 = .ok (.getfield 19, 3) := by decide +kernel
theorem dX9_most_12 : decode cX9_most 12 = .ok (.invokevirtual 205, 3) := by decide +kernel
theorem dX9_most_15 : decode cX9_most 15 = .ok (.aload_n 0, 1) := by decide +kernel
theorem dX9_most_16 : decode cX9_most 16 = .ok (.getfield 52, 3) := by decide +kernel
theorem dX9_most_19 : decode cX9_most 19 = .ok (.aload_n 0, 1) := by decide +kernel
theorem dX9_most_20 : decode cX9_most 20 = .ok (.getfield 52, 3) := by decide +kernel
theorem dX9_most_23 : decode cX9_most 23 = .ok (.invokevirtual 209, 3) := by decide +kernel
theorem dX9_most_26 : decode cX9_most 26 = .ok (.invokevirtual 212, 3) := by decide +kernel
theorem dX9_most_29 : decode cX9_most 29 = .ok (.ireturn, 1) := by decide +kernel
theorem dX9_lacks_0 : decode cX9_lacks 0 = .ok (.aload_n 0, 1) := by decide +kernel
theorem dX9_lacks_1 : decode cX9_lacks 1 = .ok (.getfield 19, 3) := by decide +kernel
theorem dX9_lacks_4 : decode cX9_lacks 4 = .ok (.iload_n 1, 1) := by decide +kernel
theorem dX9_lacks_5 : decode cX9_lacks 5 = .ok (.invokevirtual 144, 3) := by decide +kernel
theorem dX9_lacks_8 : decode cX9_lacks 8 = .ok (.ifCond .ne 5, 3) := by decide +kernel
theorem dX9_lacks_11 : decode cX9_lacks 11 = .ok (.iconst (-1), 1) := by decide +kernel
theorem dX9_lacks_12 : decode cX9_lacks 12 = .ok (.ireturn, 1) := by decide +kernel
theorem dX9_lacks_13 : decode cX9_lacks 13 = .ok (.aload_n 0, 1) := by decide +kernel
theorem dX9_lacks_14 : decode cX9_lacks 14 = .ok (.getfield 52, 3) := by decide +kernel
theorem dX9_lacks_17 : decode cX9_lacks 17 = .ok (.aload_n 0, 1) := by decide +kernel
theorem dX9_lacks_18 : decode cX9_lacks 18 = .ok (.getfield 28, 3) := by decide +kernel
theorem dX9_lacks_21 : decode cX9_lacks 21 = .ok (.aload_n 0, 1) := by decide +kernel
theorem dX9_lacks_22 : decode cX9_lacks 22 = .ok (.getfield 19, 3) := by decide +kernel
theorem dX9_lacks_25 : decode cX9_lacks 25 = .ok (.invokevirtual 205, 3) := by decide +kernel
theorem dX9_lacks_28 : decode cX9_lacks 28 = .ok (.aload_n 0, 1) := by decide +kernel
theorem dX9_lacks_29 : decode cX9_lacks 29 = .ok (.getfield 52, 3) := by decide +kernel
theorem dX9_lacks_32 : decode cX9_lacks 32 = .ok (.iload_n 1, 1) := by decide +kernel
theorem dX9_lacks_33 : decode cX9_lacks 33 = .ok (.invokevirtual 215, 3) := by decide +kernel
theorem dX9_lacks_36 : decode cX9_lacks 36 = .ok (.ireturn, 1) := by decide +kernel
theorem dX9_puffs_0 : decode cX9_puffs 0 = .ok (.aload_n 0, 1) := by decide +kernel
theorem dX9_puffs_1 : decode cX9_puffs 1 = .ok (.getfield 52, 3) := by decide +kernel
theorem dX9_puffs_4 : decode cX9_puffs 4 = .ok (.aload_n 0, 1) := by decide +kernel
theorem dX9_puffs_5 : decode cX9_puffs 5 = .ok (.getfield 28, 3) := by decide +kernel
theorem dX9_puffs_8 : decode cX9_puffs 8 = .ok (.aload_n 0, 1) := by decide +kernel
theorem dX9_puffs_9 : decode cX9_puffs 9 = .ok (.getfield 19, 3) := by decide +kernel
theorem dX9_puffs_12 : decode cX9_puffs 12 = .ok (.invokevirtual 205, 3) := by decide +kernel
theorem dX9_puffs_15 : decode cX9_puffs 15 = .ok (.aload_n 0, 1) := by decide +kernel
theorem dX9_puffs_16 : decode cX9_puffs 16 = .ok (.getfield 52, 3) := by decide +kernel
theorem dX9_puffs_19 : decode cX9_puffs 19 = .ok (.aload_n 0, 1) := by decide +kernel
theorem dX9_puffs_20 : decode cX9_puffs 20 = .ok (.getfield 28, 3) := by decide +kernel
theorem dX9_puffs_23 : decode cX9_puffs 23 = .ok (.invokevirtual 218, 3) := by decide +kernel
theorem dX9_puffs_26 : decode cX9_puffs 26 = .ok (.aload_n 0, 1) := by decide +kernel
theorem dX9_puffs_27 : decode cX9_puffs 27 = .ok (.getfield 52, 3) := by decide +kernel
theorem dX9_puffs_30 : decode cX9_puffs 30 = .ok (.aload_n 0, 1) := by decide +kernel
theorem dX9_puffs_31 : decode cX9_puffs 31 = .ok (.getfield 28, 3) := by decide +kernel
theorem dX9_puffs_34 : decode cX9_puffs 34 = .ok (.invokevirtual 221, 3) := by decide +kernel
theorem dX9_puffs_37 : decode cX9_puffs 37 = .ok (.ireturn, 1) := by decide +kernel
theorem dX9_judge_0 : decode cX9_judge 0 = .ok (.iload_n 1, 1) := by decide +kernel
theorem dX9_judge_1 : decode cX9_judge 1 = .ok (.iconst 1, 1) := by decide +kernel
theorem dX9_judge_2 : decode cX9_judge 2 = .ok (.if_icmp .lt 14, 3) := by decide +kernel
theorem dX9_judge_5 : decode cX9_judge 5 = .ok (.iload_n 1, 1) := by decide +kernel
theorem dX9_judge_6 : decode cX9_judge 6 = .ok (.iconst 4, 1) := by decide +kernel
theorem dX9_judge_7 : decode cX9_judge 7 = .ok (.if_icmp .gt 9, 3) := by decide +kernel
theorem dX9_judge_10 : decode cX9_judge 10 = .ok (.lload_n 2, 1) := by decide +kernel
theorem dX9_judge_11 : decode cX9_judge 11 = .ok (.lconst 0, 1) := by decide +kernel
theorem dX9_judge_12 : decode cX9_judge 12 = .ok (.lcmp, 1) := by decide +kernel
theorem dX9_judge_13 : decode cX9_judge 13 = .ok (.ifCond .ge 6, 3) := by decide +kernel
theorem dX9_judge_16 : decode cX9_judge 16 = .ok (.bipush (-2), 2) := by decide +kernel
theorem dX9_judge_18 : decode cX9_judge 18 = .ok (.ireturn, 1) := by decide +kernel
theorem dX9_judge_19 : decode cX9_judge 19 = .ok (.lload_n 2, 1) := by decide +kernel
theorem dX9_judge_20 : decode cX9_judge 20 = .ok (.lstore 4, 2) := by decide +kernel
theorem dX9_judge_22 : decode cX9_judge 22 = .ok (.iload_n 1, 1) := by decide +kernel
theorem dX9_judge_23 : decode cX9_judge 23 = .ok (.iconst 1, 1) := by decide +kernel
theorem dX9_judge_24 : decode cX9_judge 24 = .ok (.isub, 1) := by decide +kernel
theorem dX9_judge_25 : decode cX9_judge 25 = .ok (.istore 6, 2) := by decide +kernel
theorem dX9_judge_27 : decode cX9_judge 27 = .ok (.iload 6, 2) := by decide +kernel
theorem dX9_judge_29 : decode cX9_judge 29 = .ok (.ifCond .lt 31, 3) := by decide +kernel
theorem dX9_judge_32 : decode cX9_judge 32 = .ok (.aload_n 0, 1) := by decide +kernel
theorem dX9_judge_33 : decode cX9_judge 33 = .ok (.getfield 83, 3) := by decide +kernel
theorem dX9_judge_36 : decode cX9_judge 36 = .ok (.iload 6, 2) := by decide +kernel
theorem dX9_judge_38 : decode cX9_judge 38 = .ok (.lload 4, 2) := by decide +kernel
theorem dX9_judge_40 : decode cX9_judge 40 = .ok (.ldc2_w 225, 3) := by decide +kernel
theorem dX9_judge_43 : decode cX9_judge 43 = .ok (.lrem, 1) := by decide +kernel
theorem dX9_judge_44 : decode cX9_judge 44 = .ok (.l2i, 1) := by decide +kernel
theorem dX9_judge_45 : decode cX9_judge 45 = .ok (.iastore, 1) := by decide +kernel
theorem dX9_judge_46 : decode cX9_judge 46 = .ok (.lload 4, 2) := by decide +kernel
theorem dX9_judge_48 : decode cX9_judge 48 = .ok (.ldc2_w 225, 3) := by decide +kernel
theorem dX9_judge_51 : decode cX9_judge 51 = .ok (.ldiv, 1) := by decide +kernel
theorem dX9_judge_52 : decode cX9_judge 52 = .ok (.lstore 4, 2) := by decide +kernel
theorem dX9_judge_54 : decode cX9_judge 54 = .ok (.iinc 6 (-1), 3) := by decide +kernel
theorem dX9_judge_57 : decode cX9_judge 57 = .ok (.goto (-30), 3) := by decide +kernel
theorem dX9_judge_60 : decode cX9_judge 60 = .ok (.lload 4, 2) := by decide +kernel
theorem dX9_judge_62 : decode cX9_judge 62 = .ok (.lconst 0, 1) := by decide +kernel
theorem dX9_judge_63 : decode cX9_judge 63 = .ok (.lcmp, 1) := by decide +kernel
theorem dX9_judge_64 : decode cX9_judge 64 = .ok (.ifCond .eq 6, 3) := by decide +kernel
theorem dX9_judge_67 : decode cX9_judge 67 = .ok (.bipush (-2), 2) := by decide +kernel
theorem dX9_judge_69 : decode cX9_judge 69 = .ok (.ireturn, 1) := by decide +kernel
theorem dX9_judge_70 : decode cX9_judge 70 = .ok (.aload_n 0, 1) := by decide +kernel
theorem dX9_judge_71 : decode cX9_judge 71 = .ok (.invokevirtual 227, 3) := by decide +kernel
theorem dX9_judge_74 : decode cX9_judge 74 = .ok (.iconst 0, 1) := by decide +kernel
theorem dX9_judge_75 : decode cX9_judge 75 = .ok (.istore 6, 2) := by decide +kernel
theorem dX9_judge_77 : decode cX9_judge 77 = .ok (.iload 6, 2) := by decide +kernel
theorem dX9_judge_79 : decode cX9_judge 79 = .ok (.iload_n 1, 1) := by decide +kernel
theorem dX9_judge_80 : decode cX9_judge 80 = .ok (.if_icmp .ge 29, 3) := by decide +kernel
theorem dX9_judge_83 : decode cX9_judge 83 = .ok (.aload_n 0, 1) := by decide +kernel
theorem dX9_judge_84 : decode cX9_judge 84 = .ok (.getfield 32, 3) := by decide +kernel
theorem dX9_judge_87 : decode cX9_judge 87 = .ok (.aload_n 0, 1) := by decide +kernel
theorem dX9_judge_88 : decode cX9_judge 88 = .ok (.getfield 83, 3) := by decide +kernel
theorem dX9_judge_91 : decode cX9_judge 91 = .ok (.iload 6, 2) := by decide +kernel
theorem dX9_judge_93 : decode cX9_judge 93 = .ok (.iaload, 1) := by decide +kernel
theorem dX9_judge_94 : decode cX9_judge 94 = .ok (.invokevirtual 230, 3) := by decide +kernel
theorem dX9_judge_97 : decode cX9_judge 97 = .ok (.ifCond .ne 6, 3) := by decide +kernel
theorem dX9_judge_100 : decode cX9_judge 100 = .ok (.iload 6, 2) := by decide +kernel
theorem dX9_judge_102 : decode cX9_judge 102 = .ok (.ireturn, 1) := by decide +kernel
theorem dX9_judge_103 : decode cX9_judge 103 = .ok (.iinc 6 1, 3) := by decide +kernel
theorem dX9_judge_106 : decode cX9_judge 106 = .ok (.goto (-29), 3) := by decide +kernel
theorem dX9_judge_109 : decode cX9_judge 109 = .ok (.bipush (-9), 2) := by decide +kernel
theorem dX9_judge_111 : decode cX9_judge 111 = .ok (.ireturn, 1) := by decide +kernel
theorem dX9_see_0 : decode cX9_see 0 = .ok (.iload_n 1, 1) := by decide +kernel
theorem dX9_see_1 : decode cX9_see 1 = .ok (.ifCond .lt 9, 3) := by decide +kernel
theorem dX9_see_4 : decode cX9_see 4 = .ok (.iload_n 1, 1) := by decide +kernel
theorem dX9_see_5 : decode cX9_see 5 = .ok (.bipush 6, 2) := by decide +kernel
theorem dX9_see_7 : decode cX9_see 7 = .ok (.if_icmp .lt 5, 3) := by decide +kernel
theorem dX9_see_10 : decode cX9_see 10 = .ok (.iconst (-1), 1) := by decide +kernel
theorem dX9_see_11 : decode cX9_see 11 = .ok (.ireturn, 1) := by decide +kernel
theorem dX9_see_12 : decode cX9_see 12 = .ok (.iload_n 2, 1) := by decide +kernel
theorem dX9_see_13 : decode cX9_see 13 = .ok (.ifCond .lt 9, 3) := by decide +kernel
theorem dX9_see_16 : decode cX9_see 16 = .ok (.iload_n 2, 1) := by decide +kernel
theorem dX9_see_17 : decode cX9_see 17 = .ok (.bipush 9, 2) := by decide +kernel
theorem dX9_see_19 : decode cX9_see 19 = .ok (.if_icmp .le 6, 3) := by decide +kernel
theorem dX9_see_22 : decode cX9_see 22 = .ok (.bipush (-2), 2) := by decide +kernel
theorem dX9_see_24 : decode cX9_see 24 = .ok (.ireturn, 1) := by decide +kernel
theorem dX9_see_25 : decode cX9_see 25 = .ok (.aload_n 0, 1) := by decide +kernel
theorem dX9_see_26 : decode cX9_see 26 = .ok (.getfield 45, 3) := by decide +kernel
theorem dX9_see_29 : decode cX9_see 29 = .ok (.iload_n 1, 1) := by decide +kernel
theorem dX9_see_30 : decode cX9_see 30 = .ok (.iload_n 2, 1) := by decide +kernel
theorem dX9_see_31 : decode cX9_see 31 = .ok (.invokevirtual 233, 3) := by decide +kernel
theorem dX9_see_34 : decode cX9_see 34 = .ok (.ifCond .eq 13, 3) := by decide +kernel
theorem dX9_see_37 : decode cX9_see 37 = .ok (.aload_n 0, 1) := by decide +kernel
theorem dX9_see_38 : decode cX9_see 38 = .ok (.getfield 45, 3) := by decide +kernel
theorem dX9_see_41 : decode cX9_see 41 = .ok (.getfield 236, 3) := by decide +kernel
theorem dX9_see_44 : decode cX9_see 44 = .ok (.goto 5, 3) := by decide +kernel
theorem dX9_see_47 : decode cX9_see 47 = .ok (.bipush (-4), 2) := by decide +kernel
theorem dX9_see_49 : decode cX9_see 49 = .ok (.ireturn, 1) := by decide +kernel
theorem dX9_unsee_0 : decode cX9_unsee 0 = .ok (.aload_n 0, 1) := by decide +kernel
theorem dX9_unsee_1 : decode cX9_unsee 1 = .ok (.getfield 45, 3) := by decide +kernel
theorem dX9_unsee_4 : decode cX9_unsee 4 = .ok (.getfield 236, 3) := by decide +kernel
theorem dX9_unsee_7 : decode cX9_unsee 7 = .ok (.istore_n 1, 1) := by decide +kernel
theorem dX9_unsee_8 : decode cX9_unsee 8 = .ok (.aload_n 0, 1) := by decide +kernel
theorem dX9_unsee_9 : decode cX9_unsee 9 = .ok (.getfield 45, 3) := by decide +kernel
theorem dX9_unsee_12 : decode cX9_unsee 12 = .ok (.iconst 0, 1) := by decide +kernel
theorem dX9_unsee_13 : decode cX9_unsee 13 = .ok (.putfield 236, 3) := by decide +kernel
theorem dX9_unsee_16 : decode cX9_unsee 16 = .ok (.iload_n 1, 1) := by decide +kernel
theorem dX9_unsee_17 : decode cX9_unsee 17 = .ok (.ireturn, 1) := by decide +kernel
theorem dX9_began_0 : decode cX9_began 0 = .ok (.iload_n 1, 1) := by decide +kernel
theorem dX9_began_1 : decode cX9_began 1 = .ok (.ifCond .lt 8, 3) := by decide +kernel
theorem dX9_began_4 : decode cX9_began 4 = .ok (.iload_n 1, 1) := by decide +kernel
theorem dX9_began_5 : decode cX9_began 5 = .ok (.iconst 4, 1) := by decide +kernel
theorem dX9_began_6 : decode cX9_began 6 = .ok (.if_icmp .lt 6, 3) := by decide +kernel
theorem dX9_began_9 : decode cX9_began 9 = .ok (.bipush (-2), 2) := by decide +kernel
theorem dX9_began_11 : decode cX9_began 11 = .ok (.ireturn, 1) := by decide +kernel
theorem dX9_began_12 : decode cX9_began 12 = .ok (.aload_n 0, 1) := by decide +kernel
theorem dX9_began_13 : decode cX9_began 13 = .ok (.getfield 45, 3) := by decide +kernel
theorem dX9_began_16 : decode cX9_began 16 = .ok (.iload_n 1, 1) := by decide +kernel
theorem dX9_began_17 : decode cX9_began 17 = .ok (.aload_n 0, 1) := by decide +kernel
theorem dX9_began_18 : decode cX9_began 18 = .ok (.getfield 19, 3) := by decide +kernel
theorem dX9_began_21 : decode cX9_began 21 = .ok (.invokevirtual 237, 3) := by decide +kernel
theorem dX9_began_24 : decode cX9_began 24 = .ok (.ireturn, 1) := by decide +kernel
theorem dX9_share_0 : decode cX9_share 0 = .ok (.aload_n 0, 1) := by decide +kernel
theorem dX9_share_1 : decode cX9_share 1 = .ok (.getfield 19, 3) := by decide +kernel
theorem dX9_share_4 : decode cX9_share 4 = .ok (.iload_n 1, 1) := by decide +kernel
theorem dX9_share_5 : decode cX9_share 5 = .ok (.invokevirtual 121, 3) := by decide +kernel
theorem dX9_share_8 : decode cX9_share 8 = .ok (.ifCond .ne 5, 3) := by decide +kernel
theorem dX9_share_11 : decode cX9_share 11 = .ok (.iconst (-1), 1) := by decide +kernel
theorem dX9_share_12 : decode cX9_share 12 = .ok (.ireturn, 1) := by decide +kernel
theorem dX9_share_13 : decode cX9_share 13 = .ok (.aload_n 0, 1) := by decide +kernel
theorem dX9_share_14 : decode cX9_share 14 = .ok (.getfield 52, 3) := by decide +kernel
theorem dX9_share_17 : decode cX9_share 17 = .ok (.aload_n 0, 1) := by decide +kernel
theorem dX9_share_18 : decode cX9_share 18 = .ok (.getfield 28, 3) := by decide +kernel
theorem dX9_share_21 : decode cX9_share 21 = .ok (.aload_n 0, 1) := by decide +kernel
theorem dX9_share_22 : decode cX9_share 22 = .ok (.getfield 19, 3) := by decide +kernel
theorem dX9_share_25 : decode cX9_share 25 = .ok (.invokevirtual 205, 3) := by decide +kernel
theorem dX9_share_28 : decode cX9_share 28 = .ok (.aload_n 0, 1) := by decide +kernel
theorem dX9_share_29 : decode cX9_share 29 = .ok (.getfield 52, 3) := by decide +kernel
theorem dX9_share_32 : decode cX9_share 32 = .ok (.iload_n 1, 1) := by decide +kernel
theorem dX9_share_33 : decode cX9_share 33 = .ok (.invokevirtual 241, 3) := by decide +kernel
theorem dX9_share_36 : decode cX9_share 36 = .ok (.aload_n 0, 1) := by decide +kernel
theorem dX9_share_37 : decode cX9_share 37 = .ok (.getfield 19, 3) := by decide +kernel
theorem dX9_share_40 : decode cX9_share 40 = .ok (.getfield 115, 3) := by decide +kernel
theorem dX9_share_43 : decode cX9_share 43 = .ok (.invokestatic 244, 3) := by decide +kernel
theorem dX9_share_46 : decode cX9_share 46 = .ok (.iload_n 2, 1) := by decide +kernel
theorem dX9_share_47 : decode cX9_share 47 = .ok (.invokestatic 249, 3) := by decide +kernel
theorem dX9_share_50 : decode cX9_share 50 = .ok (.ireturn, 1) := by decide +kernel
theorem dX9_rests_0 : decode cX9_rests 0 = .ok (.aload_n 0, 1) := by decide +kernel
theorem dX9_rests_1 : decode cX9_rests 1 = .ok (.getfield 19, 3) := by decide +kernel
theorem dX9_rests_4 : decode cX9_rests 4 = .ok (.iload_n 1, 1) := by decide +kernel
theorem dX9_rests_5 : decode cX9_rests 5 = .ok (.invokevirtual 121, 3) := by decide +kernel
theorem dX9_rests_8 : decode cX9_rests 8 = .ok (.ifCond .eq 14, 3) := by decide +kernel
theorem dX9_rests_11 : decode cX9_rests 11 = .ok (.aload_n 0, 1) := by decide +kernel
theorem dX9_rests_12 : decode cX9_rests 12 = .ok (.getfield 19, 3) := by decide +kernel
theorem dX9_rests_15 : decode cX9_rests 15 = .ok (.iload_n 2, 1) := by decide +kernel
theorem dX9_rests_16 : decode cX9_rests 16 = .ok (.invokevirtual 121, 3) := by decide +kernel
theorem dX9_rests_19 : decode cX9_rests 19 = .ok (.ifCond .ne 5, 3) := by decide +kernel
theorem dX9_rests_22 : decode cX9_rests 22 = .ok (.iconst (-1), 1) := by decide +kernel
theorem dX9_rests_23 : decode cX9_rests 23 = .ok (.ireturn, 1) := by decide +kernel
theorem dX9_rests_24 : decode cX9_rests 24 = .ok (.iload_n 1, 1) := by decide +kernel
theorem dX9_rests_25 : decode cX9_rests 25 = .ok (.iload_n 2, 1) := by decide +kernel
theorem dX9_rests_26 : decode cX9_rests 26 = .ok (.if_icmp .eq 12, 3) := by decide +kernel
theorem dX9_rests_29 : decode cX9_rests 29 = .ok (.iload_n 3, 1) := by decide +kernel
theorem dX9_rests_30 : decode cX9_rests 30 = .ok (.ifCond .lt 8, 3) := by decide +kernel
theorem dX9_rests_33 : decode cX9_rests 33 = .ok (.iload_n 3, 1) := by decide +kernel
theorem dX9_rests_34 : decode cX9_rests 34 = .ok (.iconst 1, 1) := by decide +kernel
theorem dX9_rests_35 : decode cX9_rests 35 = .ok (.if_icmp .le 6, 3) := by decide +kernel
theorem dX9_rests_38 : decode cX9_rests 38 = .ok (.bipush (-2), 2) := by decide +kernel
theorem dX9_rests_40 : decode cX9_rests 40 = .ok (.ireturn, 1) := by decide +kernel
theorem dX9_rests_41 : decode cX9_rests 41 = .ok (.aload_n 0, 1) := by decide +kernel
theorem dX9_rests_42 : decode cX9_rests 42 = .ok (.getfield 28, 3) := by decide +kernel
theorem dX9_rests_45 : decode cX9_rests 45 = .ok (.iload_n 1, 1) := by decide +kernel
theorem dX9_rests_46 : decode cX9_rests 46 = .ok (.aload_n 0, 1) := by decide +kernel
theorem dX9_rests_47 : decode cX9_rests 47 = .ok (.getfield 66, 3) := by decide +kernel
theorem dX9_rests_50 : decode cX9_rests 50 = .ok (.getfield 253, 3) := by decide +kernel
theorem dX9_rests_53 : decode cX9_rests 53 = .ok (.aload_n 0, 1) := by decide +kernel
theorem dX9_rests_54 : decode cX9_rests 54 = .ok (.getfield 66, 3) := by decide +kernel
theorem dX9_rests_57 : decode cX9_rests 57 = .ok (.getfield 256, 3) := by decide +kernel
theorem dX9_rests_60 : decode cX9_rests 60 = .ok (.invokestatic 259, 3) := by decide +kernel
theorem dX9_rests_63 : decode cX9_rests 63 = .ok (.aload_n 0, 1) := by decide +kernel
theorem dX9_rests_64 : decode cX9_rests 64 = .ok (.getfield 28, 3) := by decide +kernel
theorem dX9_rests_67 : decode cX9_rests 67 = .ok (.iload_n 2, 1) := by decide +kernel
theorem dX9_rests_68 : decode cX9_rests 68 = .ok (.aload_n 0, 1) := by decide +kernel
theorem dX9_rests_69 : decode cX9_rests 69 = .ok (.getfield 66, 3) := by decide +kernel
theorem dX9_rests_72 : decode cX9_rests 72 = .ok (.getfield 263, 3) := by decide +kernel
theorem dX9_rests_75 : decode cX9_rests 75 = .ok (.aload_n 0, 1) := by decide +kernel
theorem dX9_rests_76 : decode cX9_rests 76 = .ok (.getfield 66, 3) := by decide +kernel
theorem dX9_rests_79 : decode cX9_rests 79 = .ok (.getfield 266, 3) := by decide +kernel
theorem dX9_rests_82 : decode cX9_rests 82 = .ok (.invokestatic 259, 3) := by decide +kernel
theorem dX9_rests_85 : decode cX9_rests 85 = .ok (.iload_n 3, 1) := by decide +kernel
theorem dX9_rests_86 : decode cX9_rests 86 = .ok (.ifCond .ne 13, 3) := by decide +kernel
theorem dX9_rests_89 : decode cX9_rests 89 = .ok (.aload_n 0, 1) := by decide +kernel
theorem dX9_rests_90 : decode cX9_rests 90 = .ok (.getfield 66, 3) := by decide +kernel
theorem dX9_rests_93 : decode cX9_rests 93 = .ok (.invokevirtual 269, 3) := by decide +kernel
theorem dX9_rests_96 : decode cX9_rests 96 = .ok (.goto 10, 3) := by decide +kernel
theorem dX9_rests_99 : decode cX9_rests 99 = .ok (.aload_n 0, 1) := by decide +kernel
theorem dX9_rests_100 : decode cX9_rests 100 = .ok (.getfield 66, 3) := by decide +kernel
theorem dX9_rests_103 : decode cX9_rests 103 = .ok (.invokevirtual 272, 3) := by decide +kernel
theorem dX9_rests_106 : decode cX9_rests 106 = .ok (.ireturn, 1) := by decide +kernel
theorem dX9_fails_0 : decode cX9_fails 0 = .ok (.aload_n 0, 1) := by decide +kernel
theorem dX9_fails_1 : decode cX9_fails 1 = .ok (.getfield 19, 3) := by decide +kernel
theorem dX9_fails_4 : decode cX9_fails 4 = .ok (.iload_n 1, 1) := by decide +kernel
theorem dX9_fails_5 : decode cX9_fails 5 = .ok (.invokevirtual 121, 3) := by decide +kernel
theorem dX9_fails_8 : decode cX9_fails 8 = .ok (.ifCond .eq 13, 3) := by decide +kernel
theorem dX9_fails_11 : decode cX9_fails 11 = .ok (.iload_n 2, 1) := by decide +kernel
theorem dX9_fails_12 : decode cX9_fails 12 = .ok (.ifCond .lt 9, 3) := by decide +kernel
theorem dX9_fails_15 : decode cX9_fails 15 = .ok (.iload_n 2, 1) := by decide +kernel
theorem dX9_fails_16 : decode cX9_fails 16 = .ok (.bipush 6, 2) := by decide +kernel
theorem dX9_fails_18 : decode cX9_fails 18 = .ok (.if_icmp .lt 5, 3) := by decide +kernel
theorem dX9_fails_21 : decode cX9_fails 21 = .ok (.iconst (-1), 1) := by decide +kernel
theorem dX9_fails_22 : decode cX9_fails 22 = .ok (.ireturn, 1) := by decide +kernel
theorem dX9_fails_23 : decode cX9_fails 23 = .ok (.iload_n 3, 1) := by decide +kernel
theorem dX9_fails_24 : decode cX9_fails 24 = .ok (.iconst 1, 1) := by decide +kernel
theorem dX9_fails_25 : decode cX9_fails 25 = .ok (.if_icmp .lt 21, 3) := by decide +kernel
theorem dX9_fails_28 : decode cX9_fails 28 = .ok (.iload_n 3, 1) := by decide +kernel
theorem dX9_fails_29 : decode cX9_fails 29 = .ok (.bipush 6, 2) := by decide +kernel
theorem dX9_fails_31 : decode cX9_fails 31 = .ok (.if_icmp .gt 15, 3) := by decide +kernel
theorem dX9_fails_34 : decode cX9_fails 34 = .ok (.iload 4, 2) := by decide +kernel
theorem dX9_fails_36 : decode cX9_fails 36 = .ok (.ifCond .lt 10, 3) := by decide +kernel
theorem dX9_fails_39 : decode cX9_fails 39 = .ok (.iload 4, 2) := by decide +kernel
theorem dX9_fails_41 : decode cX9_fails 41 = .ok (.bipush 10, 2) := by decide +kernel
theorem dX9_fails_43 : decode cX9_fails 43 = .ok (.if_icmp .le 6, 3) := by decide +kernel
theorem dX9_fails_46 : decode cX9_fails 46 = .ok (.bipush (-2), 2) := by decide +kernel
theorem dX9_fails_48 : decode cX9_fails 48 = .ok (.ireturn, 1) := by decide +kernel
theorem dX9_fails_49 : decode cX9_fails 49 = .ok (.aload_n 0, 1) := by decide +kernel
theorem dX9_fails_50 : decode cX9_fails 50 = .ok (.getfield 59, 3) := by decide +kernel
theorem dX9_fails_53 : decode cX9_fails 53 = .ok (.aload_n 0, 1) := by decide +kernel
theorem dX9_fails_54 : decode cX9_fails 54 = .ok (.getfield 28, 3) := by decide +kernel
theorem dX9_fails_57 : decode cX9_fails 57 = .ok (.getfield 124, 3) := by decide +kernel
theorem dX9_fails_60 : decode cX9_fails 60 = .ok (.iload_n 1, 1) := by decide +kernel
theorem dX9_fails_61 : decode cX9_fails 61 = .ok (.iaload, 1) := by decide +kernel
theorem dX9_fails_62 : decode cX9_fails 62 = .ok (.invokevirtual 275, 3) := by decide +kernel
theorem dX9_fails_65 : decode cX9_fails 65 = .ok (.iconst 0, 1) := by decide +kernel
theorem dX9_fails_66 : decode cX9_fails 66 = .ok (.istore 6, 2) := by decide +kernel
theorem dX9_fails_68 : decode cX9_fails 68 = .ok (.iload 6, 2) := by decide +kernel
theorem dX9_fails_70 : decode cX9_fails 70 = .ok (.iload_n 3, 1) := by decide +kernel
theorem dX9_fails_71 : decode cX9_fails 71 = .ok (.if_icmp .ge 44, 3) := by decide +kernel
theorem dX9_fails_74 : decode cX9_fails 74 = .ok (.aload_n 0, 1) := by decide +kernel
theorem dX9_fails_75 : decode cX9_fails 75 = .ok (.getfield 59, 3) := by decide +kernel
theorem dX9_fails_78 : decode cX9_fails 78 = .ok (.aload_n 0, 1) := by decide +kernel
theorem dX9_fails_79 : decode cX9_fails 79 = .ok (.getfield 19, 3) := by decide +kernel
theorem dX9_fails_82 : decode cX9_fails 82 = .ok (.aload_n 0, 1) := by decide +kernel
theorem dX9_fails_83 : decode cX9_fails 83 = .ok (.getfield 19, 3) := by decide +kernel
theorem dX9_fails_86 : decode cX9_fails 86 = .ok (.getfield 130, 3) := by decide +kernel
theorem dX9_fails_89 : decode cX9_fails 89 = .ok (.iload_n 1, 1) := by decide +kernel
theorem dX9_fails_90 : decode cX9_fails 90 = .ok (.iaload, 1) := by decide +kernel
theorem dX9_fails_91 : decode cX9_fails 91 = .ok (.aload_n 0, 1) := by decide +kernel
theorem dX9_fails_92 : decode cX9_fails 92 = .ok (.getfield 28, 3) := by decide +kernel
theorem dX9_fails_95 : decode cX9_fails 95 = .ok (.getfield 195, 3) := by decide +kernel
theorem dX9_fails_98 : decode cX9_fails 98 = .ok (.iload 6, 2) := by decide +kernel
theorem dX9_fails_100 : decode cX9_fails 100 = .ok (.iadd, 1) := by decide +kernel
theorem dX9_fails_101 : decode cX9_fails 101 = .ok (.invokevirtual 278, 3) := by decide +kernel
theorem dX9_fails_104 : decode cX9_fails 104 = .ok (.iload 4, 2) := by decide +kernel
theorem dX9_fails_106 : decode cX9_fails 106 = .ok (.invokevirtual 281, 3) := by decide +kernel
theorem dX9_fails_109 : decode cX9_fails 109 = .ok (.iinc 6 1, 3) := by decide +kernel
theorem dX9_fails_112 : decode cX9_fails 112 = .ok (.goto (-44), 3) := by decide +kernel
theorem dX9_fails_115 : decode cX9_fails 115 = .ok (.aload_n 0, 1) := by decide +kernel
theorem dX9_fails_116 : decode cX9_fails 116 = .ok (.getfield 59, 3) := by decide +kernel
theorem dX9_fails_119 : decode cX9_fails 119 = .ok (.getfield 283, 3) := by decide +kernel
theorem dX9_fails_122 : decode cX9_fails 122 = .ok (.iload_n 2, 1) := by decide +kernel
theorem dX9_fails_123 : decode cX9_fails 123 = .ok (.iaload, 1) := by decide +kernel
theorem dX9_fails_124 : decode cX9_fails 124 = .ok (.aload_n 0, 1) := by decide +kernel
theorem dX9_fails_125 : decode cX9_fails 125 = .ok (.getfield 59, 3) := by decide +kernel
theorem dX9_fails_128 : decode cX9_fails 128 = .ok (.getfield 286, 3) := by decide +kernel
theorem dX9_fails_131 : decode cX9_fails 131 = .ok (.iload 5, 2) := by decide +kernel
theorem dX9_fails_133 : decode cX9_fails 133 = .ok (.invokestatic 249, 3) := by decide +kernel
theorem dX9_fails_136 : decode cX9_fails 136 = .ok (.ireturn, 1) := by decide +kernel
theorem dX9_seed_0 : decode cX9_seed 0 = .ok (.aload_n 0, 1) := by decide +kernel
theorem dX9_seed_1 : decode cX9_seed 1 = .ok (.getfield 86, 3) := by decide +kernel
theorem dX9_seed_4 : decode cX9_seed 4 = .ok (.lstore_n 3, 1) := by decide +kernel
theorem dX9_seed_5 : decode cX9_seed 5 = .ok (.aload_n 0, 1) := by decide +kernel
theorem dX9_seed_6 : decode cX9_seed 6 = .ok (.lload_n 1, 1) := by decide +kernel
theorem dX9_seed_7 : decode cX9_seed 7 = .ok (.putfield 86, 3) := by decide +kernel
theorem dX9_seed_10 : decode cX9_seed 10 = .ok (.lload_n 3, 1) := by decide +kernel
theorem dX9_seed_11 : decode cX9_seed 11 = .ok (.lreturn, 1) := by decide +kernel
theorem dX9_seasons_0 : decode cX9_seasons 0 = .ok (.iload_n 1, 1) := by decide +kernel
theorem dX9_seasons_1 : decode cX9_seasons 1 = .ok (.iconst 1, 1) := by decide +kernel
theorem dX9_seasons_2 : decode cX9_seasons 2 = .ok (.if_icmp .lt 9, 3) := by decide +kernel
theorem dX9_seasons_5 : decode cX9_seasons 5 = .ok (.iload_n 1, 1) := by decide +kernel
theorem dX9_seasons_6 : decode cX9_seasons 6 = .ok (.bipush 30, 2) := by decide +kernel
theorem dX9_seasons_8 : decode cX9_seasons 8 = .ok (.if_icmp .le 6, 3) := by decide +kernel
theorem dX9_seasons_11 : decode cX9_seasons 11 = .ok (.bipush (-2), 2) := by decide +kernel
theorem dX9_seasons_13 : decode cX9_seasons 13 = .ok (.ireturn, 1) := by decide +kernel
theorem dX9_seasons_14 : decode cX9_seasons 14 = .ok (.aload_n 0, 1) := by decide +kernel
theorem dX9_seasons_15 : decode cX9_seasons 15 = .ok (.invokevirtual 227, 3) := by decide +kernel
theorem dX9_seasons_18 : decode cX9_seasons 18 = .ok (.iconst 0, 1) := by decide +kernel
theorem dX9_seasons_19 : decode cX9_seasons 19 = .ok (.istore_n 2, 1) := by decide +kernel
theorem dX9_seasons_20 : decode cX9_seasons 20 = .ok (.iconst 0, 1) := by decide +kernel
theorem dX9_seasons_21 : decode cX9_seasons 21 = .ok (.istore_n 3, 1) := by decide +kernel
theorem dX9_seasons_22 : decode cX9_seasons 22 = .ok (.iload_n 3, 1) := by decide +kernel
theorem dX9_seasons_23 : decode cX9_seasons 23 = .ok (.iload_n 1, 1) := by decide +kernel
theorem dX9_seasons_24 : decode cX9_seasons 24 = .ok (.if_icmp .ge 59, 3) := by decide +kernel
theorem dX9_seasons_27 : decode cX9_seasons 27 = .ok (.aload_n 0, 1) := by decide +kernel
theorem dX9_seasons_28 : decode cX9_seasons 28 = .ok (.aload_n 0, 1) := by decide +kernel
theorem dX9_seasons_29 : decode cX9_seasons 29 = .ok (.getfield 86, 3) := by decide +kernel
theorem dX9_seasons_32 : decode cX9_seasons 32 = .ok (.ldc2_w 289, 3) := by decide +kernel
theorem dX9_seasons_35 : decode cX9_seasons 35 = .ok (.lmul, 1) := by decide +kernel
theorem dX9_seasons_36 : decode cX9_seasons 36 = .ok (.ldc2_w 291, 3) := by decide +kernel
theorem dX9_seasons_39 : decode cX9_seasons 39 = .ok (.ladd, 1) := by decide +kernel
theorem dX9_seasons_40 : decode cX9_seasons 40 = .ok (.putfield 86, 3) := by decide +kernel
theorem dX9_seasons_43 : decode cX9_seasons 43 = .ok (.aload_n 0, 1) := by decide +kernel
theorem dX9_seasons_44 : decode cX9_seasons 44 = .ok (.aload_n 0, 1) := by decide +kernel
theorem dX9_seasons_45 : decode cX9_seasons 45 = .ok (.getfield 86, 3) := by decide +kernel
theorem dX9_seasons_48 : decode cX9_seasons 48 = .ok (.bipush 33, 2) := by decide +kernel
theorem dX9_seasons_50 : decode cX9_seasons 50 = .ok (.lushr, 1) := by decide +kernel
theorem dX9_seasons_51 : decode cX9_seasons 51 = .ok (.ldc2_w 293, 3) := by decide +kernel
theorem dX9_seasons_54 : decode cX9_seasons 54 = .ok (.lrem, 1) := by decide +kernel
theorem dX9_seasons_55 : decode cX9_seasons 55 = .ok (.l2i, 1) := by decide +kernel
theorem dX9_seasons_56 : decode cX9_seasons 56 = .ok (.invokevirtual 295, 3) := by decide +kernel
theorem dX9_seasons_59 : decode cX9_seasons 59 = .ok (.iload_n 2, 1) := by decide +kernel
theorem dX9_seasons_60 : decode cX9_seasons 60 = .ok (.aload_n 0, 1) := by decide +kernel
theorem dX9_seasons_61 : decode cX9_seasons 61 = .ok (.getfield 32, 3) := by decide +kernel
theorem dX9_seasons_64 : decode cX9_seasons 64 = .ok (.invokevirtual 298, 3) := by decide +kernel
theorem dX9_seasons_67 : decode cX9_seasons 67 = .ok (.aload_n 0, 1) := by decide +kernel
theorem dX9_seasons_68 : decode cX9_seasons 68 = .ok (.getfield 32, 3) := by decide +kernel
theorem dX9_seasons_71 : decode cX9_seasons 71 = .ok (.getfield 301, 3) := by decide +kernel
theorem dX9_seasons_74 : decode cX9_seasons 74 = .ok (.iadd, 1) := by decide +kernel
theorem dX9_seasons_75 : decode cX9_seasons 75 = .ok (.iadd, 1) := by decide +kernel
theorem dX9_seasons_76 : decode cX9_seasons 76 = .ok (.istore_n 2, 1) := by decide +kernel
theorem dX9_seasons_77 : decode cX9_seasons 77 = .ok (.iinc 3 1, 3) := by decide +kernel
theorem dX9_seasons_80 : decode cX9_seasons 80 = .ok (.goto (-58), 3) := by decide +kernel
theorem dX9_seasons_83 : decode cX9_seasons 83 = .ok (.iload_n 2, 1) := by decide +kernel
theorem dX9_seasons_84 : decode cX9_seasons 84 = .ok (.ireturn, 1) := by decide +kernel
theorem dX9_keep_0 : decode cX9_keep 0 = .ok (.iload_n 1, 1) := by decide +kernel
theorem dX9_keep_1 : decode cX9_keep 1 = .ok (.ifCond .lt 8, 3) := by decide +kernel
theorem dX9_keep_4 : decode cX9_keep 4 = .ok (.iload_n 1, 1) := by decide +kernel
theorem dX9_keep_5 : decode cX9_keep 5 = .ok (.iconst 2, 1) := by decide +kernel
theorem dX9_keep_6 : decode cX9_keep 6 = .ok (.if_icmp .lt 5, 3) := by decide +kernel
theorem dX9_keep_9 : decode cX9_keep 9 = .ok (.iconst (-1), 1) := by decide +kernel
theorem dX9_keep_10 : decode cX9_keep 10 = .ok (.ireturn, 1) := by decide +kernel
theorem dX9_keep_11 : decode cX9_keep 11 = .ok (.aload_n 0, 1) := by decide +kernel
theorem dX9_keep_12 : decode cX9_keep 12 = .ok (.getfield 28, 3) := by decide +kernel
theorem dX9_keep_15 : decode cX9_keep 15 = .ok (.aload_n 0, 1) := by decide +kernel
theorem dX9_keep_16 : decode cX9_keep 16 = .ok (.getfield 72, 3) := by decide +kernel
theorem dX9_keep_19 : decode cX9_keep 19 = .ok (.iload_n 1, 1) := by decide +kernel
theorem dX9_keep_20 : decode cX9_keep 20 = .ok (.aaload, 1) := by decide +kernel
theorem dX9_keep_21 : decode cX9_keep 21 = .ok (.invokevirtual 304, 3) := by decide +kernel
theorem dX9_keep_24 : decode cX9_keep 24 = .ok (.aload_n 0, 1) := by decide +kernel
theorem dX9_keep_25 : decode cX9_keep 25 = .ok (.getfield 75, 3) := by decide +kernel
theorem dX9_keep_28 : decode cX9_keep 28 = .ok (.iload_n 1, 1) := by decide +kernel
theorem dX9_keep_29 : decode cX9_keep 29 = .ok (.iconst 1, 1) := by decide +kernel
theorem dX9_keep_30 : decode cX9_keep 30 = .ok (.bastore, 1) := by decide +kernel
theorem dX9_keep_31 : decode cX9_keep 31 = .ok (.aload_n 0, 1) := by decide +kernel
theorem dX9_keep_32 : decode cX9_keep 32 = .ok (.getfield 28, 3) := by decide +kernel
theorem dX9_keep_35 : decode cX9_keep 35 = .ok (.getfield 195, 3) := by decide +kernel
theorem dX9_keep_38 : decode cX9_keep 38 = .ok (.ireturn, 1) := by decide +kernel
theorem dX9_again_0 : decode cX9_again 0 = .ok (.iload_n 1, 1) := by decide +kernel
theorem dX9_again_1 : decode cX9_again 1 = .ok (.ifCond .lt 8, 3) := by decide +kernel
theorem dX9_again_4 : decode cX9_again 4 = .ok (.iload_n 1, 1) := by decide +kernel
theorem dX9_again_5 : decode cX9_again 5 = .ok (.iconst 2, 1) := by decide +kernel
theorem dX9_again_6 : decode cX9_again 6 = .ok (.if_icmp .lt 5, 3) := by decide +kernel
theorem dX9_again_9 : decode cX9_again 9 = .ok (.iconst (-1), 1) := by decide +kernel
theorem dX9_again_10 : decode cX9_again 10 = .ok (.ireturn, 1) := by decide +kernel
theorem dX9_again_11 : decode cX9_again 11 = .ok (.aload_n 0, 1) := by decide +kernel
theorem dX9_again_12 : decode cX9_again 12 = .ok (.getfield 75, 3) := by decide +kernel
theorem dX9_again_15 : decode cX9_again 15 = .ok (.iload_n 1, 1) := by decide +kernel
theorem dX9_again_16 : decode cX9_again 16 = .ok (.baload, 1) := by decide +kernel
theorem dX9_again_17 : decode cX9_again 17 = .ok (.ifCond .ne 6, 3) := by decide +kernel
theorem dX9_again_20 : decode cX9_again 20 = .ok (.bipush (-3), 2) := by decide +kernel
theorem dX9_again_22 : decode cX9_again 22 = .ok (.ireturn, 1) := by decide +kernel
theorem dX9_again_23 : decode cX9_again 23 = .ok (.aload_n 0, 1) := by decide +kernel
theorem dX9_again_24 : decode cX9_again 24 = .ok (.getfield 28, 3) := by decide +kernel
theorem dX9_again_27 : decode cX9_again 27 = .ok (.aload_n 0, 1) := by decide +kernel
theorem dX9_again_28 : decode cX9_again 28 = .ok (.getfield 72, 3) := by decide +kernel
theorem dX9_again_31 : decode cX9_again 31 = .ok (.iload_n 1, 1) := by decide +kernel
theorem dX9_again_32 : decode cX9_again 32 = .ok (.aaload, 1) := by decide +kernel
theorem dX9_again_33 : decode cX9_again 33 = .ok (.invokevirtual 308, 3) := by decide +kernel
theorem dX9_again_36 : decode cX9_again 36 = .ok (.aload_n 0, 1) := by decide +kernel
theorem dX9_again_37 : decode cX9_again 37 = .ok (.getfield 38, 3) := by decide +kernel
theorem dX9_again_40 : decode cX9_again 40 = .ok (.invokevirtual 109, 3) := by decide +kernel
theorem dX9_again_43 : decode cX9_again 43 = .ok (.aload_n 0, 1) := by decide +kernel
theorem dX9_again_44 : decode cX9_again 44 = .ok (.getfield 28, 3) := by decide +kernel
theorem dX9_again_47 : decode cX9_again 47 = .ok (.getfield 195, 3) := by decide +kernel
theorem dX9_again_50 : decode cX9_again 50 = .ok (.ireturn, 1) := by decide +kernel
theorem dX9_count_0 : decode cX9_count 0 = .ok (.iload_n 1, 1) := by decide +kernel
theorem dX9_count_1 : decode cX9_count 1 = .ok (.tableswitch 166 0 11 #[63, 71, 79, 87, 95, 103, 118, 126, 134, 142, 150, 158], 63) := by decide +kernel
theorem dX9_count_64 : decode cX9_count 64 = .ok (.aload_n 0, 1) := by decide +kernel
theorem dX9_count_65 : decode cX9_count 65 = .ok (.getfield 10, 3) := by decide +kernel
theorem dX9_count_68 : decode cX9_count 68 = .ok (.getfield 94, 3) := by decide +kernel
theorem dX9_count_71 : decode cX9_count 71 = .ok (.ireturn, 1) := by decide +kernel
theorem dX9_count_72 : decode cX9_count 72 = .ok (.aload_n 0, 1) := by decide +kernel
theorem dX9_count_73 : decode cX9_count 73 = .ok (.getfield 19, 3) := by decide +kernel
theorem dX9_count_76 : decode cX9_count 76 = .ok (.getfield 112, 3) := by decide +kernel
theorem dX9_count_79 : decode cX9_count 79 = .ok (.ireturn, 1) := by decide +kernel
theorem dX9_count_80 : decode cX9_count 80 = .ok (.aload_n 0, 1) := by decide +kernel
theorem dX9_count_81 : decode cX9_count 81 = .ok (.getfield 19, 3) := by decide +kernel
theorem dX9_count_84 : decode cX9_count 84 = .ok (.getfield 115, 3) := by decide +kernel
theorem dX9_count_87 : decode cX9_count 87 = .ok (.ireturn, 1) := by decide +kernel
theorem dX9_count_88 : decode cX9_count 88 = .ok (.aload_n 0, 1) := by decide +kernel
theorem dX9_count_89 : decode cX9_count 89 = .ok (.getfield 19, 3) := by decide +kernel
theorem dX9_count_92 : decode cX9_count 92 = .ok (.getfield 118, 3) := by decide +kernel
theorem dX9_count_95 : decode cX9_count 95 = .ok (.ireturn, 1) := by decide +kernel
theorem dX9_count_96 : decode cX9_count 96 = .ok (.aload_n 0, 1) := by decide +kernel
theorem dX9_count_97 : decode cX9_count 97 = .ok (.getfield 28, 3) := by decide +kernel
theorem dX9_count_100 : decode cX9_count 100 = .ok (.getfield 195, 3) := by decide +kernel
theorem dX9_count_103 : decode cX9_count 103 = .ok (.ireturn, 1) := by decide +kernel
theorem dX9_count_104 : decode cX9_count 104 = .ok (.aload_n 0, 1) := by decide +kernel
theorem dX9_count_105 : decode cX9_count 105 = .ok (.getfield 19, 3) := by decide +kernel
theorem dX9_count_108 : decode cX9_count 108 = .ok (.aload_n 0, 1) := by decide +kernel
theorem dX9_count_109 : decode cX9_count 109 = .ok (.getfield 28, 3) := by decide +kernel
theorem dX9_count_112 : decode cX9_count 112 = .ok (.getfield 195, 3) := by decide +kernel
theorem dX9_count_115 : decode cX9_count 115 = .ok (.invokevirtual 311, 3) := by decide +kernel
theorem dX9_count_118 : decode cX9_count 118 = .ok (.ireturn, 1) := by decide +kernel
theorem dX9_count_119 : decode cX9_count 119 = .ok (.aload_n 0, 1) := by decide +kernel
theorem dX9_count_120 : decode cX9_count 120 = .ok (.getfield 28, 3) := by decide +kernel
theorem dX9_count_123 : decode cX9_count 123 = .ok (.invokevirtual 314, 3) := by decide +kernel
theorem dX9_count_126 : decode cX9_count 126 = .ok (.ireturn, 1) := by decide +kernel
theorem dX9_count_127 : decode cX9_count 127 = .ok (.aload_n 0, 1) := by decide +kernel
theorem dX9_count_128 : decode cX9_count 128 = .ok (.getfield 28, 3) := by decide +kernel
theorem dX9_count_131 : decode cX9_count 131 = .ok (.invokevirtual 298, 3) := by decide +kernel
theorem dX9_count_134 : decode cX9_count 134 = .ok (.ireturn, 1) := by decide +kernel
theorem dX9_count_135 : decode cX9_count 135 = .ok (.aload_n 0, 1) := by decide +kernel
theorem dX9_count_136 : decode cX9_count 136 = .ok (.getfield 28, 3) := by decide +kernel
theorem dX9_count_139 : decode cX9_count 139 = .ok (.getfield 301, 3) := by decide +kernel
theorem dX9_count_142 : decode cX9_count 142 = .ok (.ireturn, 1) := by decide +kernel
theorem dX9_count_143 : decode cX9_count 143 = .ok (.aload_n 0, 1) := by decide +kernel
theorem dX9_count_144 : decode cX9_count 144 = .ok (.getfield 28, 3) := by decide +kernel
theorem dX9_count_147 : decode cX9_count 147 = .ok (.getfield 317, 3) := by decide +kernel
theorem dX9_count_150 : decode cX9_count 150 = .ok (.ireturn, 1) := by decide +kernel
theorem dX9_count_151 : decode cX9_count 151 = .ok (.aload_n 0, 1) := by decide +kernel
theorem dX9_count_152 : decode cX9_count 152 = .ok (.getfield 38, 3) := by decide +kernel
theorem dX9_count_155 : decode cX9_count 155 = .ok (.getfield 192, 3) := by decide +kernel
theorem dX9_count_158 : decode cX9_count 158 = .ok (.ireturn, 1) := by decide +kernel
theorem dX9_count_159 : decode cX9_count 159 = .ok (.aload_n 0, 1) := by decide +kernel
theorem dX9_count_160 : decode cX9_count 160 = .ok (.getfield 45, 3) := by decide +kernel
theorem dX9_count_163 : decode cX9_count 163 = .ok (.getfield 236, 3) := by decide +kernel
theorem dX9_count_166 : decode cX9_count 166 = .ok (.ireturn, 1) := by decide +kernel
theorem dX9_count_167 : decode cX9_count 167 = .ok (.bipush (-2), 2) := by decide +kernel
theorem dX9_count_169 : decode cX9_count 169 = .ok (.ireturn, 1) := by decide +kernel
theorem dX9_copyToTrial_0 : decode cX9_copyToTrial 0 = .ok (.aload_n 0, 1) := by decide +kernel
theorem dX9_copyToTrial_1 : decode cX9_copyToTrial 1 = .ok (.getfield 28, 3) := by decide +kernel
theorem dX9_copyToTrial_4 : decode cX9_copyToTrial 4 = .ok (.aload_n 0, 1) := by decide +kernel
theorem dX9_copyToTrial_5 : decode cX9_copyToTrial 5 = .ok (.getfield 79, 3) := by decide +kernel
theorem dX9_copyToTrial_8 : decode cX9_copyToTrial 8 = .ok (.invokevirtual 304, 3) := by decide +kernel
theorem dX9_copyToTrial_11 : decode cX9_copyToTrial 11 = .ok (.aload_n 0, 1) := by decide +kernel
theorem dX9_copyToTrial_12 : decode cX9_copyToTrial 12 = .ok (.getfield 32, 3) := by decide +kernel
theorem dX9_copyToTrial_15 : decode cX9_copyToTrial 15 = .ok (.aload_n 0, 1) := by decide +kernel
theorem dX9_copyToTrial_16 : decode cX9_copyToTrial 16 = .ok (.getfield 79, 3) := by decide +kernel
theorem dX9_copyToTrial_19 : decode cX9_copyToTrial 19 = .ok (.invokevirtual 308, 3) := by decide +kernel
theorem dX9_copyToTrial_22 : decode cX9_copyToTrial 22 = .ok (.return_, 1) := by decide +kernel
theorem dX9_playSeason_0 : decode cX9_playSeason 0 = .ok (.iload_n 1, 1) := by decide +kernel
theorem dX9_playSeason_1 : decode cX9_playSeason 1 = .ok (.bipush 20, 2) := by decide +kernel
theorem dX9_playSeason_3 : decode cX9_playSeason 3 = .ok (.if_icmp .lt 14, 3) := by decide +kernel
theorem dX9_playSeason_6 : decode cX9_playSeason 6 = .ok (.aload_n 0, 1) := by decide +kernel
theorem dX9_playSeason_7 : decode cX9_playSeason 7 = .ok (.getfield 32, 3) := by decide +kernel
theorem dX9_playSeason_10 : decode cX9_playSeason 10 = .ok (.invokevirtual 169, 3) := by decide +kernel
theorem dX9_playSeason_13 : decode cX9_playSeason 13 = .ok (.pop, 1) := by decide +kernel
theorem dX9_playSeason_14 : decode cX9_playSeason 14 = .ok (.goto 17, 3) := by decide +kernel
theorem dX9_playSeason_17 : decode cX9_playSeason 17 = .ok (.aload_n 0, 1) := by decide +kernel
theorem dX9_playSeason_18 : decode cX9_playSeason 18 = .ok (.getfield 32, 3) := by decide +kernel
theorem dX9_playSeason_21 : decode cX9_playSeason 21 = .ok (.iload_n 1, 1) := by decide +kernel
theorem dX9_playSeason_22 : decode cX9_playSeason 22 = .ok (.iconst 5, 1) := by decide +kernel
theorem dX9_playSeason_23 : decode cX9_playSeason 23 = .ok (.idiv, 1) := by decide +kernel
theorem dX9_playSeason_24 : decode cX9_playSeason 24 = .ok (.iload_n 1, 1) := by decide +kernel
theorem dX9_playSeason_25 : decode cX9_playSeason 25 = .ok (.iconst 5, 1) := by decide +kernel
theorem dX9_playSeason_26 : decode cX9_playSeason 26 = .ok (.irem, 1) := by decide +kernel
theorem dX9_playSeason_27 : decode cX9_playSeason 27 = .ok (.invokevirtual 320, 3) := by decide +kernel
theorem dX9_playSeason_30 : decode cX9_playSeason 30 = .ok (.pop, 1) := by decide +kernel
theorem dX9_playSeason_31 : decode cX9_playSeason 31 = .ok (.return_, 1) := by decide +kernel
theorem dX10_init_0 : decode cX10_init 0 = .ok (.aload_n 0, 1) := by decide +kernel
theorem dX10_init_1 : decode cX10_init 1 = .ok (.invokespecial 1, 3) := by decide +kernel
theorem dX10_init_4 : decode cX10_init 4 = .ok (.aload_n 0, 1) := by decide +kernel
theorem dX10_init_5 : decode cX10_init 5 = .ok (.iconst 4, 1) := by decide +kernel
theorem dX10_init_6 : decode cX10_init 6 = .ok (.newarray .int, 2) := by decide +kernel
theorem dX10_init_8 : decode cX10_init 8 = .ok (.putfield 7, 3) := by decide +kernel
theorem dX10_init_11 : decode cX10_init 11 = .ok (.aload_n 0, 1) := by decide +kernel
theorem dX10_init_12 : decode cX10_init 12 = .ok (.iconst 4, 1) := by decide +kernel
theorem dX10_init_13 : decode cX10_init 13 = .ok (.newarray .int, 2) := by decide +kernel
theorem dX10_init_15 : decode cX10_init 15 = .ok (.putfield 13, 3) := by decide +kernel
theorem dX10_init_18 : decode cX10_init 18 = .ok (.aload_n 0, 1) := by decide +kernel
theorem dX10_init_19 : decode cX10_init 19 = .ok (.iconst 5, 1) := by decide +kernel
theorem dX10_init_20 : decode cX10_init 20 = .ok (.newarray .int, 2) := by decide +kernel
theorem dX10_init_22 : decode cX10_init 22 = .ok (.putfield 16, 3) := by decide +kernel
theorem dX10_init_25 : decode cX10_init 25 = .ok (.aload_n 0, 1) := by decide +kernel
theorem dX10_init_26 : decode cX10_init 26 = .ok (.iconst 5, 1) := by decide +kernel
theorem dX10_init_27 : decode cX10_init 27 = .ok (.newarray .int, 2) := by decide +kernel
theorem dX10_init_29 : decode cX10_init 29 = .ok (.putfield 19, 3) := by decide +kernel
theorem dX10_init_32 : decode cX10_init 32 = .ok (.aload_n 0, 1) := by decide +kernel
theorem dX10_init_33 : decode cX10_init 33 = .ok (.iconst 5, 1) := by decide +kernel
theorem dX10_init_34 : decode cX10_init 34 = .ok (.newarray .int, 2) := by decide +kernel
theorem dX10_init_36 : decode cX10_init 36 = .ok (.putfield 22, 3) := by decide +kernel
theorem dX10_init_39 : decode cX10_init 39 = .ok (.aload_n 0, 1) := by decide +kernel
theorem dX10_init_40 : decode cX10_init 40 = .ok (.iconst 5, 1) := by decide +kernel
theorem dX10_init_41 : decode cX10_init 41 = .ok (.newarray .int, 2) := by decide +kernel
theorem dX10_init_43 : decode cX10_init 43 = .ok (.putfield 25, 3) := by decide +kernel
theorem dX10_init_46 : decode cX10_init 46 = .ok (.aload_n 0, 1) := by decide +kernel
theorem dX10_init_47 : decode cX10_init 47 = .ok (.bipush 32, 2) := by decide +kernel
theorem dX10_init_49 : decode cX10_init 49 = .ok (.newarray .int, 2) := by decide +kernel
theorem dX10_init_51 : decode cX10_init 51 = .ok (.putfield 28, 3) := by decide +kernel
theorem dX10_init_54 : decode cX10_init 54 = .ok (.aload_n 0, 1) := by decide +kernel
theorem dX10_init_55 : decode cX10_init 55 = .ok (.iconst 4, 1) := by decide +kernel
theorem dX10_init_56 : decode cX10_init 56 = .ok (.newarray .int, 2) := by decide +kernel
theorem dX10_init_58 : decode cX10_init 58 = .ok (.putfield 31, 3) := by decide +kernel
theorem dX10_init_61 : decode cX10_init 61 = .ok (.aload_n 0, 1) := by decide +kernel
theorem dX10_init_62 : decode cX10_init 62 = .ok (.bipush 12, 2) := by decide +kernel
theorem dX10_init_64 : decode cX10_init 64 = .ok (.newarray .int, 2) := by decide +kernel
theorem dX10_init_66 : decode cX10_init 66 = .ok (.putfield 34, 3) := by decide +kernel
theorem dX10_init_69 : decode cX10_init 69 = .ok (.aload_n 0, 1) := by decide +kernel
theorem dX10_init_70 : decode cX10_init 70 = .ok (.bipush 20, 2) := by decide +kernel
theorem dX10_init_72 : decode cX10_init 72 = .ok (.newarray .int, 2) := by decide +kernel
theorem dX10_init_74 : decode cX10_init 74 = .ok (.putfield 37, 3) := by decide +kernel
theorem dX10_init_77 : decode cX10_init 77 = .ok (.aload_n 0, 1) := by decide +kernel
theorem dX10_init_78 : decode cX10_init 78 = .ok (.bipush 52, 2) := by decide +kernel
theorem dX10_init_80 : decode cX10_init 80 = .ok (.newarray .int, 2) := by decide +kernel
theorem dX10_init_82 : decode cX10_init 82 = .ok (.putfield 40, 3) := by decide +kernel
theorem dX10_init_85 : decode cX10_init 85 = .ok (.aload_n 0, 1) := by decide +kernel
theorem dX10_init_86 : decode cX10_init 86 = .ok (.bipush 15, 2) := by decide +kernel
theorem dX10_init_88 : decode cX10_init 88 = .ok (.putfield 43, 3) := by decide +kernel
theorem dX10_init_91 : decode cX10_init 91 = .ok (.aload_n 0, 1) := by decide +kernel
theorem dX10_init_92 : decode cX10_init 92 = .ok (.iconst 4, 1) := by decide +kernel
theorem dX10_init_93 : decode cX10_init 93 = .ok (.newarray .int, 2) := by decide +kernel
theorem dX10_init_95 : decode cX10_init 95 = .ok (.putfield 47, 3) := by decide +kernel
theorem dX10_init_98 : decode cX10_init 98 = .ok (.aload_n 0, 1) := by decide +kernel
theorem dX10_init_99 : decode cX10_init 99 = .ok (.sipush 224, 3) := by decide +kernel
theorem dX10_init_102 : decode cX10_init 102 = .ok (.newarray .int, 2) := by decide +kernel
theorem dX10_init_104 : decode cX10_init 104 = .ok (.putfield 50, 3) := by decide +kernel
theorem dX10_init_107 : decode cX10_init 107 = .ok (.aload_n 0, 1) := by decide +kernel
theorem dX10_init_108 : decode cX10_init 108 = .ok (.bipush 6, 2) := by decide +kernel
theorem dX10_init_110 : decode cX10_init 110 = .ok (.newarray .int, 2) := by decide +kernel
theorem dX10_init_112 : decode cX10_init 112 = .ok (.putfield 53, 3) := by decide +kernel
theorem dX10_init_115 : decode cX10_init 115 = .ok (.aload_n 0, 1) := by decide +kernel
theorem dX10_init_116 : decode cX10_init 116 = .ok (.bipush 6, 2) := by decide +kernel
theorem dX10_init_118 : decode cX10_init 118 = .ok (.newarray .int, 2) := by decide +kernel
theorem dX10_init_120 : decode cX10_init 120 = .ok (.putfield 56, 3) := by decide +kernel
theorem dX10_init_123 : decode cX10_init 123 = .ok (.aload_n 0, 1) := by decide +kernel
theorem dX10_init_124 : decode cX10_init 124 = .ok (.iconst 2, 1) := by decide +kernel
theorem dX10_init_125 : decode cX10_init 125 = .ok (.newarray .boolean, 2) := by decide +kernel
theorem dX10_init_127 : decode cX10_init 127 = .ok (.putfield 59, 3) := by decide +kernel
theorem dX10_init_130 : decode cX10_init 130 = .ok (.aload_n 0, 1) := by decide +kernel
theorem dX10_init_131 : decode cX10_init 131 = .ok (.bipush 32, 2) := by decide +kernel
theorem dX10_init_133 : decode cX10_init 133 = .ok (.newarray .int, 2) := by decide +kernel
theorem dX10_init_135 : decode cX10_init 135 = .ok (.putfield 63, 3) := by decide +kernel
theorem dX10_init_138 : decode cX10_init 138 = .ok (.return_, 1) := by decide +kernel
theorem dX10_in_0 : decode cX10_in 0 = .ok (.lload_n 0, 1) := by decide +kernel
theorem dX10_in_1 : decode cX10_in 1 = .ok (.lload_n 2, 1) := by decide +kernel
theorem dX10_in_2 : decode cX10_in 2 = .ok (.lcmp, 1) := by decide +kernel
theorem dX10_in_3 : decode cX10_in 3 = .ok (.ifCond .lt 14, 3) := by decide +kernel
theorem dX10_in_6 : decode cX10_in 6 = .ok (.lload_n 0, 1) := by decide +kernel
theorem dX10_in_7 : decode cX10_in 7 = .ok (.lload 4, 2) := by decide +kernel
theorem dX10_in_9 : decode cX10_in 9 = .ok (.lcmp, 1) := by decide +kernel
theorem dX10_in_10 : decode cX10_in 10 = .ok (.ifCond .gt 7, 3) := by decide +kernel
theorem dX10_in_13 : decode cX10_in 13 = .ok (.iconst 1, 1) := by decide +kernel
theorem dX10_in_14 : decode cX10_in 14 = .ok (.goto 4, 3) := by decide +kernel
theorem dX10_in_17 : decode cX10_in 17 = .ok (.iconst 0, 1) := by decide +kernel
theorem dX10_in_18 : decode cX10_in 18 = .ok (.ireturn, 1) := by decide +kernel
theorem dX10_has_0 : decode cX10_has 0 = .ok (.iload_n 0, 1) := by decide +kernel
theorem dX10_has_1 : decode cX10_has 1 = .ok (.iload_n 1, 1) := by decide +kernel
theorem dX10_has_2 : decode cX10_has 2 = .ok (.ishr, 1) := by decide +kernel
theorem dX10_has_3 : decode cX10_has 3 = .ok (.iconst 1, 1) := by decide +kernel
theorem dX10_has_4 : decode cX10_has 4 = .ok (.iand, 1) := by decide +kernel
theorem dX10_has_5 : decode cX10_has 5 = .ok (.iconst 1, 1) := by decide +kernel
theorem dX10_has_6 : decode cX10_has 6 = .ok (.if_icmp .ne 7, 3) := by decide +kernel
theorem dX10_has_9 : decode cX10_has 9 = .ok (.iconst 1, 1) := by decide +kernel
theorem dX10_has_10 : decode cX10_has 10 = .ok (.goto 4, 3) := by decide +kernel
theorem dX10_has_13 : decode cX10_has 13 = .ok (.iconst 0, 1) := by decide +kernel
theorem dX10_has_14 : decode cX10_has 14 = .ok (.ireturn, 1) := by decide +kernel
theorem dX10_ones_0 : decode cX10_ones 0 = .ok (.iconst 0, 1) := by decide +kernel
theorem dX10_ones_1 : decode cX10_ones 1 = .ok (.istore_n 1, 1) := by decide +kernel
theorem dX10_ones_2 : decode cX10_ones 2 = .ok (.iconst 0, 1) := by decide +kernel
theorem dX10_ones_3 : decode cX10_ones 3 = .ok (.istore_n 2, 1) := by decide +kernel
theorem dX10_ones_4 : decode cX10_ones 4 = .ok (.iload_n 2, 1) := by decide +kernel
theorem dX10_ones_5 : decode cX10_ones 5 = .ok (.bipush 6, 2) := by decide +kernel
theorem dX10_ones_7 : decode cX10_ones 7 = .ok (.if_icmp .ge 17, 3) := by decide +kernel
theorem dX10_ones_10 : decode cX10_ones 10 = .ok (.iload_n 1, 1) := by decide +kernel
theorem dX10_ones_11 : decode cX10_ones 11 = .ok (.iload_n 0, 1) := by decide +kernel
theorem dX10_ones_12 : decode cX10_ones 12 = .ok (.iload_n 2, 1) := by decide +kernel
theorem dX10_ones_13 : decode cX10_ones 13 = .ok (.ishr, 1) := by decide +kernel
theorem dX10_ones_14 : decode cX10_ones 14 = .ok (.iconst 1, 1) := by decide +kernel
theorem dX10_ones_15 : decode cX10_ones 15 = .ok (.iand, 1) := by decide +kernel
theorem dX10_ones_16 : decode cX10_ones 16 = .ok (.iadd, 1) := by decide +kernel
theorem dX10_ones_17 : decode cX10_ones 17 = .ok (.istore_n 1, 1) := by decide +kernel
theorem dX10_ones_18 : decode cX10_ones 18 = .ok (.iinc 2 1, 3) := by decide +kernel
theorem dX10_ones_21 : decode cX10_ones 21 = .ok (.goto (-17), 3) := by decide +kernel
theorem dX10_ones_24 : decode cX10_ones 24 = .ok (.iload_n 1, 1) := by decide +kernel
theorem dX10_ones_25 : decode cX10_ones 25 = .ok (.ireturn, 1) := by decide +kernel
theorem dX10_lesser_0 : decode cX10_lesser 0 = .ok (.iload_n 0, 1) := by decide +kernel
theorem dX10_lesser_1 : decode cX10_lesser 1 = .ok (.iload_n 1, 1) := by decide +kernel
theorem dX10_lesser_2 : decode cX10_lesser 2 = .ok (.if_icmp .ge 7, 3) := by decide +kernel
theorem dX10_lesser_5 : decode cX10_lesser 5 = .ok (.iload_n 0, 1) := by decide +kernel
theorem dX10_lesser_6 : decode cX10_lesser 6 = .ok (.goto 4, 3) := by decide +kernel
theorem dX10_lesser_9 : decode cX10_lesser 9 = .ok (.iload_n 1, 1) := by decide +kernel
theorem dX10_lesser_10 : decode cX10_lesser 10 = .ok (.ireturn, 1) := by decide +kernel
theorem dX10_write_0 : decode cX10_write 0 = .ok (.iload_n 1, 1) := by decide +kernel
theorem dX10_write_1 : decode cX10_write 1 = .ok (.i2l, 1) := by decide +kernel
theorem dX10_write_2 : decode cX10_write 2 = .ok (.lconst 0, 1) := by decide +kernel
theorem dX10_write_3 : decode cX10_write 3 = .ok (.ldc2_w 66, 3) := by decide +kernel
theorem dX10_write_6 : decode cX10_write 6 = .ok (.invokestatic 68, 3) := by decide +kernel
theorem dX10_write_9 : decode cX10_write 9 = .ok (.ifCond .ne 6, 3) := by decide +kernel
theorem dX10_write_12 : decode cX10_write 12 = .ok (.bipush (-2), 2) := by decide +kernel
theorem dX10_write_14 : decode cX10_write 14 = .ok (.ireturn, 1) := by decide +kernel
theorem dX10_write_15 : decode cX10_write 15 = .ok (.aload_n 0, 1) := by decide +kernel
theorem dX10_write_16 : decode cX10_write 16 = .ok (.getfield 72, 3) := by decide +kernel
theorem dX10_write_19 : decode cX10_write 19 = .ok (.bipush 52, 2) := by decide +kernel
theorem dX10_write_21 : decode cX10_write 21 = .ok (.if_icmp .ne 6, 3) := by decide +kernel
theorem dX10_write_24 : decode cX10_write 24 = .ok (.bipush (-4), 2) := by decide +kernel
theorem dX10_write_26 : decode cX10_write 26 = .ok (.ireturn, 1) := by decide +kernel
theorem dX10_write_27 : decode cX10_write 27 = .ok (.aload_n 0, 1) := by decide +kernel
theorem dX10_write_28 : decode cX10_write 28 = .ok (.getfield 40, 3) := by decide +kernel
theorem dX10_write_31 : decode cX10_write 31 = .ok (.aload_n 0, 1) := by decide +kernel
theorem dX10_write_32 : decode cX10_write 32 = .ok (.getfield 72, 3) := by decide +kernel
theorem dX10_write_35 : decode cX10_write 35 = .ok (.iload_n 1, 1) := by decide +kernel
theorem dX10_write_36 : decode cX10_write 36 = .ok (.iastore, 1) := by decide +kernel
theorem dX10_write_37 : decode cX10_write 37 = .ok (.aload_n 0, 1) := by decide +kernel
theorem dX10_write_38 : decode cX10_write 38 = .ok (.dup, 1) := by decide +kernel
theorem dX10_write_39 : decode cX10_write 39 = .ok (.getfield 72, 3) := by decide +kernel
theorem dX10_write_42 : decode cX10_write 42 = .ok (.iconst 1, 1) := by decide +kernel
theorem dX10_write_43 : decode cX10_write 43 = .ok (.iadd, 1) := by decide +kernel
theorem dX10_write_44 : decode cX10_write 44 = .ok (.putfield 72, 3) := by decide +kernel
theorem dX10_write_47 : decode cX10_write 47 = .ok (.aload_n 0, 1) := by decide +kernel
theorem dX10_write_48 : decode cX10_write 48 = .ok (.getfield 72, 3) := by decide +kernel
theorem dX10_write_51 : decode cX10_write 51 = .ok (.ireturn, 1) := by decide +kernel
theorem dX10_wipe_0 : decode cX10_wipe 0 = .ok (.aload_n 0, 1) := by decide +kernel
theorem dX10_wipe_1 : decode cX10_wipe 1 = .ok (.getfield 72, 3) := by decide +kernel
theorem dX10_wipe_4 : decode cX10_wipe 4 = .ok (.istore_n 1, 1) := by decide +kernel
theorem dX10_wipe_5 : decode cX10_wipe 5 = .ok (.aload_n 0, 1) := by decide +kernel
theorem dX10_wipe_6 : decode cX10_wipe 6 = .ok (.iconst 0, 1) := by decide +kernel
theorem dX10_wipe_7 : decode cX10_wipe 7 = .ok (.putfield 72, 3) := by decide +kernel
theorem dX10_wipe_10 : decode cX10_wipe 10 = .ok (.iload_n 1, 1) := by decide +kernel
theorem dX10_wipe_11 : decode cX10_wipe 11 = .ok (.ireturn, 1) := by decide +kernel
theorem dX10_figureOf_0 : decode cX10_figureOf 0 = .ok (.aload_n 0, 1) := by decide +kernel
theorem dX10_figureOf_1 : decode cX10_figureOf 1 = .ok (.getfield 75, 3) := by decide +kernel
theorem dX10_figureOf_4 : decode cX10_figureOf 4 = .ok (.bipush (-9), 2) := by decide +kernel
theorem dX10_figureOf_6 : decode cX10_figureOf 6 = .ok (.if_icmp .ne 18, 3) := by decide +kernel
theorem dX10_figureOf_9 : decode cX10_figureOf 9 = .ok (.aload_n 0, 1) := by decide +kernel
theorem dX10_figureOf_10 : decode cX10_figureOf 10 = .ok (.getfield 78, 3) := by decide +kernel
theorem dX10_figureOf_13 : decode cX10_figureOf 13 = .ok (.aload_n 0, 1) := by decide +kernel
theorem dX10_figureOf_14 : decode cX10_figureOf 14 = .ok (.getfield 72, 3) := by decide +kernel
theorem dX10_figureOf_17 : decode cX10_figureOf 17 = .ok (.if_icmp .ge 7, 3) := by decide +kernel
theorem dX10_figureOf_20 : decode cX10_figureOf 20 = .ok (.iconst 1, 1) := by decide +kernel
theorem dX10_figureOf_21 : decode cX10_figureOf 21 = .ok (.goto 4, 3) := by decide +kernel
theorem dX10_figureOf_24 : decode cX10_figureOf 24 = .ok (.iconst 0, 1) := by decide +kernel
theorem dX10_figureOf_25 : decode cX10_figureOf 25 = .ok (.istore_n 3, 1) := by decide +kernel
theorem dX10_figureOf_26 : decode cX10_figureOf 26 = .ok (.iload_n 3, 1) := by decide +kernel
theorem dX10_figureOf_27 : decode cX10_figureOf 27 = .ok (.ifCond .eq 18, 3) := by decide +kernel
theorem dX10_figureOf_30 : decode cX10_figureOf 30 = .ok (.aload_n 0, 1) := by decide +kernel
theorem dX10_figureOf_31 : decode cX10_figureOf 31 = .ok (.getfield 40, 3) := by decide +kernel
theorem dX10_figureOf_34 : decode cX10_figureOf 34 = .ok (.aload_n 0, 1) := by decide +kernel
theorem dX10_figureOf_35 : decode cX10_figureOf 35 = .ok (.getfield 78, 3) := by decide +kernel
theorem dX10_figureOf_38 : decode cX10_figureOf 38 = .ok (.iaload, 1) := by decide +kernel
theorem dX10_figureOf_39 : decode cX10_figureOf 39 = .ok (.bipush 48, 2) := by decide +kernel
theorem dX10_figureOf_41 : decode cX10_figureOf 41 = .ok (.isub, 1) := by decide +kernel
theorem dX10_figureOf_42 : decode cX10_figureOf 42 = .ok (.goto 4, 3) := by decide +kernel
theorem dX10_figureOf_45 : decode cX10_figureOf 45 = .ok (.iconst 0, 1) := by decide +kernel
theorem dX10_figureOf_46 : decode cX10_figureOf 46 = .ok (.istore 4, 2) := by decide +kernel
theorem dX10_figureOf_48 : decode cX10_figureOf 48 = .ok (.iload_n 3, 1) := by decide +kernel
theorem dX10_figureOf_49 : decode cX10_figureOf 49 = .ok (.ifCond .eq 16, 3) := by decide +kernel
theorem dX10_figureOf_52 : decode cX10_figureOf 52 = .ok (.iload 4, 2) := by decide +kernel
theorem dX10_figureOf_54 : decode cX10_figureOf 54 = .ok (.i2l, 1) := by decide +kernel
theorem dX10_figureOf_55 : decode cX10_figureOf 55 = .ok (.iload_n 1, 1) := by decide +kernel
theorem dX10_figureOf_56 : decode cX10_figureOf 56 = .ok (.i2l, 1) := by decide +kernel
theorem dX10_figureOf_57 : decode cX10_figureOf 57 = .ok (.iload_n 2, 1) := by decide +kernel
theorem dX10_figureOf_58 : decode cX10_figureOf 58 = .ok (.i2l, 1) := by decide +kernel
theorem dX10_figureOf_59 : decode cX10_figureOf 59 = .ok (.invokestatic 68, 3) := by decide +kernel
theorem dX10_figureOf_62 : decode cX10_figureOf 62 = .ok (.ifCond .ne 29, 3) := by decide +kernel
theorem dX10_figureOf_65 : decode cX10_figureOf 65 = .ok (.aload_n 0, 1) := by decide +kernel
theorem dX10_figureOf_66 : decode cX10_figureOf 66 = .ok (.aload_n 0, 1) := by decide +kernel
theorem dX10_figureOf_67 : decode cX10_figureOf 67 = .ok (.getfield 75, 3) := by decide +kernel
theorem dX10_figureOf_70 : decode cX10_figureOf 70 = .ok (.bipush (-9), 2) := by decide +kernel
theorem dX10_figureOf_72 : decode cX10_figureOf 72 = .ok (.if_icmp .ne 10, 3) := by decide +kernel
theorem dX10_figureOf_75 : decode cX10_figureOf 75 = .ok (.aload_n 0, 1) := by decide +kernel
theorem dX10_figureOf_76 : decode cX10_figureOf 76 = .ok (.getfield 78, 3) := by decide +kernel
theorem dX10_figureOf_79 : decode cX10_figureOf 79 = .ok (.goto 7, 3) := by decide +kernel
theorem dX10_figureOf_82 : decode cX10_figureOf 82 = .ok (.aload_n 0, 1) := by decide +kernel
theorem dX10_figureOf_83 : decode cX10_figureOf 83 = .ok (.getfield 75, 3) := by decide +kernel
theorem dX10_figureOf_86 : decode cX10_figureOf 86 = .ok (.putfield 75, 3) := by decide +kernel
theorem dX10_figureOf_89 : decode cX10_figureOf 89 = .ok (.iconst 0, 1) := by decide +kernel
theorem dX10_figureOf_90 : decode cX10_figureOf 90 = .ok (.ireturn, 1) := by decide +kernel
theorem dX10_figureOf_91 : decode cX10_figureOf 91 = .ok (.aload_n 0, 1) := by decide +kernel
theorem dX10_figureOf_92 : decode cX10_figureOf 92 = .ok (.dup, 1) := by decide +kernel
theorem dX10_figureOf_93 : decode cX10_figureOf 93 = .ok (.getfield 78, 3) := by decide +kernel
theorem dX10_figureOf_96 : decode cX10_figureOf 96 = .ok (.iconst 1, 1) := by decide +kernel
theorem dX10_figureOf_97 : decode cX10_figureOf 97 = .ok (.iadd, 1) := by decide +kernel
theorem dX10_figureOf_98 : decode cX10_figureOf 98 = .ok (.putfield 78, 3) := by decide +kernel
theorem dX10_figureOf_101 : decode cX10_figureOf 101 = .ok (.iload 4, 2) := by decide +kernel
theorem dX10_figureOf_103 : decode cX10_figureOf 103 = .ok (.ireturn, 1) := by decide +kernel
theorem dX10_readText_0 : decode cX10_readText 0 = .ok (.aload_n 0, 1) := by decide +kernel
theorem dX10_readText_1 : decode cX10_readText 1 = .ok (.iconst 0, 1) := by decide +kernel
theorem dX10_readText_2 : decode cX10_readText 2 = .ok (.putfield 78, 3) := by decide +kernel
theorem dX10_readText_5 : decode cX10_readText 5 = .ok (.aload_n 0, 1) := by decide +kernel
theorem dX10_readText_6 : decode cX10_readText 6 = .ok (.bipush (-9), 2) := by decide +kernel
theorem dX10_readText_8 : decode cX10_readText 8 = .ok (.putfield 75, 3) := by decide +kernel
theorem dX10_readText_11 : decode cX10_readText 11 = .ok (.aload_n 0, 1) := by decide +kernel
theorem dX10_readText_12 : decode cX10_readText 12 = .ok (.iconst 0, 1) := by decide +kernel
theorem dX10_readText_13 : decode cX10_readText 13 = .ok (.putfield 81, 3) := by decide +kernel
theorem dX10_readText_16 : decode cX10_readText 16 = .ok (.aload_n 0, 1) := by decide +kernel
theorem dX10_readText_17 : decode cX10_readText 17 = .ok (.iconst 0, 1) := by decide +kernel
theorem dX10_readText_18 : decode cX10_readText 18 = .ok (.putfield 84, 3) := by decide +kernel
theorem dX10_readText_21 : decode cX10_readText 21 = .ok (.aload_n 0, 1) := by decide +kernel
theorem dX10_readText_22 : decode cX10_readText 22 = .ok (.iconst 0, 1) := by decide +kernel
theorem dX10_readText_23 : decode cX10_readText 23 = .ok (.putfield 87, 3) := by decide +kernel
theorem dX10_readText_26 : decode cX10_readText 26 = .ok (.aload_n 0, 1) := by decide +kernel
theorem dX10_readText_27 : decode cX10_readText 27 = .ok (.getfield 72, 3) := by decide +kernel
theorem dX10_readText_30 : decode cX10_readText 30 = .ok (.ifCond .eq 14, 3) := by decide +kernel
theorem dX10_readText_33 : decode cX10_readText 33 = .ok (.aload_n 0, 1) := by decide +kernel
theorem dX10_readText_34 : decode cX10_readText 34 = .ok (.getfield 40, 3) := by decide +kernel
theorem dX10_readText_37 : decode cX10_readText 37 = .ok (.iconst 0, 1) := by decide +kernel
theorem dX10_readText_38 : decode cX10_readText 38 = .ok (.iaload, 1) := by decide +kernel
theorem dX10_readText_39 : decode cX10_readText 39 = .ok (.bipush 80, 2) := by decide +kernel
theorem dX10_readText_41 : decode cX10_readText 41 = .ok (.if_icmp .eq 5, 3) := by decide +kernel
theorem dX10_readText_44 : decode cX10_readText 44 = .ok (.iconst 0, 1) := by decide +kernel
theorem dX10_readText_45 : decode cX10_readText 45 = .ok (.ireturn, 1) := by decide +kernel
theorem dX10_readText_46 : decode cX10_readText 46 = .ok (.aload_n 0, 1) := by decide +kernel
theorem dX10_readText_47 : decode cX10_readText 47 = .ok (.iconst 1, 1) := by decide +kernel
theorem dX10_readText_48 : decode cX10_readText 48 = .ok (.putfield 78, 3) := by decide +kernel
theorem dX10_readText_51 : decode cX10_readText 51 = .ok (.aload_n 0, 1) := by decide +kernel
theorem dX10_readText_52 : decode cX10_readText 52 = .ok (.getfield 75, 3) := by decide +kernel
theorem dX10_readText_55 : decode cX10_readText 55 = .ok (.bipush (-9), 2) := by decide +kernel
theorem dX10_readText_57 : decode cX10_readText 57 = .ok (.if_icmp .ne 30, 3) := by decide +kernel
theorem dX10_readText_60 : decode cX10_readText 60 = .ok (.aload_n 0, 1) := by decide +kernel
theorem dX10_readText_61 : decode cX10_readText 61 = .ok (.getfield 78, 3) := by decide +kernel
theorem dX10_readText_64 : decode cX10_readText 64 = .ok (.aload_n 0, 1) := by decide +kernel
theorem dX10_readText_65 : decode cX10_readText 65 = .ok (.getfield 72, 3) := by decide +kernel
theorem dX10_readText_68 : decode cX10_readText 68 = .ok (.if_icmp .ge 19, 3) := by decide +kernel
theorem dX10_readText_71 : decode cX10_readText 71 = .ok (.aload_n 0, 1) := by decide +kernel
theorem dX10_readText_72 : decode cX10_readText 72 = .ok (.aload_n 0, 1) := by decide +kernel
theorem dX10_readText_73 : decode cX10_readText 73 = .ok (.getfield 40, 3) := by decide +kernel
theorem dX10_readText_76 : decode cX10_readText 76 = .ok (.aload_n 0, 1) := by decide +kernel
theorem dX10_readText_77 : decode cX10_readText 77 = .ok (.getfield 78, 3) := by decide +kernel
theorem dX10_readText_80 : decode cX10_readText 80 = .ok (.iaload, 1) := by decide +kernel
theorem dX10_readText_81 : decode cX10_readText 81 = .ok (.invokevirtual 90, 3) := by decide +kernel
theorem dX10_readText_84 : decode cX10_readText 84 = .ok (.goto (-33), 3) := by decide +kernel
theorem dX10_readText_87 : decode cX10_readText 87 = .ok (.aload_n 0, 1) := by decide +kernel
theorem dX10_readText_88 : decode cX10_readText 88 = .ok (.getfield 75, 3) := by decide +kernel
theorem dX10_readText_91 : decode cX10_readText 91 = .ok (.ireturn, 1) := by decide +kernel
theorem dX10_readPart_0 : decode cX10_readPart 0 = .ok (.iload_n 1, 1) := by decide +kernel
theorem dX10_readPart_1 : decode cX10_readPart 1 = .ok (.bipush 87, 2) := by decide +kernel
theorem dX10_readPart_3 : decode cX10_readPart 3 = .ok (.if_icmp .ne 49, 3) := by decide +kernel
theorem dX10_readPart_6 : decode cX10_readPart 6 = .ok (.aload_n 0, 1) := by decide +kernel
theorem dX10_readPart_7 : decode cX10_readPart 7 = .ok (.getfield 81, 3) := by decide +kernel
theorem dX10_readPart_10 : decode cX10_readPart 10 = .ok (.iconst 4, 1) := by decide +kernel
theorem dX10_readPart_11 : decode cX10_readPart 11 = .ok (.if_icmp .ge 41, 3) := by decide +kernel
theorem dX10_readPart_14 : decode cX10_readPart 14 = .ok (.aload_n 0, 1) := by decide +kernel
theorem dX10_readPart_15 : decode cX10_readPart 15 = .ok (.dup, 1) := by decide +kernel
theorem dX10_readPart_16 : decode cX10_readPart 16 = .ok (.getfield 78, 3) := by decide +kernel
theorem dX10_readPart_19 : decode cX10_readPart 19 = .ok (.iconst 1, 1) := by decide +kernel
theorem dX10_readPart_20 : decode cX10_readPart 20 = .ok (.iadd, 1) := by decide +kernel
theorem dX10_readPart_21 : decode cX10_readPart 21 = .ok (.putfield 78, 3) := by decide +kernel
theorem dX10_readPart_24 : decode cX10_readPart 24 = .ok (.aload_n 0, 1) := by decide +kernel
theorem dX10_readPart_25 : decode cX10_readPart 25 = .ok (.getfield 31, 3) := by decide +kernel
theorem dX10_readPart_28 : decode cX10_readPart 28 = .ok (.aload_n 0, 1) := by decide +kernel
theorem dX10_readPart_29 : decode cX10_readPart 29 = .ok (.getfield 81, 3) := by decide +kernel
theorem dX10_readPart_32 : decode cX10_readPart 32 = .ok (.aload_n 0, 1) := by decide +kernel
theorem dX10_readPart_33 : decode cX10_readPart 33 = .ok (.iconst 0, 1) := by decide +kernel
theorem dX10_readPart_34 : decode cX10_readPart 34 = .ok (.iconst 2, 1) := by decide +kernel
theorem dX10_readPart_35 : decode cX10_readPart 35 = .ok (.invokevirtual 94, 3) := by decide +kernel
theorem dX10_readPart_38 : decode cX10_readPart 38 = .ok (.iastore, 1) := by decide +kernel
theorem dX10_readPart_39 : decode cX10_readPart 39 = .ok (.aload_n 0, 1) := by decide +kernel
theorem dX10_readPart_40 : decode cX10_readPart 40 = .ok (.dup, 1) := by decide +kernel
theorem dX10_readPart_41 : decode cX10_readPart 41 = .ok (.getfield 81, 3) := by decide +kernel
theorem dX10_readPart_44 : decode cX10_readPart 44 = .ok (.iconst 1, 1) := by decide +kernel
theorem dX10_readPart_45 : decode cX10_readPart 45 = .ok (.iadd, 1) := by decide +kernel
theorem dX10_readPart_46 : decode cX10_readPart 46 = .ok (.putfield 81, 3) := by decide +kernel
theorem dX10_readPart_49 : decode cX10_readPart 49 = .ok (.goto 217, 3) := by decide +kernel
theorem dX10_readPart_52 : decode cX10_readPart 52 = .ok (.iload_n 1, 1) := by decide +kernel
theorem dX10_readPart_53 : decode cX10_readPart 53 = .ok (.bipush 67, 2) := by decide +kernel
theorem dX10_readPart_55 : decode cX10_readPart 55 = .ok (.if_icmp .ne 90, 3) := by decide +kernel
theorem dX10_readPart_58 : decode cX10_readPart 58 = .ok (.aload_n 0, 1) := by decide +kernel
theorem dX10_readPart_59 : decode cX10_readPart 59 = .ok (.getfield 84, 3) := by decide +kernel
theorem dX10_readPart_62 : decode cX10_readPart 62 = .ok (.iconst 4, 1) := by decide +kernel
theorem dX10_readPart_63 : decode cX10_readPart 63 = .ok (.if_icmp .ge 82, 3) := by decide +kernel
theorem dX10_readPart_66 : decode cX10_readPart 66 = .ok (.aload_n 0, 1) := by decide +kernel
theorem dX10_readPart_67 : decode cX10_readPart 67 = .ok (.dup, 1) := by decide +kernel
theorem dX10_readPart_68 : decode cX10_readPart 68 = .ok (.getfield 78, 3) := by decide +kernel
theorem dX10_readPart_71 : decode cX10_readPart 71 = .ok (.iconst 1, 1) := by decide +kernel
theorem dX10_readPart_72 : decode cX10_readPart 72 = .ok (.iadd, 1) := by decide +kernel
theorem dX10_readPart_73 : decode cX10_readPart 73 = .ok (.putfield 78, 3) := by decide +kernel
theorem dX10_readPart_76 : decode cX10_readPart 76 = .ok (.aload_n 0, 1) := by decide +kernel
theorem dX10_readPart_77 : decode cX10_readPart 77 = .ok (.getfield 34, 3) := by decide +kernel
theorem dX10_readPart_80 : decode cX10_readPart 80 = .ok (.iconst 3, 1) := by decide +kernel
theorem dX10_readPart_81 : decode cX10_readPart 81 = .ok (.aload_n 0, 1) := by decide +kernel
theorem dX10_readPart_82 : decode cX10_readPart 82 = .ok (.getfield 84, 3) := by decide +kernel
theorem dX10_readPart_85 : decode cX10_readPart 85 = .ok (.imul, 1) := by decide +kernel
theorem dX10_readPart_86 : decode cX10_readPart 86 = .ok (.aload_n 0, 1) := by decide +kernel
theorem dX10_readPart_87 : decode cX10_readPart 87 = .ok (.iconst 0, 1) := by decide +kernel
theorem dX10_readPart_88 : decode cX10_readPart 88 = .ok (.iconst 5, 1) := by decide +kernel
theorem dX10_readPart_89 : decode cX10_readPart 89 = .ok (.invokevirtual 94, 3) := by decide +kernel
theorem dX10_readPart_92 : decode cX10_readPart 92 = .ok (.iastore, 1) := by decide +kernel
theorem dX10_readPart_93 : decode cX10_readPart 93 = .ok (.aload_n 0, 1) := by decide +kernel
theorem dX10_readPart_94 : decode cX10_readPart 94 = .ok (.getfield 34, 3) := by decide +kernel
theorem dX10_readPart_97 : decode cX10_readPart 97 = .ok (.iconst 3, 1) := by decide +kernel
theorem dX10_readPart_98 : decode cX10_readPart 98 = .ok (.aload_n 0, 1) := by decide +kernel
theorem dX10_readPart_99 : decode cX10_readPart 99 = .ok (.getfield 84, 3) := by decide +kernel
theorem dX10_readPart_102 : decode cX10_readPart 102 = .ok (.imul, 1) := by decide +kernel
theorem dX10_readPart_103 : decode cX10_readPart 103 = .ok (.iconst 1, 1) := by decide +kernel
theorem dX10_readPart_104 : decode cX10_readPart 104 = .ok (.iadd, 1) := by decide +kernel
theorem dX10_readPart_105 : decode cX10_readPart 105 = .ok (.aload_n 0, 1) := by decide +kernel
theorem dX10_readPart_106 : decode cX10_readPart 106 = .ok (.iconst 1, 1) := by decide +kernel
theorem dX10_readPart_107 : decode cX10_readPart 107 = .ok (.bipush 9, 2) := by decide +kernel
theorem dX10_readPart_109 : decode cX10_readPart 109 = .ok (.invokevirtual 94, 3) := by decide +kernel
theorem dX10_readPart_112 : decode cX10_readPart 112 = .ok (.iastore, 1) := by decide +kernel
theorem dX10_readPart_113 : decode cX10_readPart 113 = .ok (.aload_n 0, 1) := by decide +kernel
theorem dX10_readPart_114 : decode cX10_readPart 114 = .ok (.getfield 34, 3) := by decide +kernel
theorem dX10_readPart_117 : decode cX10_readPart 117 = .ok (.iconst 3, 1) := by decide +kernel
theorem dX10_readPart_118 : decode cX10_readPart 118 = .ok (.aload_n 0, 1) := by decide +kernel
theorem dX10_readPart_119 : decode cX10_readPart 119 = .ok (.getfield 84, 3) := by decide +kernel
theorem dX10_readPart_122 : decode cX10_readPart 122 = .ok (.imul, 1) := by decide +kernel
theorem dX10_readPart_123 : decode cX10_readPart 123 = .ok (.iconst 2, 1) := by decide +kernel
theorem dX10_readPart_124 : decode cX10_readPart 124 = .ok (.iadd, 1) := by decide +kernel
theorem dX10_readPart_125 : decode cX10_readPart 125 = .ok (.aload_n 0, 1) := by decide +kernel
theorem dX10_readPart_126 : decode cX10_readPart 126 = .ok (.iconst 0, 1) := by decide +kernel
theorem dX10_readPart_127 : decode cX10_readPart 127 = .ok (.iconst 3, 1) := by decide +kernel
theorem dX10_readPart_128 : decode cX10_readPart 128 = .ok (.invokevirtual 94, 3) := by decide +kernel
theorem dX10_readPart_131 : decode cX10_readPart 131 = .ok (.iastore, 1) := by decide +kernel
theorem dX10_readPart_132 : decode cX10_readPart 132 = .ok (.aload_n 0, 1) := by decide +kernel
theorem dX10_readPart_133 : decode cX10_readPart 133 = .ok (.dup, 1) := by decide +kernel
theorem dX10_readPart_134 : decode cX10_readPart 134 = .ok (.getfield 84, 3) := by decide +kernel
theorem dX10_readPart_137 : decode cX10_readPart 137 = .ok (.iconst 1, 1) := by decide +kernel
theorem dX10_readPart_138 : decode cX10_readPart 138 = .ok (.iadd, 1) := by decide +kernel
theorem dX10_readPart_139 : decode cX10_readPart 139 = .ok (.putfield 84, 3) := by decide +kernel
theorem dX10_readPart_142 : decode cX10_readPart 142 = .ok (.goto 124, 3) := by decide +kernel
theorem dX10_readPart_145 : decode cX10_readPart 145 = .ok (.iload_n 1, 1) := by decide +kernel
theorem dX10_readPart_146 : decode cX10_readPart 146 = .ok (.bipush 83, 2) := by decide +kernel
theorem dX10_readPart_148 : decode cX10_readPart 148 = .ok (.if_icmp .ne 110, 3) := by decide +kernel
theorem dX10_readPart_151 : decode cX10_readPart 151 = .ok (.aload_n 0, 1) := by decide +kernel
theorem dX10_readPart_152 : decode cX10_readPart 152 = .ok (.getfield 87, 3) := by decide +kernel
theorem dX10_readPart_155 : decode cX10_readPart 155 = .ok (.iconst 5, 1) := by decide +kernel
theorem dX10_readPart_156 : decode cX10_readPart 156 = .ok (.if_icmp .ge 102, 3) := by decide +kernel
theorem dX10_readPart_159 : decode cX10_readPart 159 = .ok (.aload_n 0, 1) := by decide +kernel
theorem dX10_readPart_160 : decode cX10_readPart 160 = .ok (.dup, 1) := by decide +kernel
theorem dX10_readPart_161 : decode cX10_readPart 161 = .ok (.getfield 78, 3) := by decide +kernel
theorem dX10_readPart_164 : decode cX10_readPart 164 = .ok (.iconst 1, 1) := by decide +kernel
theorem dX10_readPart_165 : decode cX10_readPart 165 = .ok (.iadd, 1) := by decide +kernel
theorem dX10_readPart_166 : decode cX10_readPart 166 = .ok (.putfield 78, 3) := by decide +kernel
theorem dX10_readPart_169 : decode cX10_readPart 169 = .ok (.aload_n 0, 1) := by decide +kernel
theorem dX10_readPart_170 : decode cX10_readPart 170 = .ok (.getfield 37, 3) := by decide +kernel
theorem dX10_readPart_173 : decode cX10_readPart 173 = .ok (.iconst 4, 1) := by decide +kernel
theorem dX10_readPart_174 : decode cX10_readPart 174 = .ok (.aload_n 0, 1) := by decide +kernel
theorem dX10_readPart_175 : decode cX10_readPart 175 = .ok (.getfield 87, 3) := by decide +kernel
theorem dX10_readPart_178 : decode cX10_readPart 178 = .ok (.imul, 1) := by decide +kernel
theorem dX10_readPart_179 : decode cX10_readPart 179 = .ok (.aload_n 0, 1) := by decide +kernel
theorem dX10_readPart_180 : decode cX10_readPart 180 = .ok (.iconst 0, 1) := by decide +kernel
theorem dX10_readPart_181 : decode cX10_readPart 181 = .ok (.iconst 5, 1) := by decide +kernel
theorem dX10_readPart_182 : decode cX10_readPart 182 = .ok (.invokevirtual 94, 3) := by decide +kernel
theorem dX10_readPart_185 : decode cX10_readPart 185 = .ok (.iastore, 1) := by decide +kernel
theorem dX10_readPart_186 : decode cX10_readPart 186 = .ok (.aload_n 0, 1) := by decide +kernel
theorem dX10_readPart_187 : decode cX10_readPart 187 = .ok (.getfield 37, 3) := by decide +kernel
theorem dX10_readPart_190 : decode cX10_readPart 190 = .ok (.iconst 4, 1) := by decide +kernel
theorem dX10_readPart_191 : decode cX10_readPart 191 = .ok (.aload_n 0, 1) := by decide +kernel
theorem dX10_readPart_192 : decode cX10_readPart 192 = .ok (.getfield 87, 3) := by decide +kernel
theorem dX10_readPart_195 : decode cX10_readPart 195 = .ok (.imul, 1) := by decide +kernel
theorem dX10_readPart_196 : decode cX10_readPart 196 = .ok (.iconst 1, 1) := by decide +kernel
theorem dX10_readPart_197 : decode cX10_readPart 197 = .ok (.iadd, 1) := by decide +kernel
theorem dX10_readPart_198 : decode cX10_readPart 198 = .ok (.aload_n 0, 1) := by decide +kernel
theorem dX10_readPart_199 : decode cX10_readPart 199 = .ok (.iconst 1, 1) := by decide +kernel
theorem dX10_readPart_200 : decode cX10_readPart 200 = .ok (.bipush 9, 2) := by decide +kernel
theorem dX10_readPart_202 : decode cX10_readPart 202 = .ok (.invokevirtual 94, 3) := by decide +kernel
theorem dX10_readPart_205 : decode cX10_readPart 205 = .ok (.iastore, 1) := by decide +kernel
theorem dX10_readPart_206 : decode cX10_readPart 206 = .ok (.aload_n 0, 1) := by decide +kernel
theorem dX10_readPart_207 : decode cX10_readPart 207 = .ok (.getfield 37, 3) := by decide +kernel
theorem dX10_readPart_210 : decode cX10_readPart 210 = .ok (.iconst 4, 1) := by decide +kernel
theorem dX10_readPart_211 : decode cX10_readPart 211 = .ok (.aload_n 0, 1) := by decide +kernel
theorem dX10_readPart_212 : decode cX10_readPart 212 = .ok (.getfield 87, 3) := by decide +kernel
theorem dX10_readPart_215 : decode cX10_readPart 215 = .ok (.imul, 1) := by decide +kernel
theorem dX10_readPart_216 : decode cX10_readPart 216 = .ok (.iconst 2, 1) := by decide +kernel
theorem dX10_readPart_217 : decode cX10_readPart 217 = .ok (.iadd, 1) := by decide +kernel
theorem dX10_readPart_218 : decode cX10_readPart 218 = .ok (.aload_n 0, 1) := by decide +kernel
theorem dX10_readPart_219 : decode cX10_readPart 219 = .ok (.iconst 1, 1) := by decide +kernel
theorem dX10_readPart_220 : decode cX10_readPart 220 = .ok (.bipush 9, 2) := by decide +kernel
theorem dX10_readPart_222 : decode cX10_readPart 222 = .ok (.invokevirtual 94, 3) := by decide +kernel
theorem dX10_readPart_225 : decode cX10_readPart 225 = .ok (.iastore, 1) := by decide +kernel
theorem dX10_readPart_226 : decode cX10_readPart 226 = .ok (.aload_n 0, 1) := by decide +kernel
theorem dX10_readPart_227 : decode cX10_readPart 227 = .ok (.getfield 37, 3) := by decide +kernel
theorem dX10_readPart_230 : decode cX10_readPart 230 = .ok (.iconst 4, 1) := by decide +kernel
theorem dX10_readPart_231 : decode cX10_readPart 231 = .ok (.aload_n 0, 1) := by decide +kernel
theorem dX10_readPart_232 : decode cX10_readPart 232 = .ok (.getfield 87, 3) := by decide +kernel
theorem dX10_readPart_235 : decode cX10_readPart 235 = .ok (.imul, 1) := by decide +kernel
theorem dX10_readPart_236 : decode cX10_readPart 236 = .ok (.iconst 3, 1) := by decide +kernel
theorem dX10_readPart_237 : decode cX10_readPart 237 = .ok (.iadd, 1) := by decide +kernel
theorem dX10_readPart_238 : decode cX10_readPart 238 = .ok (.aload_n 0, 1) := by decide +kernel
theorem dX10_readPart_239 : decode cX10_readPart 239 = .ok (.iconst 0, 1) := by decide +kernel
theorem dX10_readPart_240 : decode cX10_readPart 240 = .ok (.iconst 3, 1) := by decide +kernel
theorem dX10_readPart_241 : decode cX10_readPart 241 = .ok (.invokevirtual 94, 3) := by decide +kernel
theorem dX10_readPart_244 : decode cX10_readPart 244 = .ok (.iastore, 1) := by decide +kernel
theorem dX10_readPart_245 : decode cX10_readPart 245 = .ok (.aload_n 0, 1) := by decide +kernel
theorem dX10_readPart_246 : decode cX10_readPart 246 = .ok (.dup, 1) := by decide +kernel
theorem dX10_readPart_247 : decode cX10_readPart 247 = .ok (.getfield 87, 3) := by decide +kernel
theorem dX10_readPart_250 : decode cX10_readPart 250 = .ok (.iconst 1, 1) := by decide +kernel
theorem dX10_readPart_251 : decode cX10_readPart 251 = .ok (.iadd, 1) := by decide +kernel
theorem dX10_readPart_252 : decode cX10_readPart 252 = .ok (.putfield 87, 3) := by decide +kernel
theorem dX10_readPart_255 : decode cX10_readPart 255 = .ok (.goto 11, 3) := by decide +kernel
theorem dX10_readPart_258 : decode cX10_readPart 258 = .ok (.aload_n 0, 1) := by decide +kernel
theorem dX10_readPart_259 : decode cX10_readPart 259 = .ok (.aload_n 0, 1) := by decide +kernel
theorem dX10_readPart_260 : decode cX10_readPart 260 = .ok (.getfield 78, 3) := by decide +kernel
theorem dX10_readPart_263 : decode cX10_readPart 263 = .ok (.putfield 75, 3) := by decide +kernel
theorem dX10_readPart_266 : decode cX10_readPart 266 = .ok (.return_, 1) := by decide +kernel
theorem dX10_fault_0 : decode cX10_fault 0 = .ok (.aload_n 0, 1) := by decide +kernel
theorem dX10_fault_1 : decode cX10_fault 1 = .ok (.invokevirtual 98, 3) := by decide +kernel
theorem dX10_fault_4 : decode cX10_fault 4 = .ok (.ireturn, 1) := by decide +kernel
theorem dX10_pass_0 : decode cX10_pass 0 = .ok (.aload_n 0, 1) := by decide +kernel
theorem dX10_pass_1 : decode cX10_pass 1 = .ok (.invokevirtual 98, 3) := by decide +kernel
theorem dX10_pass_4 : decode cX10_pass 4 = .ok (.bipush (-9), 2) := by decide +kernel
theorem dX10_pass_6 : decode cX10_pass 6 = .ok (.if_icmp .eq 6, 3) := by decide +kernel
theorem dX10_pass_9 : decode cX10_pass 9 = .ok (.bipush (-3), 2) := by decide +kernel
theorem dX10_pass_11 : decode cX10_pass 11 = .ok (.ireturn, 1) := by decide +kernel
theorem dX10_pass_12 : decode cX10_pass 12 = .ok (.aload_n 0, 1) := by decide +kernel
theorem dX10_pass_13 : decode cX10_pass 13 = .ok (.aload_n 0, 1) := by decide +kernel
theorem dX10_pass_14 : decode cX10_pass 14 = .ok (.getfield 81, 3) := by decide +kernel
theorem dX10_pass_17 : decode cX10_pass 17 = .ok (.putfield 102, 3) := by decide +kernel
theorem dX10_pass_20 : decode cX10_pass 20 = .ok (.aload_n 0, 1) := by decide +kernel
theorem dX10_pass_21 : decode cX10_pass 21 = .ok (.aload_n 0, 1) := by decide +kernel
theorem dX10_pass_22 : decode cX10_pass 22 = .ok (.getfield 84, 3) := by decide +kernel
theorem dX10_pass_25 : decode cX10_pass 25 = .ok (.putfield 105, 3) := by decide +kernel
theorem dX10_pass_28 : decode cX10_pass 28 = .ok (.aload_n 0, 1) := by decide +kernel
theorem dX10_pass_29 : decode cX10_pass 29 = .ok (.aload_n 0, 1) := by decide +kernel
theorem dX10_pass_30 : decode cX10_pass 30 = .ok (.getfield 87, 3) := by decide +kernel
theorem dX10_pass_33 : decode cX10_pass 33 = .ok (.putfield 108, 3) := by decide +kernel
theorem dX10_pass_36 : decode cX10_pass 36 = .ok (.iconst 0, 1) := by decide +kernel
theorem dX10_pass_37 : decode cX10_pass 37 = .ok (.istore_n 1, 1) := by decide +kernel
theorem dX10_pass_38 : decode cX10_pass 38 = .ok (.iload_n 1, 1) := by decide +kernel
theorem dX10_pass_39 : decode cX10_pass 39 = .ok (.bipush 16, 2) := by decide +kernel
theorem dX10_pass_41 : decode cX10_pass 41 = .ok (.if_icmp .ge 16, 3) := by decide +kernel
theorem dX10_pass_44 : decode cX10_pass 44 = .ok (.aload_n 0, 1) := by decide +kernel
theorem dX10_pass_45 : decode cX10_pass 45 = .ok (.getfield 28, 3) := by decide +kernel
theorem dX10_pass_48 : decode cX10_pass 48 = .ok (.iload_n 1, 1) := by decide +kernel
theorem dX10_pass_49 : decode cX10_pass 49 = .ok (.iconst 0, 1) := by decide +kernel
theorem dX10_pass_50 : decode cX10_pass 50 = .ok (.iastore, 1) := by decide +kernel
theorem dX10_pass_51 : decode cX10_pass 51 = .ok (.iinc 1 1, 3) := by decide +kernel
theorem dX10_pass_54 : decode cX10_pass 54 = .ok (.goto (-16), 3) := by decide +kernel
theorem dX10_pass_57 : decode cX10_pass 57 = .ok (.iconst 0, 1) := by decide +kernel
theorem dX10_pass_58 : decode cX10_pass 58 = .ok (.istore_n 1, 1) := by decide +kernel
theorem dX10_pass_59 : decode cX10_pass 59 = .ok (.iload_n 1, 1) := by decide +kernel
theorem dX10_pass_60 : decode cX10_pass 60 = .ok (.aload_n 0, 1) := by decide +kernel
theorem dX10_pass_61 : decode cX10_pass 61 = .ok (.getfield 102, 3) := by decide +kernel
theorem dX10_pass_64 : decode cX10_pass 64 = .ok (.if_icmp .ge 21, 3) := by decide +kernel
theorem dX10_pass_67 : decode cX10_pass 67 = .ok (.aload_n 0, 1) := by decide +kernel
theorem dX10_pass_68 : decode cX10_pass 68 = .ok (.getfield 7, 3) := by decide +kernel
theorem dX10_pass_71 : decode cX10_pass 71 = .ok (.iload_n 1, 1) := by decide +kernel
theorem dX10_pass_72 : decode cX10_pass 72 = .ok (.aload_n 0, 1) := by decide +kernel
theorem dX10_pass_73 : decode cX10_pass 73 = .ok (.getfield 31, 3) := by decide +kernel
theorem dX10_pass_76 : decode cX10_pass 76 = .ok (.iload_n 1, 1) := by decide +kernel
theorem dX10_pass_77 : decode cX10_pass 77 = .ok (.iaload, 1) := by decide +kernel
theorem dX10_pass_78 : decode cX10_pass 78 = .ok (.iastore, 1) := by decide +kernel
theorem dX10_pass_79 : decode cX10_pass 79 = .ok (.iinc 1 1, 3) := by decide +kernel
theorem dX10_pass_82 : decode cX10_pass 82 = .ok (.goto (-23), 3) := by decide +kernel
theorem dX10_pass_85 : decode cX10_pass 85 = .ok (.iconst 0, 1) := by decide +kernel
theorem dX10_pass_86 : decode cX10_pass 86 = .ok (.istore_n 1, 1) := by decide +kernel
theorem dX10_pass_87 : decode cX10_pass 87 = .ok (.iload_n 1, 1) := by decide +kernel
theorem dX10_pass_88 : decode cX10_pass 88 = .ok (.aload_n 0, 1) := by decide +kernel
theorem dX10_pass_89 : decode cX10_pass 89 = .ok (.getfield 105, 3) := by decide +kernel
theorem dX10_pass_92 : decode cX10_pass 92 = .ok (.if_icmp .ge 57, 3) := by decide +kernel
theorem dX10_pass_95 : decode cX10_pass 95 = .ok (.aload_n 0, 1) := by decide +kernel
theorem dX10_pass_96 : decode cX10_pass 96 = .ok (.getfield 28, 3) := by decide +kernel
theorem dX10_pass_99 : decode cX10_pass 99 = .ok (.iload_n 1, 1) := by decide +kernel
theorem dX10_pass_100 : decode cX10_pass 100 = .ok (.aload_n 0, 1) := by decide +kernel
theorem dX10_pass_101 : decode cX10_pass 101 = .ok (.getfield 34, 3) := by decide +kernel
theorem dX10_pass_104 : decode cX10_pass 104 = .ok (.iconst 3, 1) := by decide +kernel
theorem dX10_pass_105 : decode cX10_pass 105 = .ok (.iload_n 1, 1) := by decide +kernel
theorem dX10_pass_106 : decode cX10_pass 106 = .ok (.imul, 1) := by decide +kernel
theorem dX10_pass_107 : decode cX10_pass 107 = .ok (.iaload, 1) := by decide +kernel
theorem dX10_pass_108 : decode cX10_pass 108 = .ok (.iastore, 1) := by decide +kernel
theorem dX10_pass_109 : decode cX10_pass 109 = .ok (.aload_n 0, 1) := by decide +kernel
theorem dX10_pass_110 : decode cX10_pass 110 = .ok (.getfield 28, 3) := by decide +kernel
theorem dX10_pass_113 : decode cX10_pass 113 = .ok (.iconst 4, 1) := by decide +kernel
theorem dX10_pass_114 : decode cX10_pass 114 = .ok (.iload_n 1, 1) := by decide +kernel
theorem dX10_pass_115 : decode cX10_pass 115 = .ok (.iadd, 1) := by decide +kernel
theorem dX10_pass_116 : decode cX10_pass 116 = .ok (.aload_n 0, 1) := by decide +kernel
theorem dX10_pass_117 : decode cX10_pass 117 = .ok (.getfield 34, 3) := by decide +kernel
theorem dX10_pass_120 : decode cX10_pass 120 = .ok (.iconst 3, 1) := by decide +kernel
theorem dX10_pass_121 : decode cX10_pass 121 = .ok (.iload_n 1, 1) := by decide +kernel
theorem dX10_pass_122 : decode cX10_pass 122 = .ok (.imul, 1) := by decide +kernel
theorem dX10_pass_123 : decode cX10_pass 123 = .ok (.iconst 1, 1) := by decide +kernel
theorem dX10_pass_124 : decode cX10_pass 124 = .ok (.iadd, 1) := by decide +kernel
theorem dX10_pass_125 : decode cX10_pass 125 = .ok (.iaload, 1) := by decide +kernel
theorem dX10_pass_126 : decode cX10_pass 126 = .ok (.iastore, 1) := by decide +kernel
theorem dX10_pass_127 : decode cX10_pass 127 = .ok (.aload_n 0, 1) := by decide +kernel
theorem dX10_pass_128 : decode cX10_pass 128 = .ok (.getfield 13, 3) := by decide +kernel
theorem dX10_pass_131 : decode cX10_pass 131 = .ok (.iload_n 1, 1) := by decide +kernel
theorem dX10_pass_132 : decode cX10_pass 132 = .ok (.aload_n 0, 1) := by decide +kernel
theorem dX10_pass_133 : decode cX10_pass 133 = .ok (.getfield 34, 3) := by decide +kernel
theorem dX10_pass_136 : decode cX10_pass 136 = .ok (.iconst 3, 1) := by decide +kernel
theorem dX10_pass_137 : decode cX10_pass 137 = .ok (.iload_n 1, 1) := by decide +kernel
theorem dX10_pass_138 : decode cX10_pass 138 = .ok (.imul, 1) := by decide +kernel
theorem dX10_pass_139 : decode cX10_pass 139 = .ok (.iconst 2, 1) := by decide +kernel
theorem dX10_pass_140 : decode cX10_pass 140 = .ok (.iadd, 1) := by decide +kernel
theorem dX10_pass_141 : decode cX10_pass 141 = .ok (.iaload, 1) := by decide +kernel
theorem dX10_pass_142 : decode cX10_pass 142 = .ok (.iastore, 1) := by decide +kernel
theorem dX10_pass_143 : decode cX10_pass 143 = .ok (.iinc 1 1, 3) := by decide +kernel
theorem dX10_pass_146 : decode cX10_pass 146 = .ok (.goto (-59), 3) := by decide +kernel
theorem dX10_pass_149 : decode cX10_pass 149 = .ok (.iconst 0, 1) := by decide +kernel
theorem dX10_pass_150 : decode cX10_pass 150 = .ok (.istore_n 1, 1) := by decide +kernel
theorem dX10_pass_151 : decode cX10_pass 151 = .ok (.iload_n 1, 1) := by decide +kernel
theorem dX10_pass_152 : decode cX10_pass 152 = .ok (.aload_n 0, 1) := by decide +kernel
theorem dX10_pass_153 : decode cX10_pass 153 = .ok (.getfield 108, 3) := by decide +kernel
theorem dX10_pass_156 : decode cX10_pass 156 = .ok (.if_icmp .ge 107, 3) := by decide +kernel
theorem dX10_pass_159 : decode cX10_pass 159 = .ok (.aload_n 0, 1) := by decide +kernel
theorem dX10_pass_160 : decode cX10_pass 160 = .ok (.getfield 16, 3) := by decide +kernel
theorem dX10_pass_163 : decode cX10_pass 163 = .ok (.iload_n 1, 1) := by decide +kernel
theorem dX10_pass_164 : decode cX10_pass 164 = .ok (.aload_n 0, 1) := by decide +kernel
theorem dX10_pass_165 : decode cX10_pass 165 = .ok (.getfield 37, 3) := by decide +kernel
theorem dX10_pass_168 : decode cX10_pass 168 = .ok (.iconst 4, 1) := by decide +kernel
theorem dX10_pass_169 : decode cX10_pass 169 = .ok (.iload_n 1, 1) := by decide +kernel
theorem dX10_pass_170 : decode cX10_pass 170 = .ok (.imul, 1) := by decide +kernel
theorem dX10_pass_171 : decode cX10_pass 171 = .ok (.iaload, 1) := by decide +kernel
theorem dX10_pass_172 : decode cX10_pass 172 = .ok (.iastore, 1) := by decide +kernel
theorem dX10_pass_173 : decode cX10_pass 173 = .ok (.aload_n 0, 1) := by decide +kernel
theorem dX10_pass_174 : decode cX10_pass 174 = .ok (.getfield 19, 3) := by decide +kernel
theorem dX10_pass_177 : decode cX10_pass 177 = .ok (.iload_n 1, 1) := by decide +kernel
theorem dX10_pass_178 : decode cX10_pass 178 = .ok (.aload_n 0, 1) := by decide +kernel
theorem dX10_pass_179 : decode cX10_pass 179 = .ok (.getfield 37, 3) := by decide +kernel
theorem dX10_pass_182 : decode cX10_pass 182 = .ok (.iconst 4, 1) := by decide +kernel
theorem dX10_pass_183 : decode cX10_pass 183 = .ok (.iload_n 1, 1) := by decide +kernel
theorem dX10_pass_184 : decode cX10_pass 184 = .ok (.imul, 1) := by decide +kernel
theorem dX10_pass_185 : decode cX10_pass 185 = .ok (.iconst 1, 1) := by decide +kernel
theorem dX10_pass_186 : decode cX10_pass 186 = .ok (.iadd, 1) := by decide +kernel
theorem dX10_pass_187 : decode cX10_pass 187 = .ok (.iaload, 1) := by decide +kernel
theorem dX10_pass_188 : decode cX10_pass 188 = .ok (.iastore, 1) := by decide +kernel
theorem dX10_pass_189 : decode cX10_pass 189 = .ok (.aload_n 0, 1) := by decide +kernel
theorem dX10_pass_190 : decode cX10_pass 190 = .ok (.getfield 25, 3) := by decide +kernel
theorem dX10_pass_193 : decode cX10_pass 193 = .ok (.iload_n 1, 1) := by decide +kernel
theorem dX10_pass_194 : decode cX10_pass 194 = .ok (.aload_n 0, 1) := by decide +kernel
theorem dX10_pass_195 : decode cX10_pass 195 = .ok (.getfield 37, 3) := by decide +kernel
theorem dX10_pass_198 : decode cX10_pass 198 = .ok (.iconst 4, 1) := by decide +kernel
theorem dX10_pass_199 : decode cX10_pass 199 = .ok (.iload_n 1, 1) := by decide +kernel
theorem dX10_pass_200 : decode cX10_pass 200 = .ok (.imul, 1) := by decide +kernel
theorem dX10_pass_201 : decode cX10_pass 201 = .ok (.iconst 3, 1) := by decide +kernel
theorem dX10_pass_202 : decode cX10_pass 202 = .ok (.iadd, 1) := by decide +kernel
theorem dX10_pass_203 : decode cX10_pass 203 = .ok (.iaload, 1) := by decide +kernel
theorem dX10_pass_204 : decode cX10_pass 204 = .ok (.iastore, 1) := by decide +kernel
theorem dX10_pass_205 : decode cX10_pass 205 = .ok (.aload_n 0, 1) := by decide +kernel
theorem dX10_pass_206 : decode cX10_pass 206 = .ok (.getfield 37, 3) := by decide +kernel
theorem dX10_pass_209 : decode cX10_pass 209 = .ok (.iconst 4, 1) := by decide +kernel
theorem dX10_pass_210 : decode cX10_pass 210 = .ok (.iload_n 1, 1) := by decide +kernel
theorem dX10_pass_211 : decode cX10_pass 211 = .ok (.imul, 1) := by decide +kernel
theorem dX10_pass_212 : decode cX10_pass 212 = .ok (.iconst 2, 1) := by decide +kernel
theorem dX10_pass_213 : decode cX10_pass 213 = .ok (.iadd, 1) := by decide +kernel
theorem dX10_pass_214 : decode cX10_pass 214 = .ok (.iaload, 1) := by decide +kernel
theorem dX10_pass_215 : decode cX10_pass 215 = .ok (.iconst 2, 1) := by decide +kernel
theorem dX10_pass_216 : decode cX10_pass 216 = .ok (.idiv, 1) := by decide +kernel
theorem dX10_pass_217 : decode cX10_pass 217 = .ok (.istore_n 2, 1) := by decide +kernel
theorem dX10_pass_218 : decode cX10_pass 218 = .ok (.aload_n 0, 1) := by decide +kernel
theorem dX10_pass_219 : decode cX10_pass 219 = .ok (.getfield 22, 3) := by decide +kernel
theorem dX10_pass_222 : decode cX10_pass 222 = .ok (.iload_n 1, 1) := by decide +kernel
theorem dX10_pass_223 : decode cX10_pass 223 = .ok (.aload_n 0, 1) := by decide +kernel
theorem dX10_pass_224 : decode cX10_pass 224 = .ok (.getfield 25, 3) := by decide +kernel
theorem dX10_pass_227 : decode cX10_pass 227 = .ok (.iload_n 1, 1) := by decide +kernel
theorem dX10_pass_228 : decode cX10_pass 228 = .ok (.iaload, 1) := by decide +kernel
theorem dX10_pass_229 : decode cX10_pass 229 = .ok (.iconst 3, 1) := by decide +kernel
theorem dX10_pass_230 : decode cX10_pass 230 = .ok (.if_icmp .eq 16, 3) := by decide +kernel
theorem dX10_pass_233 : decode cX10_pass 233 = .ok (.aload_n 0, 1) := by decide +kernel
theorem dX10_pass_234 : decode cX10_pass 234 = .ok (.getfield 37, 3) := by decide +kernel
theorem dX10_pass_237 : decode cX10_pass 237 = .ok (.iconst 4, 1) := by decide +kernel
theorem dX10_pass_238 : decode cX10_pass 238 = .ok (.iload_n 1, 1) := by decide +kernel
theorem dX10_pass_239 : decode cX10_pass 239 = .ok (.imul, 1) := by decide +kernel
theorem dX10_pass_240 : decode cX10_pass 240 = .ok (.iconst 2, 1) := by decide +kernel
theorem dX10_pass_241 : decode cX10_pass 241 = .ok (.iadd, 1) := by decide +kernel
theorem dX10_pass_242 : decode cX10_pass 242 = .ok (.iaload, 1) := by decide +kernel
theorem dX10_pass_243 : decode cX10_pass 243 = .ok (.goto 13, 3) := by decide +kernel
theorem dX10_pass_246 : decode cX10_pass 246 = .ok (.iload_n 2, 1) := by decide +kernel
theorem dX10_pass_247 : decode cX10_pass 247 = .ok (.iconst 1, 1) := by decide +kernel
theorem dX10_pass_248 : decode cX10_pass 248 = .ok (.if_icmp .ge 7, 3) := by decide +kernel
theorem dX10_pass_251 : decode cX10_pass 251 = .ok (.iconst 1, 1) := by decide +kernel
theorem dX10_pass_252 : decode cX10_pass 252 = .ok (.goto 4, 3) := by decide +kernel
theorem dX10_pass_255 : decode cX10_pass 255 = .ok (.iload_n 2, 1) := by decide +kernel
theorem dX10_pass_256 : decode cX10_pass 256 = .ok (.iastore, 1) := by decide +kernel
theorem dX10_pass_257 : decode cX10_pass 257 = .ok (.iinc 1 1, 3) := by decide +kernel
theorem dX10_pass_260 : decode cX10_pass 260 = .ok (.goto (-109), 3) := by decide +kernel
theorem dX10_pass_263 : decode cX10_pass 263 = .ok (.aload_n 0, 1) := by decide +kernel
theorem dX10_pass_264 : decode cX10_pass 264 = .ok (.iconst 0, 1) := by decide +kernel
theorem dX10_pass_265 : decode cX10_pass 265 = .ok (.putfield 111, 3) := by decide +kernel
theorem dX10_pass_268 : decode cX10_pass 268 = .ok (.aload_n 0, 1) := by decide +kernel
theorem dX10_pass_269 : decode cX10_pass 269 = .ok (.getfield 59, 3) := by decide +kernel
theorem dX10_pass_272 : decode cX10_pass 272 = .ok (.iconst 0, 1) := by decide +kernel
theorem dX10_pass_273 : decode cX10_pass 273 = .ok (.iconst 0, 1) := by decide +kernel
theorem dX10_pass_274 : decode cX10_pass 274 = .ok (.bastore, 1) := by decide +kernel
theorem dX10_pass_275 : decode cX10_pass 275 = .ok (.aload_n 0, 1) := by decide +kernel
theorem dX10_pass_276 : decode cX10_pass 276 = .ok (.getfield 59, 3) := by decide +kernel
theorem dX10_pass_279 : decode cX10_pass 279 = .ok (.iconst 1, 1) := by decide +kernel
theorem dX10_pass_280 : decode cX10_pass 280 = .ok (.iconst 0, 1) := by decide +kernel
theorem dX10_pass_281 : decode cX10_pass 281 = .ok (.bastore, 1) := by decide +kernel
theorem dX10_pass_282 : decode cX10_pass 282 = .ok (.bipush 100, 2) := by decide +kernel
theorem dX10_pass_284 : decode cX10_pass 284 = .ok (.aload_n 0, 1) := by decide +kernel
theorem dX10_pass_285 : decode cX10_pass 285 = .ok (.getfield 102, 3) := by decide +kernel
theorem dX10_pass_288 : decode cX10_pass 288 = .ok (.imul, 1) := by decide +kernel
theorem dX10_pass_289 : decode cX10_pass 289 = .ok (.bipush 10, 2) := by decide +kernel
theorem dX10_pass_291 : decode cX10_pass 291 = .ok (.aload_n 0, 1) := by decide +kernel
theorem dX10_pass_292 : decode cX10_pass 292 = .ok (.getfield 105, 3) := by decide +kernel
theorem dX10_pass_295 : decode cX10_pass 295 = .ok (.imul, 1) := by decide +kernel
theorem dX10_pass_296 : decode cX10_pass 296 = .ok (.iadd, 1) := by decide +kernel
theorem dX10_pass_297 : decode cX10_pass 297 = .ok (.aload_n 0, 1) := by decide +kernel
theorem dX10_pass_298 : decode cX10_pass 298 = .ok (.getfield 108, 3) := by decide +kernel
theorem dX10_pass_301 : decode cX10_pass 301 = .ok (.iadd, 1) := by decide +kernel
theorem dX10_pass_302 : decode cX10_pass 302 = .ok (.ireturn, 1) := by decide +kernel
theorem dX10_isCloud_0 : decode cX10_isCloud 0 = .ok (.iload_n 1, 1) := by decide +kernel
theorem dX10_isCloud_1 : decode cX10_isCloud 1 = .ok (.i2l, 1) := by decide +kernel
theorem dX10_isCloud_2 : decode cX10_isCloud 2 = .ok (.lconst 0, 1) := by decide +kernel
theorem dX10_isCloud_3 : decode cX10_isCloud 3 = .ok (.aload_n 0, 1) := by decide +kernel
theorem dX10_isCloud_4 : decode cX10_isCloud 4 = .ok (.getfield 105, 3) := by decide +kernel
theorem dX10_isCloud_7 : decode cX10_isCloud 7 = .ok (.iconst 1, 1) := by decide +kernel
theorem dX10_isCloud_8 : decode cX10_isCloud 8 = .ok (.isub, 1) := by decide +kernel
theorem dX10_isCloud_9 : decode cX10_isCloud 9 = .ok (.i2l, 1) := by decide +kernel
theorem dX10_isCloud_10 : decode cX10_isCloud 10 = .ok (.invokestatic 68, 3) := by decide +kernel
theorem dX10_isCloud_13 : decode cX10_isCloud 13 = .ok (.ireturn, 1) := by decide +kernel
theorem dX10_isPaper_0 : decode cX10_isPaper 0 = .ok (.iload_n 1, 1) := by decide +kernel
theorem dX10_isPaper_1 : decode cX10_isPaper 1 = .ok (.i2l, 1) := by decide +kernel
theorem dX10_isPaper_2 : decode cX10_isPaper 2 = .ok (.lconst 0, 1) := by decide +kernel
theorem dX10_isPaper_3 : decode cX10_isPaper 3 = .ok (.aload_n 0, 1) := by decide +kernel
theorem dX10_isPaper_4 : decode cX10_isPaper 4 = .ok (.getfield 108, 3) := by decide +kernel
theorem dX10_isPaper_7 : decode cX10_isPaper 7 = .ok (.iconst 1, 1) := by decide +kernel
theorem dX10_isPaper_8 : decode cX10_isPaper 8 = .ok (.isub, 1) := by decide +kernel
theorem dX10_isPaper_9 : decode cX10_isPaper 9 = .ok (.i2l, 1) := by decide +kernel
theorem dX10_isPaper_10 : decode cX10_isPaper 10 = .ok (.invokestatic 68, 3) := by decide +kernel
theorem dX10_isPaper_13 : decode cX10_isPaper 13 = .ok (.ireturn, 1) := by decide +kernel
theorem dX10_windOf_0 : decode cX10_windOf 0 = .ok (.aload_n 0, 1) := by decide +kernel
theorem dX10_windOf_1 : decode cX10_windOf 1 = .ok (.getfield 102, 3) := by decide +kernel
theorem dX10_windOf_4 : decode cX10_windOf 4 = .ok (.ifCond .ne 7, 3) := by decide +kernel
theorem dX10_windOf_7 : decode cX10_windOf 7 = .ok (.iconst 0, 1) := by decide +kernel
theorem dX10_windOf_8 : decode cX10_windOf 8 = .ok (.goto 14, 3) := by decide +kernel
theorem dX10_windOf_11 : decode cX10_windOf 11 = .ok (.aload_n 0, 1) := by decide +kernel
theorem dX10_windOf_12 : decode cX10_windOf 12 = .ok (.getfield 7, 3) := by decide +kernel
theorem dX10_windOf_15 : decode cX10_windOf 15 = .ok (.iload_n 1, 1) := by decide +kernel
theorem dX10_windOf_16 : decode cX10_windOf 16 = .ok (.aload_n 0, 1) := by decide +kernel
theorem dX10_windOf_17 : decode cX10_windOf 17 = .ok (.getfield 102, 3) := by decide +kernel
theorem dX10_windOf_20 : decode cX10_windOf 20 = .ok (.irem, 1) := by decide +kernel
theorem dX10_windOf_21 : decode cX10_windOf 21 = .ok (.iaload, 1) := by decide +kernel
theorem dX10_windOf_22 : decode cX10_windOf 22 = .ok (.ireturn, 1) := by decide +kernel
theorem dX10_blown_0 : decode cX10_blown 0 = .ok (.iload_n 1, 1) := by decide +kernel
theorem dX10_blown_1 : decode cX10_blown 1 = .ok (.iconst 2, 1) := by decide +kernel
theorem dX10_blown_2 : decode cX10_blown 2 = .ok (.if_icmp .ne 7, 3) := by decide +kernel
theorem dX10_blown_5 : decode cX10_blown 5 = .ok (.iconst 0, 1) := by decide +kernel
theorem dX10_blown_6 : decode cX10_blown 6 = .ok (.goto 13, 3) := by decide +kernel
theorem dX10_blown_9 : decode cX10_blown 9 = .ok (.iload_n 1, 1) := by decide +kernel
theorem dX10_blown_10 : decode cX10_blown 10 = .ok (.iconst 3, 1) := by decide +kernel
theorem dX10_blown_11 : decode cX10_blown 11 = .ok (.if_icmp .ne 7, 3) := by decide +kernel
theorem dX10_blown_14 : decode cX10_blown 14 = .ok (.iconst 2, 1) := by decide +kernel
theorem dX10_blown_15 : decode cX10_blown 15 = .ok (.goto 4, 3) := by decide +kernel
theorem dX10_blown_18 : decode cX10_blown 18 = .ok (.iconst 1, 1) := by decide +kernel
theorem dX10_blown_19 : decode cX10_blown 19 = .ok (.istore_n 3, 1) := by decide +kernel
theorem dX10_blown_20 : decode cX10_blown 20 = .ok (.iload_n 2, 1) := by decide +kernel
theorem dX10_blown_21 : decode cX10_blown 21 = .ok (.iconst 1, 1) := by decide +kernel
theorem dX10_blown_22 : decode cX10_blown 22 = .ok (.if_icmp .ne 7, 3) := by decide +kernel
theorem dX10_blown_25 : decode cX10_blown 25 = .ok (.iload_n 3, 1) := by decide +kernel
theorem dX10_blown_26 : decode cX10_blown 26 = .ok (.goto 16, 3) := by decide +kernel
theorem dX10_blown_29 : decode cX10_blown 29 = .ok (.iload_n 2, 1) := by decide +kernel
theorem dX10_blown_30 : decode cX10_blown 30 = .ok (.iconst 2, 1) := by decide +kernel
theorem dX10_blown_31 : decode cX10_blown 31 = .ok (.if_icmp .ne 10, 3) := by decide +kernel
theorem dX10_blown_34 : decode cX10_blown 34 = .ok (.bipush 6, 2) := by decide +kernel
theorem dX10_blown_36 : decode cX10_blown 36 = .ok (.iload_n 3, 1) := by decide +kernel
theorem dX10_blown_37 : decode cX10_blown 37 = .ok (.isub, 1) := by decide +kernel
theorem dX10_blown_38 : decode cX10_blown 38 = .ok (.goto 4, 3) := by decide +kernel
theorem dX10_blown_41 : decode cX10_blown 41 = .ok (.iconst 0, 1) := by decide +kernel
theorem dX10_blown_42 : decode cX10_blown 42 = .ok (.istore 4, 2) := by decide +kernel
theorem dX10_blown_44 : decode cX10_blown 44 = .ok (.iload_n 0, 1) := by decide +kernel
theorem dX10_blown_45 : decode cX10_blown 45 = .ok (.iload 4, 2) := by decide +kernel
theorem dX10_blown_47 : decode cX10_blown 47 = .ok (.iadd, 1) := by decide +kernel
theorem dX10_blown_48 : decode cX10_blown 48 = .ok (.bipush 6, 2) := by decide +kernel
theorem dX10_blown_50 : decode cX10_blown 50 = .ok (.irem, 1) := by decide +kernel
theorem dX10_blown_51 : decode cX10_blown 51 = .ok (.ireturn, 1) := by decide +kernel
theorem dX10_owed_0 : decode cX10_owed 0 = .ok (.bipush 16, 2) := by decide +kernel
theorem dX10_owed_2 : decode cX10_owed 2 = .ok (.iload_n 1, 1) := by decide +kernel
theorem dX10_owed_3 : decode cX10_owed 3 = .ok (.imul, 1) := by decide +kernel
theorem dX10_owed_4 : decode cX10_owed 4 = .ok (.istore_n 3, 1) := by decide +kernel
theorem dX10_owed_5 : decode cX10_owed 5 = .ok (.aload_n 0, 1) := by decide +kernel
theorem dX10_owed_6 : decode cX10_owed 6 = .ok (.getfield 28, 3) := by decide +kernel
theorem dX10_owed_9 : decode cX10_owed 9 = .ok (.iload_n 3, 1) := by decide +kernel
theorem dX10_owed_10 : decode cX10_owed 10 = .ok (.bipush 13, 2) := by decide +kernel
theorem dX10_owed_12 : decode cX10_owed 12 = .ok (.iadd, 1) := by decide +kernel
theorem dX10_owed_13 : decode cX10_owed 13 = .ok (.iaload, 1) := by decide +kernel
theorem dX10_owed_14 : decode cX10_owed 14 = .ok (.iload_n 2, 1) := by decide +kernel
theorem dX10_owed_15 : decode cX10_owed 15 = .ok (.invokestatic 114, 3) := by decide +kernel
theorem dX10_owed_18 : decode cX10_owed 18 = .ok (.ifCond .ne 21, 3) := by decide +kernel
theorem dX10_owed_21 : decode cX10_owed 21 = .ok (.aload_n 0, 1) := by decide +kernel
theorem dX10_owed_22 : decode cX10_owed 22 = .ok (.getfield 19, 3) := by decide +kernel
theorem dX10_owed_25 : decode cX10_owed 25 = .ok (.iload_n 2, 1) := by decide +kernel
theorem dX10_owed_26 : decode cX10_owed 26 = .ok (.iaload, 1) := by decide +kernel
theorem dX10_owed_27 : decode cX10_owed 27 = .ok (.aload_n 0, 1) := by decide +kernel
theorem dX10_owed_28 : decode cX10_owed 28 = .ok (.getfield 28, 3) := by decide +kernel
theorem dX10_owed_31 : decode cX10_owed 31 = .ok (.iload_n 3, 1) := by decide +kernel
theorem dX10_owed_32 : decode cX10_owed 32 = .ok (.bipush 15, 2) := by decide +kernel
theorem dX10_owed_34 : decode cX10_owed 34 = .ok (.iadd, 1) := by decide +kernel
theorem dX10_owed_35 : decode cX10_owed 35 = .ok (.iaload, 1) := by decide +kernel
theorem dX10_owed_36 : decode cX10_owed 36 = .ok (.if_icmp .ge 7, 3) := by decide +kernel
theorem dX10_owed_39 : decode cX10_owed 39 = .ok (.iconst 0, 1) := by decide +kernel
theorem dX10_owed_40 : decode cX10_owed 40 = .ok (.goto 21, 3) := by decide +kernel
theorem dX10_owed_43 : decode cX10_owed 43 = .ok (.aload_n 0, 1) := by decide +kernel
theorem dX10_owed_44 : decode cX10_owed 44 = .ok (.getfield 22, 3) := by decide +kernel
theorem dX10_owed_47 : decode cX10_owed 47 = .ok (.iload_n 2, 1) := by decide +kernel
theorem dX10_owed_48 : decode cX10_owed 48 = .ok (.iaload, 1) := by decide +kernel
theorem dX10_owed_49 : decode cX10_owed 49 = .ok (.aload_n 0, 1) := by decide +kernel
theorem dX10_owed_50 : decode cX10_owed 50 = .ok (.getfield 28, 3) := by decide +kernel
theorem dX10_owed_53 : decode cX10_owed 53 = .ok (.iload_n 3, 1) := by decide +kernel
theorem dX10_owed_54 : decode cX10_owed 54 = .ok (.bipush 8, 2) := by decide +kernel
theorem dX10_owed_56 : decode cX10_owed 56 = .ok (.iadd, 1) := by decide +kernel
theorem dX10_owed_57 : decode cX10_owed 57 = .ok (.iload_n 2, 1) := by decide +kernel
theorem dX10_owed_58 : decode cX10_owed 58 = .ok (.iadd, 1) := by decide +kernel
theorem dX10_owed_59 : decode cX10_owed 59 = .ok (.iaload, 1) := by decide +kernel
theorem dX10_owed_60 : decode cX10_owed 60 = .ok (.isub, 1) := by decide +kernel
theorem dX10_owed_61 : decode cX10_owed 61 = .ok (.ireturn, 1) := by decide +kernel
theorem dX10_holds_0 : decode cX10_holds 0 = .ok (.aload_n 0, 1) := by decide +kernel
theorem dX10_holds_1 : decode cX10_holds 1 = .ok (.getfield 28, 3) := by decide +kernel
theorem dX10_holds_4 : decode cX10_holds 4 = .ok (.bipush 16, 2) := by decide +kernel
theorem dX10_holds_6 : decode cX10_holds 6 = .ok (.iload_n 1, 1) := by decide +kernel
theorem dX10_holds_7 : decode cX10_holds 7 = .ok (.imul, 1) := by decide +kernel
theorem dX10_holds_8 : decode cX10_holds 8 = .ok (.iconst 4, 1) := by decide +kernel
theorem dX10_holds_9 : decode cX10_holds 9 = .ok (.iadd, 1) := by decide +kernel
theorem dX10_holds_10 : decode cX10_holds 10 = .ok (.iload_n 2, 1) := by decide +kernel
theorem dX10_holds_11 : decode cX10_holds 11 = .ok (.iadd, 1) := by decide +kernel
theorem dX10_holds_12 : decode cX10_holds 12 = .ok (.iaload, 1) := by decide +kernel
theorem dX10_holds_13 : decode cX10_holds 13 = .ok (.istore_n 3, 1) := by decide +kernel
theorem dX10_holds_14 : decode cX10_holds 14 = .ok (.aload_n 0, 1) := by decide +kernel
theorem dX10_holds_15 : decode cX10_holds 15 = .ok (.getfield 13, 3) := by decide +kernel
theorem dX10_holds_18 : decode cX10_holds 18 = .ok (.iload_n 2, 1) := by decide +kernel
theorem dX10_holds_19 : decode cX10_holds 19 = .ok (.iaload, 1) := by decide +kernel
theorem dX10_holds_20 : decode cX10_holds 20 = .ok (.iconst 1, 1) := by decide +kernel
theorem dX10_holds_21 : decode cX10_holds 21 = .ok (.if_icmp .ne 9, 3) := by decide +kernel
theorem dX10_holds_24 : decode cX10_holds 24 = .ok (.iload_n 3, 1) := by decide +kernel
theorem dX10_holds_25 : decode cX10_holds 25 = .ok (.iconst 2, 1) := by decide +kernel
theorem dX10_holds_26 : decode cX10_holds 26 = .ok (.idiv, 1) := by decide +kernel
theorem dX10_holds_27 : decode cX10_holds 27 = .ok (.goto 4, 3) := by decide +kernel
theorem dX10_holds_30 : decode cX10_holds 30 = .ok (.iload_n 3, 1) := by decide +kernel
theorem dX10_holds_31 : decode cX10_holds 31 = .ok (.ireturn, 1) := by decide +kernel
theorem dX10_takes_0 : decode cX10_takes 0 = .ok (.aload_n 0, 1) := by decide +kernel
theorem dX10_takes_1 : decode cX10_takes 1 = .ok (.getfield 25, 3) := by decide +kernel
theorem dX10_takes_4 : decode cX10_takes 4 = .ok (.iload_n 2, 1) := by decide +kernel
theorem dX10_takes_5 : decode cX10_takes 5 = .ok (.iaload, 1) := by decide +kernel
theorem dX10_takes_6 : decode cX10_takes 6 = .ok (.iconst 1, 1) := by decide +kernel
theorem dX10_takes_7 : decode cX10_takes 7 = .ok (.if_icmp .ne 13, 3) := by decide +kernel
theorem dX10_takes_10 : decode cX10_takes 10 = .ok (.aload_n 0, 1) := by decide +kernel
theorem dX10_takes_11 : decode cX10_takes 11 = .ok (.getfield 13, 3) := by decide +kernel
theorem dX10_takes_14 : decode cX10_takes 14 = .ok (.iload_n 1, 1) := by decide +kernel
theorem dX10_takes_15 : decode cX10_takes 15 = .ok (.iaload, 1) := by decide +kernel
theorem dX10_takes_16 : decode cX10_takes 16 = .ok (.iconst 1, 1) := by decide +kernel
theorem dX10_takes_17 : decode cX10_takes 17 = .ok (.if_icmp .eq 7, 3) := by decide +kernel
theorem dX10_takes_20 : decode cX10_takes 20 = .ok (.iconst 1, 1) := by decide +kernel
theorem dX10_takes_21 : decode cX10_takes 21 = .ok (.goto 4, 3) := by decide +kernel
theorem dX10_takes_24 : decode cX10_takes 24 = .ok (.iconst 0, 1) := by decide +kernel
theorem dX10_takes_25 : decode cX10_takes 25 = .ok (.ireturn, 1) := by decide +kernel
theorem dX10_canFall_0 : decode cX10_canFall 0 = .ok (.bipush 16, 2) := by decide +kernel
theorem dX10_canFall_2 : decode cX10_canFall 2 = .ok (.iload_n 1, 1) := by decide +kernel
theorem dX10_canFall_3 : decode cX10_canFall 3 = .ok (.imul, 1) := by decide +kernel
theorem dX10_canFall_4 : decode cX10_canFall 4 = .ok (.istore 4, 2) := by decide +kernel
theorem dX10_canFall_6 : decode cX10_canFall 6 = .ok (.aload_n 0, 1) := by decide +kernel
theorem dX10_canFall_7 : decode cX10_canFall 7 = .ok (.iload_n 2, 1) := by decide +kernel
theorem dX10_canFall_8 : decode cX10_canFall 8 = .ok (.invokevirtual 118, 3) := by decide +kernel
theorem dX10_canFall_11 : decode cX10_canFall 11 = .ok (.ifCond .eq 87, 3) := by decide +kernel
theorem dX10_canFall_14 : decode cX10_canFall 14 = .ok (.aload_n 0, 1) := by decide +kernel
theorem dX10_canFall_15 : decode cX10_canFall 15 = .ok (.iload_n 3, 1) := by decide +kernel
theorem dX10_canFall_16 : decode cX10_canFall 16 = .ok (.invokevirtual 122, 3) := by decide +kernel
theorem dX10_canFall_19 : decode cX10_canFall 19 = .ok (.ifCond .eq 79, 3) := by decide +kernel
theorem dX10_canFall_22 : decode cX10_canFall 22 = .ok (.aload_n 0, 1) := by decide +kernel
theorem dX10_canFall_23 : decode cX10_canFall 23 = .ok (.getfield 28, 3) := by decide +kernel
theorem dX10_canFall_26 : decode cX10_canFall 26 = .ok (.iload 4, 2) := by decide +kernel
theorem dX10_canFall_28 : decode cX10_canFall 28 = .ok (.iload_n 2, 1) := by decide +kernel
theorem dX10_canFall_29 : decode cX10_canFall 29 = .ok (.iadd, 1) := by decide +kernel
theorem dX10_canFall_30 : decode cX10_canFall 30 = .ok (.iaload, 1) := by decide +kernel
theorem dX10_canFall_31 : decode cX10_canFall 31 = .ok (.aload_n 0, 1) := by decide +kernel
theorem dX10_canFall_32 : decode cX10_canFall 32 = .ok (.getfield 16, 3) := by decide +kernel
theorem dX10_canFall_35 : decode cX10_canFall 35 = .ok (.iload_n 3, 1) := by decide +kernel
theorem dX10_canFall_36 : decode cX10_canFall 36 = .ok (.iaload, 1) := by decide +kernel
theorem dX10_canFall_37 : decode cX10_canFall 37 = .ok (.if_icmp .ne 61, 3) := by decide +kernel
theorem dX10_canFall_40 : decode cX10_canFall 40 = .ok (.aload_n 0, 1) := by decide +kernel
theorem dX10_canFall_41 : decode cX10_canFall 41 = .ok (.iload_n 1, 1) := by decide +kernel
theorem dX10_canFall_42 : decode cX10_canFall 42 = .ok (.iload_n 3, 1) := by decide +kernel
theorem dX10_canFall_43 : decode cX10_canFall 43 = .ok (.invokevirtual 125, 3) := by decide +kernel
theorem dX10_canFall_46 : decode cX10_canFall 46 = .ok (.ifCond .le 52, 3) := by decide +kernel
theorem dX10_canFall_49 : decode cX10_canFall 49 = .ok (.aload_n 0, 1) := by decide +kernel
theorem dX10_canFall_50 : decode cX10_canFall 50 = .ok (.iload_n 1, 1) := by decide +kernel
theorem dX10_canFall_51 : decode cX10_canFall 51 = .ok (.iload_n 2, 1) := by decide +kernel
theorem dX10_canFall_52 : decode cX10_canFall 52 = .ok (.invokevirtual 128, 3) := by decide +kernel
theorem dX10_canFall_55 : decode cX10_canFall 55 = .ok (.ifCond .le 43, 3) := by decide +kernel
theorem dX10_canFall_58 : decode cX10_canFall 58 = .ok (.aload_n 0, 1) := by decide +kernel
theorem dX10_canFall_59 : decode cX10_canFall 59 = .ok (.iload_n 2, 1) := by decide +kernel
theorem dX10_canFall_60 : decode cX10_canFall 60 = .ok (.iload_n 3, 1) := by decide +kernel
theorem dX10_canFall_61 : decode cX10_canFall 61 = .ok (.invokevirtual 131, 3) := by decide +kernel
theorem dX10_canFall_64 : decode cX10_canFall 64 = .ok (.ifCond .eq 34, 3) := by decide +kernel
theorem dX10_canFall_67 : decode cX10_canFall 67 = .ok (.aload_n 0, 1) := by decide +kernel
theorem dX10_canFall_68 : decode cX10_canFall 68 = .ok (.getfield 25, 3) := by decide +kernel
theorem dX10_canFall_71 : decode cX10_canFall 71 = .ok (.iload_n 3, 1) := by decide +kernel
theorem dX10_canFall_72 : decode cX10_canFall 72 = .ok (.iaload, 1) := by decide +kernel
theorem dX10_canFall_73 : decode cX10_canFall 73 = .ok (.iconst 2, 1) := by decide +kernel
theorem dX10_canFall_74 : decode cX10_canFall 74 = .ok (.if_icmp .ne 20, 3) := by decide +kernel
theorem dX10_canFall_77 : decode cX10_canFall 77 = .ok (.aload_n 0, 1) := by decide +kernel
theorem dX10_canFall_78 : decode cX10_canFall 78 = .ok (.aload_n 0, 1) := by decide +kernel
theorem dX10_canFall_79 : decode cX10_canFall 79 = .ok (.getfield 28, 3) := by decide +kernel
theorem dX10_canFall_82 : decode cX10_canFall 82 = .ok (.iload 4, 2) := by decide +kernel
theorem dX10_canFall_84 : decode cX10_canFall 84 = .ok (.bipush 15, 2) := by decide +kernel
theorem dX10_canFall_86 : decode cX10_canFall 86 = .ok (.iadd, 1) := by decide +kernel
theorem dX10_canFall_87 : decode cX10_canFall 87 = .ok (.iaload, 1) := by decide +kernel
theorem dX10_canFall_88 : decode cX10_canFall 88 = .ok (.invokevirtual 134, 3) := by decide +kernel
theorem dX10_canFall_91 : decode cX10_canFall 91 = .ok (.ifCond .ne 7, 3) := by decide +kernel
theorem dX10_canFall_94 : decode cX10_canFall 94 = .ok (.iconst 1, 1) := by decide +kernel
theorem dX10_canFall_95 : decode cX10_canFall 95 = .ok (.goto 4, 3) := by decide +kernel
theorem dX10_canFall_98 : decode cX10_canFall 98 = .ok (.iconst 0, 1) := by decide +kernel
theorem dX10_canFall_99 : decode cX10_canFall 99 = .ok (.ireturn, 1) := by decide +kernel
theorem dX10_fallOn_0 : decode cX10_fallOn 0 = .ok (.bipush 16, 2) := by decide +kernel
theorem dX10_fallOn_2 : decode cX10_fallOn 2 = .ok (.iload_n 1, 1) := by decide +kernel
theorem dX10_fallOn_3 : decode cX10_fallOn 3 = .ok (.imul, 1) := by decide +kernel
theorem dX10_fallOn_4 : decode cX10_fallOn 4 = .ok (.istore 4, 2) := by decide +kernel
theorem dX10_fallOn_6 : decode cX10_fallOn 6 = .ok (.aload_n 0, 1) := by decide +kernel
theorem dX10_fallOn_7 : decode cX10_fallOn 7 = .ok (.getfield 28, 3) := by decide +kernel
theorem dX10_fallOn_10 : decode cX10_fallOn 10 = .ok (.iload 4, 2) := by decide +kernel
theorem dX10_fallOn_12 : decode cX10_fallOn 12 = .ok (.iconst 4, 1) := by decide +kernel
theorem dX10_fallOn_13 : decode cX10_fallOn 13 = .ok (.iadd, 1) := by decide +kernel
theorem dX10_fallOn_14 : decode cX10_fallOn 14 = .ok (.iload_n 2, 1) := by decide +kernel
theorem dX10_fallOn_15 : decode cX10_fallOn 15 = .ok (.iadd, 1) := by decide +kernel
theorem dX10_fallOn_16 : decode cX10_fallOn 16 = .ok (.dup2, 1) := by decide +kernel
theorem dX10_fallOn_17 : decode cX10_fallOn 17 = .ok (.iaload, 1) := by decide +kernel
theorem dX10_fallOn_18 : decode cX10_fallOn 18 = .ok (.aload_n 0, 1) := by decide +kernel
theorem dX10_fallOn_19 : decode cX10_fallOn 19 = .ok (.getfield 13, 3) := by decide +kernel
theorem dX10_fallOn_22 : decode cX10_fallOn 22 = .ok (.iload_n 2, 1) := by decide +kernel
theorem dX10_fallOn_23 : decode cX10_fallOn 23 = .ok (.iaload, 1) := by decide +kernel
theorem dX10_fallOn_24 : decode cX10_fallOn 24 = .ok (.iconst 1, 1) := by decide +kernel
theorem dX10_fallOn_25 : decode cX10_fallOn 25 = .ok (.if_icmp .ne 7, 3) := by decide +kernel
theorem dX10_fallOn_28 : decode cX10_fallOn 28 = .ok (.iconst 2, 1) := by decide +kernel
theorem dX10_fallOn_29 : decode cX10_fallOn 29 = .ok (.goto 4, 3) := by decide +kernel
theorem dX10_fallOn_32 : decode cX10_fallOn 32 = .ok (.iconst 1, 1) := by decide +kernel
theorem dX10_fallOn_33 : decode cX10_fallOn 33 = .ok (.isub, 1) := by decide +kernel
theorem dX10_fallOn_34 : decode cX10_fallOn 34 = .ok (.iastore, 1) := by decide +kernel
theorem dX10_fallOn_35 : decode cX10_fallOn 35 = .ok (.aload_n 0, 1) := by decide +kernel
theorem dX10_fallOn_36 : decode cX10_fallOn 36 = .ok (.getfield 28, 3) := by decide +kernel
theorem dX10_fallOn_39 : decode cX10_fallOn 39 = .ok (.iload 4, 2) := by decide +kernel
theorem dX10_fallOn_41 : decode cX10_fallOn 41 = .ok (.bipush 8, 2) := by decide +kernel
theorem dX10_fallOn_43 : decode cX10_fallOn 43 = .ok (.iadd, 1) := by decide +kernel
theorem dX10_fallOn_44 : decode cX10_fallOn 44 = .ok (.iload_n 3, 1) := by decide +kernel
theorem dX10_fallOn_45 : decode cX10_fallOn 45 = .ok (.iadd, 1) := by decide +kernel
theorem dX10_fallOn_46 : decode cX10_fallOn 46 = .ok (.dup2, 1) := by decide +kernel
theorem dX10_fallOn_47 : decode cX10_fallOn 47 = .ok (.iaload, 1) := by decide +kernel
theorem dX10_fallOn_48 : decode cX10_fallOn 48 = .ok (.iconst 1, 1) := by decide +kernel
theorem dX10_fallOn_49 : decode cX10_fallOn 49 = .ok (.iadd, 1) := by decide +kernel
theorem dX10_fallOn_50 : decode cX10_fallOn 50 = .ok (.iastore, 1) := by decide +kernel
theorem dX10_fallOn_51 : decode cX10_fallOn 51 = .ok (.return_, 1) := by decide +kernel
theorem dX10_blow_0 : decode cX10_blow 0 = .ok (.bipush 16, 2) := by decide +kernel
theorem dX10_blow_2 : decode cX10_blow 2 = .ok (.iload_n 1, 1) := by decide +kernel
theorem dX10_blow_3 : decode cX10_blow 3 = .ok (.imul, 1) := by decide +kernel
theorem dX10_blow_4 : decode cX10_blow 4 = .ok (.istore_n 2, 1) := by decide +kernel
theorem dX10_blow_5 : decode cX10_blow 5 = .ok (.aload_n 0, 1) := by decide +kernel
theorem dX10_blow_6 : decode cX10_blow 6 = .ok (.aload_n 0, 1) := by decide +kernel
theorem dX10_blow_7 : decode cX10_blow 7 = .ok (.getfield 28, 3) := by decide +kernel
theorem dX10_blow_10 : decode cX10_blow 10 = .ok (.iload_n 2, 1) := by decide +kernel
theorem dX10_blow_11 : decode cX10_blow 11 = .ok (.bipush 15, 2) := by decide +kernel
theorem dX10_blow_13 : decode cX10_blow 13 = .ok (.iadd, 1) := by decide +kernel
theorem dX10_blow_14 : decode cX10_blow 14 = .ok (.iaload, 1) := by decide +kernel
theorem dX10_blow_15 : decode cX10_blow 15 = .ok (.invokevirtual 134, 3) := by decide +kernel
theorem dX10_blow_18 : decode cX10_blow 18 = .ok (.istore_n 3, 1) := by decide +kernel
theorem dX10_blow_19 : decode cX10_blow 19 = .ok (.iconst 0, 1) := by decide +kernel
theorem dX10_blow_20 : decode cX10_blow 20 = .ok (.istore 4, 2) := by decide +kernel
theorem dX10_blow_22 : decode cX10_blow 22 = .ok (.iload 4, 2) := by decide +kernel
theorem dX10_blow_24 : decode cX10_blow 24 = .ok (.aload_n 0, 1) := by decide +kernel
theorem dX10_blow_25 : decode cX10_blow 25 = .ok (.getfield 105, 3) := by decide +kernel
theorem dX10_blow_28 : decode cX10_blow 28 = .ok (.if_icmp .ge 38, 3) := by decide +kernel
theorem dX10_blow_31 : decode cX10_blow 31 = .ok (.aload_n 0, 1) := by decide +kernel
theorem dX10_blow_32 : decode cX10_blow 32 = .ok (.getfield 28, 3) := by decide +kernel
theorem dX10_blow_35 : decode cX10_blow 35 = .ok (.iload_n 2, 1) := by decide +kernel
theorem dX10_blow_36 : decode cX10_blow 36 = .ok (.iload 4, 2) := by decide +kernel
theorem dX10_blow_38 : decode cX10_blow 38 = .ok (.iadd, 1) := by decide +kernel
theorem dX10_blow_39 : decode cX10_blow 39 = .ok (.aload_n 0, 1) := by decide +kernel
theorem dX10_blow_40 : decode cX10_blow 40 = .ok (.getfield 28, 3) := by decide +kernel
theorem dX10_blow_43 : decode cX10_blow 43 = .ok (.iload_n 2, 1) := by decide +kernel
theorem dX10_blow_44 : decode cX10_blow 44 = .ok (.iload 4, 2) := by decide +kernel
theorem dX10_blow_46 : decode cX10_blow 46 = .ok (.iadd, 1) := by decide +kernel
theorem dX10_blow_47 : decode cX10_blow 47 = .ok (.iaload, 1) := by decide +kernel
theorem dX10_blow_48 : decode cX10_blow 48 = .ok (.aload_n 0, 1) := by decide +kernel
theorem dX10_blow_49 : decode cX10_blow 49 = .ok (.getfield 13, 3) := by decide +kernel
theorem dX10_blow_52 : decode cX10_blow 52 = .ok (.iload 4, 2) := by decide +kernel
theorem dX10_blow_54 : decode cX10_blow 54 = .ok (.iaload, 1) := by decide +kernel
theorem dX10_blow_55 : decode cX10_blow 55 = .ok (.iload_n 3, 1) := by decide +kernel
theorem dX10_blow_56 : decode cX10_blow 56 = .ok (.invokestatic 138, 3) := by decide +kernel
theorem dX10_blow_59 : decode cX10_blow 59 = .ok (.iastore, 1) := by decide +kernel
theorem dX10_blow_60 : decode cX10_blow 60 = .ok (.iinc 4 1, 3) := by decide +kernel
theorem dX10_blow_63 : decode cX10_blow 63 = .ok (.goto (-41), 3) := by decide +kernel
theorem dX10_blow_66 : decode cX10_blow 66 = .ok (.return_, 1) := by decide +kernel
theorem dX10_passOn_0 : decode cX10_passOn 0 = .ok (.bipush 16, 2) := by decide +kernel
theorem dX10_passOn_2 : decode cX10_passOn 2 = .ok (.iload_n 1, 1) := by decide +kernel
theorem dX10_passOn_3 : decode cX10_passOn 3 = .ok (.imul, 1) := by decide +kernel
theorem dX10_passOn_4 : decode cX10_passOn 4 = .ok (.istore_n 3, 1) := by decide +kernel
theorem dX10_passOn_5 : decode cX10_passOn 5 = .ok (.iconst 0, 1) := by decide +kernel
theorem dX10_passOn_6 : decode cX10_passOn 6 = .ok (.istore 4, 2) := by decide +kernel
theorem dX10_passOn_8 : decode cX10_passOn 8 = .ok (.iconst 0, 1) := by decide +kernel
theorem dX10_passOn_9 : decode cX10_passOn 9 = .ok (.istore 5, 2) := by decide +kernel
theorem dX10_passOn_11 : decode cX10_passOn 11 = .ok (.iload 5, 2) := by decide +kernel
theorem dX10_passOn_13 : decode cX10_passOn 13 = .ok (.aload_n 0, 1) := by decide +kernel
theorem dX10_passOn_14 : decode cX10_passOn 14 = .ok (.getfield 108, 3) := by decide +kernel
theorem dX10_passOn_17 : decode cX10_passOn 17 = .ok (.if_icmp .ge 44, 3) := by decide +kernel
theorem dX10_passOn_20 : decode cX10_passOn 20 = .ok (.iload 4, 2) := by decide +kernel
theorem dX10_passOn_22 : decode cX10_passOn 22 = .ok (.aload_n 0, 1) := by decide +kernel
theorem dX10_passOn_23 : decode cX10_passOn 23 = .ok (.getfield 19, 3) := by decide +kernel
theorem dX10_passOn_26 : decode cX10_passOn 26 = .ok (.iload 5, 2) := by decide +kernel
theorem dX10_passOn_28 : decode cX10_passOn 28 = .ok (.iaload, 1) := by decide +kernel
theorem dX10_passOn_29 : decode cX10_passOn 29 = .ok (.aload_n 0, 1) := by decide +kernel
theorem dX10_passOn_30 : decode cX10_passOn 30 = .ok (.getfield 28, 3) := by decide +kernel
theorem dX10_passOn_33 : decode cX10_passOn 33 = .ok (.iload_n 3, 1) := by decide +kernel
theorem dX10_passOn_34 : decode cX10_passOn 34 = .ok (.bipush 15, 2) := by decide +kernel
theorem dX10_passOn_36 : decode cX10_passOn 36 = .ok (.iadd, 1) := by decide +kernel
theorem dX10_passOn_37 : decode cX10_passOn 37 = .ok (.iaload, 1) := by decide +kernel
theorem dX10_passOn_38 : decode cX10_passOn 38 = .ok (.if_icmp .ne 13, 3) := by decide +kernel
theorem dX10_passOn_41 : decode cX10_passOn 41 = .ok (.aload_n 0, 1) := by decide +kernel
theorem dX10_passOn_42 : decode cX10_passOn 42 = .ok (.iload_n 1, 1) := by decide +kernel
theorem dX10_passOn_43 : decode cX10_passOn 43 = .ok (.iload 5, 2) := by decide +kernel
theorem dX10_passOn_45 : decode cX10_passOn 45 = .ok (.invokevirtual 125, 3) := by decide +kernel
theorem dX10_passOn_48 : decode cX10_passOn 48 = .ok (.goto 4, 3) := by decide +kernel
theorem dX10_passOn_51 : decode cX10_passOn 51 = .ok (.iconst 0, 1) := by decide +kernel
theorem dX10_passOn_52 : decode cX10_passOn 52 = .ok (.iadd, 1) := by decide +kernel
theorem dX10_passOn_53 : decode cX10_passOn 53 = .ok (.istore 4, 2) := by decide +kernel
theorem dX10_passOn_55 : decode cX10_passOn 55 = .ok (.iinc 5 1, 3) := by decide +kernel
theorem dX10_passOn_58 : decode cX10_passOn 58 = .ok (.goto (-47), 3) := by decide +kernel
theorem dX10_passOn_61 : decode cX10_passOn 61 = .ok (.iload_n 2, 1) := by decide +kernel
theorem dX10_passOn_62 : decode cX10_passOn 62 = .ok (.ifCond .eq 8, 3) := by decide +kernel
theorem dX10_passOn_65 : decode cX10_passOn 65 = .ok (.aload_n 0, 1) := by decide +kernel
theorem dX10_passOn_66 : decode cX10_passOn 66 = .ok (.iload_n 1, 1) := by decide +kernel
theorem dX10_passOn_67 : decode cX10_passOn 67 = .ok (.invokevirtual 142, 3) := by decide +kernel
theorem dX10_passOn_70 : decode cX10_passOn 70 = .ok (.aload_n 0, 1) := by decide +kernel
theorem dX10_passOn_71 : decode cX10_passOn 71 = .ok (.getfield 28, 3) := by decide +kernel
theorem dX10_passOn_74 : decode cX10_passOn 74 = .ok (.iload_n 3, 1) := by decide +kernel
theorem dX10_passOn_75 : decode cX10_passOn 75 = .ok (.bipush 15, 2) := by decide +kernel
theorem dX10_passOn_77 : decode cX10_passOn 77 = .ok (.iadd, 1) := by decide +kernel
theorem dX10_passOn_78 : decode cX10_passOn 78 = .ok (.dup2, 1) := by decide +kernel
theorem dX10_passOn_79 : decode cX10_passOn 79 = .ok (.iaload, 1) := by decide +kernel
theorem dX10_passOn_80 : decode cX10_passOn 80 = .ok (.iconst 1, 1) := by decide +kernel
theorem dX10_passOn_81 : decode cX10_passOn 81 = .ok (.iadd, 1) := by decide +kernel
theorem dX10_passOn_82 : decode cX10_passOn 82 = .ok (.iastore, 1) := by decide +kernel
theorem dX10_passOn_83 : decode cX10_passOn 83 = .ok (.aload_n 0, 1) := by decide +kernel
theorem dX10_passOn_84 : decode cX10_passOn 84 = .ok (.getfield 28, 3) := by decide +kernel
theorem dX10_passOn_87 : decode cX10_passOn 87 = .ok (.iload_n 3, 1) := by decide +kernel
theorem dX10_passOn_88 : decode cX10_passOn 88 = .ok (.bipush 14, 2) := by decide +kernel
theorem dX10_passOn_90 : decode cX10_passOn 90 = .ok (.iadd, 1) := by decide +kernel
theorem dX10_passOn_91 : decode cX10_passOn 91 = .ok (.dup2, 1) := by decide +kernel
theorem dX10_passOn_92 : decode cX10_passOn 92 = .ok (.iaload, 1) := by decide +kernel
theorem dX10_passOn_93 : decode cX10_passOn 93 = .ok (.iload 4, 2) := by decide +kernel
theorem dX10_passOn_95 : decode cX10_passOn 95 = .ok (.iadd, 1) := by decide +kernel
theorem dX10_passOn_96 : decode cX10_passOn 96 = .ok (.iastore, 1) := by decide +kernel
theorem dX10_passOn_97 : decode cX10_passOn 97 = .ok (.iload 4, 2) := by decide +kernel
theorem dX10_passOn_99 : decode cX10_passOn 99 = .ok (.ireturn, 1) := by decide +kernel
theorem dX10_owedInAll_0 : decode cX10_owedInAll 0 = .ok (.iconst 0, 1) := by decide +kernel
theorem dX10_owedInAll_1 : decode cX10_owedInAll 1 = .ok (.istore_n 2, 1) := by decide +kernel
theorem dX10_owedInAll_2 : decode cX10_owedInAll 2 = .ok (.iconst 0, 1) := by decide +kernel
theorem dX10_owedInAll_3 : decode cX10_owedInAll 3 = .ok (.istore_n 3, 1) := by decide +kernel
theorem dX10_owedInAll_4 : decode cX10_owedInAll 4 = .ok (.iload_n 3, 1) := by decide +kernel
theorem dX10_owedInAll_5 : decode cX10_owedInAll 5 = .ok (.aload_n 0, 1) := by decide +kernel
theorem dX10_owedInAll_6 : decode cX10_owedInAll 6 = .ok (.getfield 108, 3) := by decide +kernel
theorem dX10_owedInAll_9 : decode cX10_owedInAll 9 = .ok (.if_icmp .ge 18, 3) := by decide +kernel
theorem dX10_owedInAll_12 : decode cX10_owedInAll 12 = .ok (.iload_n 2, 1) := by decide +kernel
theorem dX10_owedInAll_13 : decode cX10_owedInAll 13 = .ok (.aload_n 0, 1) := by decide +kernel
theorem dX10_owedInAll_14 : decode cX10_owedInAll 14 = .ok (.iload_n 1, 1) := by decide +kernel
theorem dX10_owedInAll_15 : decode cX10_owedInAll 15 = .ok (.iload_n 3, 1) := by decide +kernel
theorem dX10_owedInAll_16 : decode cX10_owedInAll 16 = .ok (.invokevirtual 125, 3) := by decide +kernel
theorem dX10_owedInAll_19 : decode cX10_owedInAll 19 = .ok (.iadd, 1) := by decide +kernel
theorem dX10_owedInAll_20 : decode cX10_owedInAll 20 = .ok (.istore_n 2, 1) := by decide +kernel
theorem dX10_owedInAll_21 : decode cX10_owedInAll 21 = .ok (.iinc 3 1, 3) := by decide +kernel
theorem dX10_owedInAll_24 : decode cX10_owedInAll 24 = .ok (.goto (-20), 3) := by decide +kernel
theorem dX10_owedInAll_27 : decode cX10_owedInAll 27 = .ok (.iload_n 2, 1) := by decide +kernel
theorem dX10_owedInAll_28 : decode cX10_owedInAll 28 = .ok (.ireturn, 1) := by decide +kernel
theorem dX10_filledInAll_0 : decode cX10_filledInAll 0 = .ok (.iconst 0, 1) := by decide +kernel
theorem dX10_filledInAll_1 : decode cX10_filledInAll 1 = .ok (.istore_n 2, 1) := by decide +kernel
theorem dX10_filledInAll_2 : decode cX10_filledInAll 2 = .ok (.iconst 0, 1) := by decide +kernel
theorem dX10_filledInAll_3 : decode cX10_filledInAll 3 = .ok (.istore_n 3, 1) := by decide +kernel
theorem dX10_filledInAll_4 : decode cX10_filledInAll 4 = .ok (.iload_n 3, 1) := by decide +kernel
theorem dX10_filledInAll_5 : decode cX10_filledInAll 5 = .ok (.aload_n 0, 1) := by decide +kernel
theorem dX10_filledInAll_6 : decode cX10_filledInAll 6 = .ok (.getfield 108, 3) := by decide +kernel
theorem dX10_filledInAll_9 : decode cX10_filledInAll 9 = .ok (.if_icmp .ge 26, 3) := by decide +kernel
theorem dX10_filledInAll_12 : decode cX10_filledInAll 12 = .ok (.iload_n 2, 1) := by decide +kernel
theorem dX10_filledInAll_13 : decode cX10_filledInAll 13 = .ok (.aload_n 0, 1) := by decide +kernel
theorem dX10_filledInAll_14 : decode cX10_filledInAll 14 = .ok (.getfield 28, 3) := by decide +kernel
theorem dX10_filledInAll_17 : decode cX10_filledInAll 17 = .ok (.bipush 16, 2) := by decide +kernel
theorem dX10_filledInAll_19 : decode cX10_filledInAll 19 = .ok (.iload_n 1, 1) := by decide +kernel
theorem dX10_filledInAll_20 : decode cX10_filledInAll 20 = .ok (.imul, 1) := by decide +kernel
theorem dX10_filledInAll_21 : decode cX10_filledInAll 21 = .ok (.bipush 8, 2) := by decide +kernel
theorem dX10_filledInAll_23 : decode cX10_filledInAll 23 = .ok (.iadd, 1) := by decide +kernel
theorem dX10_filledInAll_24 : decode cX10_filledInAll 24 = .ok (.iload_n 3, 1) := by decide +kernel
theorem dX10_filledInAll_25 : decode cX10_filledInAll 25 = .ok (.iadd, 1) := by decide +kernel
theorem dX10_filledInAll_26 : decode cX10_filledInAll 26 = .ok (.iaload, 1) := by decide +kernel
theorem dX10_filledInAll_27 : decode cX10_filledInAll 27 = .ok (.iadd, 1) := by decide +kernel
theorem dX10_filledInAll_28 : decode cX10_filledInAll 28 = .ok (.istore_n 2, 1) := by decide +kernel
theorem dX10_filledInAll_29 : decode cX10_filledInAll 29 = .ok (.iinc 3 1, 3) := by decide +kernel
theorem dX10_filledInAll_32 : decode cX10_filledInAll 32 = .ok (.goto (-28), 3) := by decide +kernel
theorem dX10_filledInAll_35 : decode cX10_filledInAll 35 = .ok (.iload_n 2, 1) := by decide +kernel
theorem dX10_filledInAll_36 : decode cX10_filledInAll 36 = .ok (.ireturn, 1) := by decide +kernel
theorem dX10_canServe_0 : decode cX10_canServe 0 = .ok (.bipush 16, 2) := by decide +kernel
theorem dX10_canServe_2 : decode cX10_canServe 2 = .ok (.iload_n 1, 1) := by decide +kernel
theorem dX10_canServe_3 : decode cX10_canServe 3 = .ok (.imul, 1) := by decide +kernel
theorem dX10_canServe_4 : decode cX10_canServe 4 = .ok (.istore 4, 2) := by decide +kernel
theorem dX10_canServe_6 : decode cX10_canServe 6 = .ok (.aload_n 0, 1) := by decide +kernel
theorem dX10_canServe_7 : decode cX10_canServe 7 = .ok (.getfield 28, 3) := by decide +kernel
theorem dX10_canServe_10 : decode cX10_canServe 10 = .ok (.iload 4, 2) := by decide +kernel
theorem dX10_canServe_12 : decode cX10_canServe 12 = .ok (.iload_n 2, 1) := by decide +kernel
theorem dX10_canServe_13 : decode cX10_canServe 13 = .ok (.iadd, 1) := by decide +kernel
theorem dX10_canServe_14 : decode cX10_canServe 14 = .ok (.iaload, 1) := by decide +kernel
theorem dX10_canServe_15 : decode cX10_canServe 15 = .ok (.istore 5, 2) := by decide +kernel
theorem dX10_canServe_17 : decode cX10_canServe 17 = .ok (.iconst 0, 1) := by decide +kernel
theorem dX10_canServe_18 : decode cX10_canServe 18 = .ok (.istore 6, 2) := by decide +kernel
theorem dX10_canServe_20 : decode cX10_canServe 20 = .ok (.aload_n 0, 1) := by decide +kernel
theorem dX10_canServe_21 : decode cX10_canServe 21 = .ok (.getfield 28, 3) := by decide +kernel
theorem dX10_canServe_24 : decode cX10_canServe 24 = .ok (.iload 4, 2) := by decide +kernel
theorem dX10_canServe_26 : decode cX10_canServe 26 = .ok (.bipush 15, 2) := by decide +kernel
theorem dX10_canServe_28 : decode cX10_canServe 28 = .ok (.iadd, 1) := by decide +kernel
theorem dX10_canServe_29 : decode cX10_canServe 29 = .ok (.iaload, 1) := by decide +kernel
theorem dX10_canServe_30 : decode cX10_canServe 30 = .ok (.istore 7, 2) := by decide +kernel
theorem dX10_canServe_32 : decode cX10_canServe 32 = .ok (.iload 7, 2) := by decide +kernel
theorem dX10_canServe_34 : decode cX10_canServe 34 = .ok (.aload_n 0, 1) := by decide +kernel
theorem dX10_canServe_35 : decode cX10_canServe 35 = .ok (.getfield 19, 3) := by decide +kernel
theorem dX10_canServe_38 : decode cX10_canServe 38 = .ok (.iload_n 3, 1) := by decide +kernel
theorem dX10_canServe_39 : decode cX10_canServe 39 = .ok (.iaload, 1) := by decide +kernel
theorem dX10_canServe_40 : decode cX10_canServe 40 = .ok (.if_icmp .gt 70, 3) := by decide +kernel
theorem dX10_canServe_43 : decode cX10_canServe 43 = .ok (.iload 6, 2) := by decide +kernel
theorem dX10_canServe_45 : decode cX10_canServe 45 = .ok (.ifCond .ne 33, 3) := by decide +kernel
theorem dX10_canServe_48 : decode cX10_canServe 48 = .ok (.iload 5, 2) := by decide +kernel
theorem dX10_canServe_50 : decode cX10_canServe 50 = .ok (.aload_n 0, 1) := by decide +kernel
theorem dX10_canServe_51 : decode cX10_canServe 51 = .ok (.getfield 16, 3) := by decide +kernel
theorem dX10_canServe_54 : decode cX10_canServe 54 = .ok (.iload_n 3, 1) := by decide +kernel
theorem dX10_canServe_55 : decode cX10_canServe 55 = .ok (.iaload, 1) := by decide +kernel
theorem dX10_canServe_56 : decode cX10_canServe 56 = .ok (.if_icmp .ne 26, 3) := by decide +kernel
theorem dX10_canServe_59 : decode cX10_canServe 59 = .ok (.aload_n 0, 1) := by decide +kernel
theorem dX10_canServe_60 : decode cX10_canServe 60 = .ok (.getfield 25, 3) := by decide +kernel
theorem dX10_canServe_63 : decode cX10_canServe 63 = .ok (.iload_n 3, 1) := by decide +kernel
theorem dX10_canServe_64 : decode cX10_canServe 64 = .ok (.iaload, 1) := by decide +kernel
theorem dX10_canServe_65 : decode cX10_canServe 65 = .ok (.iconst 2, 1) := by decide +kernel
theorem dX10_canServe_66 : decode cX10_canServe 66 = .ok (.if_icmp .ne 12, 3) := by decide +kernel
theorem dX10_canServe_69 : decode cX10_canServe 69 = .ok (.aload_n 0, 1) := by decide +kernel
theorem dX10_canServe_70 : decode cX10_canServe 70 = .ok (.iload 7, 2) := by decide +kernel
theorem dX10_canServe_72 : decode cX10_canServe 72 = .ok (.invokevirtual 134, 3) := by decide +kernel
theorem dX10_canServe_75 : decode cX10_canServe 75 = .ok (.ifCond .ne 7, 3) := by decide +kernel
theorem dX10_canServe_78 : decode cX10_canServe 78 = .ok (.iconst 1, 1) := by decide +kernel
theorem dX10_canServe_79 : decode cX10_canServe 79 = .ok (.goto 4, 3) := by decide +kernel
theorem dX10_canServe_82 : decode cX10_canServe 82 = .ok (.iconst 0, 1) := by decide +kernel
theorem dX10_canServe_83 : decode cX10_canServe 83 = .ok (.istore 6, 2) := by decide +kernel
theorem dX10_canServe_85 : decode cX10_canServe 85 = .ok (.iload 5, 2) := by decide +kernel
theorem dX10_canServe_87 : decode cX10_canServe 87 = .ok (.aload_n 0, 1) := by decide +kernel
theorem dX10_canServe_88 : decode cX10_canServe 88 = .ok (.getfield 13, 3) := by decide +kernel
theorem dX10_canServe_91 : decode cX10_canServe 91 = .ok (.iload_n 2, 1) := by decide +kernel
theorem dX10_canServe_92 : decode cX10_canServe 92 = .ok (.iaload, 1) := by decide +kernel
theorem dX10_canServe_93 : decode cX10_canServe 93 = .ok (.aload_n 0, 1) := by decide +kernel
theorem dX10_canServe_94 : decode cX10_canServe 94 = .ok (.iload 7, 2) := by decide +kernel
theorem dX10_canServe_96 : decode cX10_canServe 96 = .ok (.invokevirtual 134, 3) := by decide +kernel
theorem dX10_canServe_99 : decode cX10_canServe 99 = .ok (.invokestatic 138, 3) := by decide +kernel
theorem dX10_canServe_102 : decode cX10_canServe 102 = .ok (.istore 5, 2) := by decide +kernel
theorem dX10_canServe_104 : decode cX10_canServe 104 = .ok (.iinc 7 1, 3) := by decide +kernel
theorem dX10_canServe_107 : decode cX10_canServe 107 = .ok (.goto (-75), 3) := by decide +kernel
theorem dX10_canServe_110 : decode cX10_canServe 110 = .ok (.iload 6, 2) := by decide +kernel
theorem dX10_canServe_112 : decode cX10_canServe 112 = .ok (.ifCond .eq 34, 3) := by decide +kernel
theorem dX10_canServe_115 : decode cX10_canServe 115 = .ok (.aload_n 0, 1) := by decide +kernel
theorem dX10_canServe_116 : decode cX10_canServe 116 = .ok (.iload_n 1, 1) := by decide +kernel
theorem dX10_canServe_117 : decode cX10_canServe 117 = .ok (.iload_n 3, 1) := by decide +kernel
theorem dX10_canServe_118 : decode cX10_canServe 118 = .ok (.invokevirtual 125, 3) := by decide +kernel
theorem dX10_canServe_121 : decode cX10_canServe 121 = .ok (.ifCond .le 25, 3) := by decide +kernel
theorem dX10_canServe_124 : decode cX10_canServe 124 = .ok (.aload_n 0, 1) := by decide +kernel
theorem dX10_canServe_125 : decode cX10_canServe 125 = .ok (.iload_n 1, 1) := by decide +kernel
theorem dX10_canServe_126 : decode cX10_canServe 126 = .ok (.iload_n 2, 1) := by decide +kernel
theorem dX10_canServe_127 : decode cX10_canServe 127 = .ok (.invokevirtual 128, 3) := by decide +kernel
theorem dX10_canServe_130 : decode cX10_canServe 130 = .ok (.ifCond .le 16, 3) := by decide +kernel
theorem dX10_canServe_133 : decode cX10_canServe 133 = .ok (.aload_n 0, 1) := by decide +kernel
theorem dX10_canServe_134 : decode cX10_canServe 134 = .ok (.iload_n 2, 1) := by decide +kernel
theorem dX10_canServe_135 : decode cX10_canServe 135 = .ok (.iload_n 3, 1) := by decide +kernel
theorem dX10_canServe_136 : decode cX10_canServe 136 = .ok (.invokevirtual 131, 3) := by decide +kernel
theorem dX10_canServe_139 : decode cX10_canServe 139 = .ok (.ifCond .eq 7, 3) := by decide +kernel
theorem dX10_canServe_142 : decode cX10_canServe 142 = .ok (.iconst 1, 1) := by decide +kernel
theorem dX10_canServe_143 : decode cX10_canServe 143 = .ok (.goto 4, 3) := by decide +kernel
theorem dX10_canServe_146 : decode cX10_canServe 146 = .ok (.iconst 0, 1) := by decide +kernel
theorem dX10_canServe_147 : decode cX10_canServe 147 = .ok (.ireturn, 1) := by decide +kernel
theorem dX10_serves_0 : decode cX10_serves 0 = .ok (.iconst 0, 1) := by decide +kernel
theorem dX10_serves_1 : decode cX10_serves 1 = .ok (.istore_n 3, 1) := by decide +kernel
theorem dX10_serves_2 : decode cX10_serves 2 = .ok (.iconst 0, 1) := by decide +kernel
theorem dX10_serves_3 : decode cX10_serves 3 = .ok (.istore 4, 2) := by decide +kernel
theorem dX10_serves_5 : decode cX10_serves 5 = .ok (.iload 4, 2) := by decide +kernel
theorem dX10_serves_7 : decode cX10_serves 7 = .ok (.aload_n 0, 1) := by decide +kernel
theorem dX10_serves_8 : decode cX10_serves 8 = .ok (.getfield 108, 3) := by decide +kernel
theorem dX10_serves_11 : decode cX10_serves 11 = .ok (.if_icmp .ge 31, 3) := by decide +kernel
theorem dX10_serves_14 : decode cX10_serves 14 = .ok (.iload_n 3, 1) := by decide +kernel
theorem dX10_serves_15 : decode cX10_serves 15 = .ok (.aload_n 0, 1) := by decide +kernel
theorem dX10_serves_16 : decode cX10_serves 16 = .ok (.iload_n 1, 1) := by decide +kernel
theorem dX10_serves_17 : decode cX10_serves 17 = .ok (.iload_n 2, 1) := by decide +kernel
theorem dX10_serves_18 : decode cX10_serves 18 = .ok (.iload 4, 2) := by decide +kernel
theorem dX10_serves_20 : decode cX10_serves 20 = .ok (.invokevirtual 145, 3) := by decide +kernel
theorem dX10_serves_23 : decode cX10_serves 23 = .ok (.ifCond .eq 10, 3) := by decide +kernel
theorem dX10_serves_26 : decode cX10_serves 26 = .ok (.iconst 1, 1) := by decide +kernel
theorem dX10_serves_27 : decode cX10_serves 27 = .ok (.iload 4, 2) := by decide +kernel
theorem dX10_serves_29 : decode cX10_serves 29 = .ok (.ishl, 1) := by decide +kernel
theorem dX10_serves_30 : decode cX10_serves 30 = .ok (.goto 4, 3) := by decide +kernel
theorem dX10_serves_33 : decode cX10_serves 33 = .ok (.iconst 0, 1) := by decide +kernel
theorem dX10_serves_34 : decode cX10_serves 34 = .ok (.ior, 1) := by decide +kernel
theorem dX10_serves_35 : decode cX10_serves 35 = .ok (.istore_n 3, 1) := by decide +kernel
theorem dX10_serves_36 : decode cX10_serves 36 = .ok (.iinc 4 1, 3) := by decide +kernel
theorem dX10_serves_39 : decode cX10_serves 39 = .ok (.goto (-34), 3) := by decide +kernel
theorem dX10_serves_42 : decode cX10_serves 42 = .ok (.iload_n 3, 1) := by decide +kernel
theorem dX10_serves_43 : decode cX10_serves 43 = .ok (.ireturn, 1) := by decide +kernel
theorem dX10_fallsOn_0 : decode cX10_fallsOn 0 = .ok (.iconst 0, 1) := by decide +kernel
theorem dX10_fallsOn_1 : decode cX10_fallsOn 1 = .ok (.istore_n 2, 1) := by decide +kernel
theorem dX10_fallsOn_2 : decode cX10_fallsOn 2 = .ok (.iconst 0, 1) := by decide +kernel
theorem dX10_fallsOn_3 : decode cX10_fallsOn 3 = .ok (.istore_n 3, 1) := by decide +kernel
theorem dX10_fallsOn_4 : decode cX10_fallsOn 4 = .ok (.iload_n 3, 1) := by decide +kernel
theorem dX10_fallsOn_5 : decode cX10_fallsOn 5 = .ok (.aload_n 0, 1) := by decide +kernel
theorem dX10_fallsOn_6 : decode cX10_fallsOn 6 = .ok (.getfield 108, 3) := by decide +kernel
theorem dX10_fallsOn_9 : decode cX10_fallsOn 9 = .ok (.if_icmp .ge 29, 3) := by decide +kernel
theorem dX10_fallsOn_12 : decode cX10_fallsOn 12 = .ok (.iload_n 2, 1) := by decide +kernel
theorem dX10_fallsOn_13 : decode cX10_fallsOn 13 = .ok (.aload_n 0, 1) := by decide +kernel
theorem dX10_fallsOn_14 : decode cX10_fallsOn 14 = .ok (.iconst 0, 1) := by decide +kernel
theorem dX10_fallsOn_15 : decode cX10_fallsOn 15 = .ok (.iload_n 1, 1) := by decide +kernel
theorem dX10_fallsOn_16 : decode cX10_fallsOn 16 = .ok (.iload_n 3, 1) := by decide +kernel
theorem dX10_fallsOn_17 : decode cX10_fallsOn 17 = .ok (.invokevirtual 149, 3) := by decide +kernel
theorem dX10_fallsOn_20 : decode cX10_fallsOn 20 = .ok (.ifCond .eq 9, 3) := by decide +kernel
theorem dX10_fallsOn_23 : decode cX10_fallsOn 23 = .ok (.iconst 1, 1) := by decide +kernel
theorem dX10_fallsOn_24 : decode cX10_fallsOn 24 = .ok (.iload_n 3, 1) := by decide +kernel
theorem dX10_fallsOn_25 : decode cX10_fallsOn 25 = .ok (.ishl, 1) := by decide +kernel
theorem dX10_fallsOn_26 : decode cX10_fallsOn 26 = .ok (.goto 4, 3) := by decide +kernel
theorem dX10_fallsOn_29 : decode cX10_fallsOn 29 = .ok (.iconst 0, 1) := by decide +kernel
theorem dX10_fallsOn_30 : decode cX10_fallsOn 30 = .ok (.ior, 1) := by decide +kernel
theorem dX10_fallsOn_31 : decode cX10_fallsOn 31 = .ok (.istore_n 2, 1) := by decide +kernel
theorem dX10_fallsOn_32 : decode cX10_fallsOn 32 = .ok (.iinc 3 1, 3) := by decide +kernel
theorem dX10_fallsOn_35 : decode cX10_fallsOn 35 = .ok (.goto (-31), 3) := by decide +kernel
theorem dX10_fallsOn_38 : decode cX10_fallsOn 38 = .ok (.iload_n 2, 1) := by decide +kernel
theorem dX10_fallsOn_39 : decode cX10_fallsOn 39 = .ok (.ireturn, 1) := by decide +kernel
theorem dX10_owedBy_0 : decode cX10_owedBy 0 = .ok (.iconst 0, 1) := by decide +kernel
theorem dX10_owedBy_1 : decode cX10_owedBy 1 = .ok (.istore_n 3, 1) := by decide +kernel
theorem dX10_owedBy_2 : decode cX10_owedBy 2 = .ok (.iconst 0, 1) := by decide +kernel
theorem dX10_owedBy_3 : decode cX10_owedBy 3 = .ok (.istore 4, 2) := by decide +kernel
theorem dX10_owedBy_5 : decode cX10_owedBy 5 = .ok (.iload 4, 2) := by decide +kernel
theorem dX10_owedBy_7 : decode cX10_owedBy 7 = .ok (.aload_n 0, 1) := by decide +kernel
theorem dX10_owedBy_8 : decode cX10_owedBy 8 = .ok (.getfield 108, 3) := by decide +kernel
theorem dX10_owedBy_11 : decode cX10_owedBy 11 = .ok (.if_icmp .ge 32, 3) := by decide +kernel
theorem dX10_owedBy_14 : decode cX10_owedBy 14 = .ok (.iload_n 3, 1) := by decide +kernel
theorem dX10_owedBy_15 : decode cX10_owedBy 15 = .ok (.iload_n 2, 1) := by decide +kernel
theorem dX10_owedBy_16 : decode cX10_owedBy 16 = .ok (.iload 4, 2) := by decide +kernel
theorem dX10_owedBy_18 : decode cX10_owedBy 18 = .ok (.invokestatic 114, 3) := by decide +kernel
theorem dX10_owedBy_21 : decode cX10_owedBy 21 = .ok (.ifCond .eq 13, 3) := by decide +kernel
theorem dX10_owedBy_24 : decode cX10_owedBy 24 = .ok (.aload_n 0, 1) := by decide +kernel
theorem dX10_owedBy_25 : decode cX10_owedBy 25 = .ok (.iload_n 1, 1) := by decide +kernel
theorem dX10_owedBy_26 : decode cX10_owedBy 26 = .ok (.iload 4, 2) := by decide +kernel
theorem dX10_owedBy_28 : decode cX10_owedBy 28 = .ok (.invokevirtual 125, 3) := by decide +kernel
theorem dX10_owedBy_31 : decode cX10_owedBy 31 = .ok (.goto 4, 3) := by decide +kernel
theorem dX10_owedBy_34 : decode cX10_owedBy 34 = .ok (.iconst 0, 1) := by decide +kernel
theorem dX10_owedBy_35 : decode cX10_owedBy 35 = .ok (.iadd, 1) := by decide +kernel
theorem dX10_owedBy_36 : decode cX10_owedBy 36 = .ok (.istore_n 3, 1) := by decide +kernel
theorem dX10_owedBy_37 : decode cX10_owedBy 37 = .ok (.iinc 4 1, 3) := by decide +kernel
theorem dX10_owedBy_40 : decode cX10_owedBy 40 = .ok (.goto (-35), 3) := by decide +kernel
theorem dX10_owedBy_43 : decode cX10_owedBy 43 = .ok (.iload_n 3, 1) := by decide +kernel
theorem dX10_owedBy_44 : decode cX10_owedBy 44 = .ok (.ireturn, 1) := by decide +kernel
theorem dX10_mostOn_0 : decode cX10_mostOn 0 = .ok (.iconst 0, 1) := by decide +kernel
theorem dX10_mostOn_1 : decode cX10_mostOn 1 = .ok (.istore_n 2, 1) := by decide +kernel
theorem dX10_mostOn_2 : decode cX10_mostOn 2 = .ok (.iload_n 2, 1) := by decide +kernel
theorem dX10_mostOn_3 : decode cX10_mostOn 3 = .ok (.aload_n 0, 1) := by decide +kernel
theorem dX10_mostOn_4 : decode cX10_mostOn 4 = .ok (.getfield 105, 3) := by decide +kernel
theorem dX10_mostOn_7 : decode cX10_mostOn 7 = .ok (.if_icmp .ge 36, 3) := by decide +kernel
theorem dX10_mostOn_10 : decode cX10_mostOn 10 = .ok (.aload_n 0, 1) := by decide +kernel
theorem dX10_mostOn_11 : decode cX10_mostOn 11 = .ok (.getfield 47, 3) := by decide +kernel
theorem dX10_mostOn_14 : decode cX10_mostOn 14 = .ok (.iload_n 2, 1) := by decide +kernel
theorem dX10_mostOn_15 : decode cX10_mostOn 15 = .ok (.aload_n 0, 1) := by decide +kernel
theorem dX10_mostOn_16 : decode cX10_mostOn 16 = .ok (.getfield 43, 3) := by decide +kernel
theorem dX10_mostOn_19 : decode cX10_mostOn 19 = .ok (.iload_n 2, 1) := by decide +kernel
theorem dX10_mostOn_20 : decode cX10_mostOn 20 = .ok (.invokestatic 114, 3) := by decide +kernel
theorem dX10_mostOn_23 : decode cX10_mostOn 23 = .ok (.ifCond .eq 12, 3) := by decide +kernel
theorem dX10_mostOn_26 : decode cX10_mostOn 26 = .ok (.aload_n 0, 1) := by decide +kernel
theorem dX10_mostOn_27 : decode cX10_mostOn 27 = .ok (.iload_n 1, 1) := by decide +kernel
theorem dX10_mostOn_28 : decode cX10_mostOn 28 = .ok (.iload_n 2, 1) := by decide +kernel
theorem dX10_mostOn_29 : decode cX10_mostOn 29 = .ok (.invokevirtual 152, 3) := by decide +kernel
theorem dX10_mostOn_32 : decode cX10_mostOn 32 = .ok (.goto 4, 3) := by decide +kernel
theorem dX10_mostOn_35 : decode cX10_mostOn 35 = .ok (.iconst 0, 1) := by decide +kernel
theorem dX10_mostOn_36 : decode cX10_mostOn 36 = .ok (.iastore, 1) := by decide +kernel
theorem dX10_mostOn_37 : decode cX10_mostOn 37 = .ok (.iinc 2 1, 3) := by decide +kernel
theorem dX10_mostOn_40 : decode cX10_mostOn 40 = .ok (.goto (-38), 3) := by decide +kernel
theorem dX10_mostOn_43 : decode cX10_mostOn 43 = .ok (.aload_n 0, 1) := by decide +kernel
theorem dX10_mostOn_44 : decode cX10_mostOn 44 = .ok (.iload_n 1, 1) := by decide +kernel
theorem dX10_mostOn_45 : decode cX10_mostOn 45 = .ok (.invokevirtual 155, 3) := by decide +kernel
theorem dX10_mostOn_48 : decode cX10_mostOn 48 = .ok (.istore_n 2, 1) := by decide +kernel
theorem dX10_mostOn_49 : decode cX10_mostOn 49 = .ok (.iconst 0, 1) := by decide +kernel
theorem dX10_mostOn_50 : decode cX10_mostOn 50 = .ok (.istore_n 3, 1) := by decide +kernel
theorem dX10_mostOn_51 : decode cX10_mostOn 51 = .ok (.iload_n 3, 1) := by decide +kernel
theorem dX10_mostOn_52 : decode cX10_mostOn 52 = .ok (.iconst 1, 1) := by decide +kernel
theorem dX10_mostOn_53 : decode cX10_mostOn 53 = .ok (.aload_n 0, 1) := by decide +kernel
theorem dX10_mostOn_54 : decode cX10_mostOn 54 = .ok (.getfield 105, 3) := by decide +kernel
theorem dX10_mostOn_57 : decode cX10_mostOn 57 = .ok (.ishl, 1) := by decide +kernel
theorem dX10_mostOn_58 : decode cX10_mostOn 58 = .ok (.if_icmp .ge 110, 3) := by decide +kernel
theorem dX10_mostOn_61 : decode cX10_mostOn 61 = .ok (.iconst 0, 1) := by decide +kernel
theorem dX10_mostOn_62 : decode cX10_mostOn 62 = .ok (.istore 4, 2) := by decide +kernel
theorem dX10_mostOn_64 : decode cX10_mostOn 64 = .ok (.iconst 0, 1) := by decide +kernel
theorem dX10_mostOn_65 : decode cX10_mostOn 65 = .ok (.istore 5, 2) := by decide +kernel
theorem dX10_mostOn_67 : decode cX10_mostOn 67 = .ok (.iconst 0, 1) := by decide +kernel
theorem dX10_mostOn_68 : decode cX10_mostOn 68 = .ok (.istore 6, 2) := by decide +kernel
theorem dX10_mostOn_70 : decode cX10_mostOn 70 = .ok (.iload 6, 2) := by decide +kernel
theorem dX10_mostOn_72 : decode cX10_mostOn 72 = .ok (.aload_n 0, 1) := by decide +kernel
theorem dX10_mostOn_73 : decode cX10_mostOn 73 = .ok (.getfield 105, 3) := by decide +kernel
theorem dX10_mostOn_76 : decode cX10_mostOn 76 = .ok (.if_icmp .ge 71, 3) := by decide +kernel
theorem dX10_mostOn_79 : decode cX10_mostOn 79 = .ok (.iload 4, 2) := by decide +kernel
theorem dX10_mostOn_81 : decode cX10_mostOn 81 = .ok (.iload_n 3, 1) := by decide +kernel
theorem dX10_mostOn_82 : decode cX10_mostOn 82 = .ok (.iload 6, 2) := by decide +kernel
theorem dX10_mostOn_84 : decode cX10_mostOn 84 = .ok (.invokestatic 114, 3) := by decide +kernel
theorem dX10_mostOn_87 : decode cX10_mostOn 87 = .ok (.ifCond .eq 25, 3) := by decide +kernel
theorem dX10_mostOn_90 : decode cX10_mostOn 90 = .ok (.aload_n 0, 1) := by decide +kernel
theorem dX10_mostOn_91 : decode cX10_mostOn 91 = .ok (.getfield 43, 3) := by decide +kernel
theorem dX10_mostOn_94 : decode cX10_mostOn 94 = .ok (.iload 6, 2) := by decide +kernel
theorem dX10_mostOn_96 : decode cX10_mostOn 96 = .ok (.invokestatic 114, 3) := by decide +kernel
theorem dX10_mostOn_99 : decode cX10_mostOn 99 = .ok (.ifCond .eq 13, 3) := by decide +kernel
theorem dX10_mostOn_102 : decode cX10_mostOn 102 = .ok (.aload_n 0, 1) := by decide +kernel
theorem dX10_mostOn_103 : decode cX10_mostOn 103 = .ok (.iload_n 1, 1) := by decide +kernel
theorem dX10_mostOn_104 : decode cX10_mostOn 104 = .ok (.iload 6, 2) := by decide +kernel
theorem dX10_mostOn_106 : decode cX10_mostOn 106 = .ok (.invokevirtual 128, 3) := by decide +kernel
theorem dX10_mostOn_109 : decode cX10_mostOn 109 = .ok (.goto 4, 3) := by decide +kernel
theorem dX10_mostOn_112 : decode cX10_mostOn 112 = .ok (.iconst 0, 1) := by decide +kernel
theorem dX10_mostOn_113 : decode cX10_mostOn 113 = .ok (.iadd, 1) := by decide +kernel
theorem dX10_mostOn_114 : decode cX10_mostOn 114 = .ok (.istore 4, 2) := by decide +kernel
theorem dX10_mostOn_116 : decode cX10_mostOn 116 = .ok (.iload 5, 2) := by decide +kernel
theorem dX10_mostOn_118 : decode cX10_mostOn 118 = .ok (.iload_n 3, 1) := by decide +kernel
theorem dX10_mostOn_119 : decode cX10_mostOn 119 = .ok (.iload 6, 2) := by decide +kernel
theorem dX10_mostOn_121 : decode cX10_mostOn 121 = .ok (.invokestatic 114, 3) := by decide +kernel
theorem dX10_mostOn_124 : decode cX10_mostOn 124 = .ok (.ifCond .eq 7, 3) := by decide +kernel
theorem dX10_mostOn_127 : decode cX10_mostOn 127 = .ok (.iconst 0, 1) := by decide +kernel
theorem dX10_mostOn_128 : decode cX10_mostOn 128 = .ok (.goto 10, 3) := by decide +kernel
theorem dX10_mostOn_131 : decode cX10_mostOn 131 = .ok (.aload_n 0, 1) := by decide +kernel
theorem dX10_mostOn_132 : decode cX10_mostOn 132 = .ok (.getfield 47, 3) := by decide +kernel
theorem dX10_mostOn_135 : decode cX10_mostOn 135 = .ok (.iload 6, 2) := by decide +kernel
theorem dX10_mostOn_137 : decode cX10_mostOn 137 = .ok (.iaload, 1) := by decide +kernel
theorem dX10_mostOn_138 : decode cX10_mostOn 138 = .ok (.ior, 1) := by decide +kernel
theorem dX10_mostOn_139 : decode cX10_mostOn 139 = .ok (.istore 5, 2) := by decide +kernel
theorem dX10_mostOn_141 : decode cX10_mostOn 141 = .ok (.iinc 6 1, 3) := by decide +kernel
theorem dX10_mostOn_144 : decode cX10_mostOn 144 = .ok (.goto (-74), 3) := by decide +kernel
theorem dX10_mostOn_147 : decode cX10_mostOn 147 = .ok (.iload_n 2, 1) := by decide +kernel
theorem dX10_mostOn_148 : decode cX10_mostOn 148 = .ok (.iload 4, 2) := by decide +kernel
theorem dX10_mostOn_150 : decode cX10_mostOn 150 = .ok (.aload_n 0, 1) := by decide +kernel
theorem dX10_mostOn_151 : decode cX10_mostOn 151 = .ok (.iload_n 1, 1) := by decide +kernel
theorem dX10_mostOn_152 : decode cX10_mostOn 152 = .ok (.iload 5, 2) := by decide +kernel
theorem dX10_mostOn_154 : decode cX10_mostOn 154 = .ok (.invokevirtual 158, 3) := by decide +kernel
theorem dX10_mostOn_157 : decode cX10_mostOn 157 = .ok (.iadd, 1) := by decide +kernel
theorem dX10_mostOn_158 : decode cX10_mostOn 158 = .ok (.invokestatic 161, 3) := by decide +kernel
theorem dX10_mostOn_161 : decode cX10_mostOn 161 = .ok (.istore_n 2, 1) := by decide +kernel
theorem dX10_mostOn_162 : decode cX10_mostOn 162 = .ok (.iinc 3 1, 3) := by decide +kernel
theorem dX10_mostOn_165 : decode cX10_mostOn 165 = .ok (.goto (-114), 3) := by decide +kernel
theorem dX10_mostOn_168 : decode cX10_mostOn 168 = .ok (.iload_n 2, 1) := by decide +kernel
theorem dX10_mostOn_169 : decode cX10_mostOn 169 = .ok (.ireturn, 1) := by decide +kernel
theorem dX10_cloud_0 : decode cX10_cloud 0 = .ok (.aload_n 0, 1) := by decide +kernel
theorem dX10_cloud_1 : decode cX10_cloud 1 = .ok (.iload_n 1, 1) := by decide +kernel
theorem dX10_cloud_2 : decode cX10_cloud 2 = .ok (.invokevirtual 118, 3) := by decide +kernel
theorem dX10_cloud_5 : decode cX10_cloud 5 = .ok (.ifCond .ne 5, 3) := by decide +kernel
theorem dX10_cloud_8 : decode cX10_cloud 8 = .ok (.iconst (-1), 1) := by decide +kernel
theorem dX10_cloud_9 : decode cX10_cloud 9 = .ok (.ireturn, 1) := by decide +kernel
theorem dX10_cloud_10 : decode cX10_cloud 10 = .ok (.iload_n 2, 1) := by decide +kernel
theorem dX10_cloud_11 : decode cX10_cloud 11 = .ok (.tableswitch 80 0 5 #[37, 44, 53, 60, 67, 73], 37) := by decide +kernel
theorem dX10_cloud_48 : decode cX10_cloud 48 = .ok (.aload_n 0, 1) := by decide +kernel
theorem dX10_cloud_49 : decode cX10_cloud 49 = .ok (.getfield 28, 3) := by decide +kernel
theorem dX10_cloud_52 : decode cX10_cloud 52 = .ok (.iload_n 1, 1) := by decide +kernel
theorem dX10_cloud_53 : decode cX10_cloud 53 = .ok (.iaload, 1) := by decide +kernel
theorem dX10_cloud_54 : decode cX10_cloud 54 = .ok (.ireturn, 1) := by decide +kernel
theorem dX10_cloud_55 : decode cX10_cloud 55 = .ok (.aload_n 0, 1) := by decide +kernel
theorem dX10_cloud_56 : decode cX10_cloud 56 = .ok (.getfield 28, 3) := by decide +kernel
theorem dX10_cloud_59 : decode cX10_cloud 59 = .ok (.iconst 4, 1) := by decide +kernel
theorem dX10_cloud_60 : decode cX10_cloud 60 = .ok (.iload_n 1, 1) := by decide +kernel
theorem dX10_cloud_61 : decode cX10_cloud 61 = .ok (.iadd, 1) := by decide +kernel
theorem dX10_cloud_62 : decode cX10_cloud 62 = .ok (.iaload, 1) := by decide +kernel
theorem dX10_cloud_63 : decode cX10_cloud 63 = .ok (.ireturn, 1) := by decide +kernel
theorem dX10_cloud_64 : decode cX10_cloud 64 = .ok (.aload_n 0, 1) := by decide +kernel
theorem dX10_cloud_65 : decode cX10_cloud 65 = .ok (.getfield 13, 3) := by decide +kernel
theorem dX10_cloud_68 : decode cX10_cloud 68 = .ok (.iload_n 1, 1) := by decide +kernel
theorem dX10_cloud_69 : decode cX10_cloud 69 = .ok (.iaload, 1) := by decide +kernel
theorem dX10_cloud_70 : decode cX10_cloud 70 = .ok (.ireturn, 1) := by decide +kernel
theorem dX10_cloud_71 : decode cX10_cloud 71 = .ok (.aload_n 0, 1) := by decide +kernel
theorem dX10_cloud_72 : decode cX10_cloud 72 = .ok (.iconst 0, 1) := by decide +kernel
theorem dX10_cloud_73 : decode cX10_cloud 73 = .ok (.iload_n 1, 1) := by decide +kernel
theorem dX10_cloud_74 : decode cX10_cloud 74 = .ok (.invokevirtual 128, 3) := by decide +kernel
theorem dX10_cloud_77 : decode cX10_cloud 77 = .ok (.ireturn, 1) := by decide +kernel
theorem dX10_cloud_78 : decode cX10_cloud 78 = .ok (.aload_n 0, 1) := by decide +kernel
theorem dX10_cloud_79 : decode cX10_cloud 79 = .ok (.iload_n 1, 1) := by decide +kernel
theorem dX10_cloud_80 : decode cX10_cloud 80 = .ok (.invokevirtual 164, 3) := by decide +kernel
theorem dX10_cloud_83 : decode cX10_cloud 83 = .ok (.ireturn, 1) := by decide +kernel
theorem dX10_cloud_84 : decode cX10_cloud 84 = .ok (.aload_n 0, 1) := by decide +kernel
theorem dX10_cloud_85 : decode cX10_cloud 85 = .ok (.iconst 0, 1) := by decide +kernel
theorem dX10_cloud_86 : decode cX10_cloud 86 = .ok (.iload_n 1, 1) := by decide +kernel
theorem dX10_cloud_87 : decode cX10_cloud 87 = .ok (.invokevirtual 152, 3) := by decide +kernel
theorem dX10_cloud_90 : decode cX10_cloud 90 = .ok (.ireturn, 1) := by decide +kernel
theorem dX10_cloud_91 : decode cX10_cloud 91 = .ok (.bipush (-2), 2) := by decide +kernel
theorem dX10_cloud_93 : decode cX10_cloud 93 = .ok (.ireturn, 1) := by decide +kernel
theorem dX10_paper_0 : decode cX10_paper 0 = .ok (.aload_n 0, 1) := by decide +kernel
theorem dX10_paper_1 : decode cX10_paper 1 = .ok (.iload_n 1, 1) := by decide +kernel
theorem dX10_paper_2 : decode cX10_paper 2 = .ok (.invokevirtual 122, 3) := by decide +kernel
theorem dX10_paper_5 : decode cX10_paper 5 = .ok (.ifCond .ne 5, 3) := by decide +kernel
theorem dX10_paper_8 : decode cX10_paper 8 = .ok (.iconst (-1), 1) := by decide +kernel
theorem dX10_paper_9 : decode cX10_paper 9 = .ok (.ireturn, 1) := by decide +kernel
theorem dX10_paper_10 : decode cX10_paper 10 = .ok (.iload_n 2, 1) := by decide +kernel
theorem dX10_paper_11 : decode cX10_paper 11 = .ok (.tableswitch 87 0 5 #[37, 44, 51, 58, 68, 75], 37) := by decide +kernel
theorem dX10_paper_48 : decode cX10_paper 48 = .ok (.aload_n 0, 1) := by decide +kernel
theorem dX10_paper_49 : decode cX10_paper 49 = .ok (.getfield 16, 3) := by decide +kernel
theorem dX10_paper_52 : decode cX10_paper 52 = .ok (.iload_n 1, 1) := by decide +kernel
theorem dX10_paper_53 : decode cX10_paper 53 = .ok (.iaload, 1) := by decide +kernel
theorem dX10_paper_54 : decode cX10_paper 54 = .ok (.ireturn, 1) := by decide +kernel
theorem dX10_paper_55 : decode cX10_paper 55 = .ok (.aload_n 0, 1) := by decide +kernel
theorem dX10_paper_56 : decode cX10_paper 56 = .ok (.getfield 19, 3) := by decide +kernel
theorem dX10_paper_59 : decode cX10_paper 59 = .ok (.iload_n 1, 1) := by decide +kernel
theorem dX10_paper_60 : decode cX10_paper 60 = .ok (.iaload, 1) := by decide +kernel
theorem dX10_paper_61 : decode cX10_paper 61 = .ok (.ireturn, 1) := by decide +kernel
theorem dX10_paper_62 : decode cX10_paper 62 = .ok (.aload_n 0, 1) := by decide +kernel
theorem dX10_paper_63 : decode cX10_paper 63 = .ok (.getfield 25, 3) := by decide +kernel
theorem dX10_paper_66 : decode cX10_paper 66 = .ok (.iload_n 1, 1) := by decide +kernel
theorem dX10_paper_67 : decode cX10_paper 67 = .ok (.iaload, 1) := by decide +kernel
theorem dX10_paper_68 : decode cX10_paper 68 = .ok (.ireturn, 1) := by decide +kernel
theorem dX10_paper_69 : decode cX10_paper 69 = .ok (.aload_n 0, 1) := by decide +kernel
theorem dX10_paper_70 : decode cX10_paper 70 = .ok (.getfield 28, 3) := by decide +kernel
theorem dX10_paper_73 : decode cX10_paper 73 = .ok (.bipush 8, 2) := by decide +kernel
theorem dX10_paper_75 : decode cX10_paper 75 = .ok (.iload_n 1, 1) := by decide +kernel
theorem dX10_paper_76 : decode cX10_paper 76 = .ok (.iadd, 1) := by decide +kernel
theorem dX10_paper_77 : decode cX10_paper 77 = .ok (.iaload, 1) := by decide +kernel
theorem dX10_paper_78 : decode cX10_paper 78 = .ok (.ireturn, 1) := by decide +kernel
theorem dX10_paper_79 : decode cX10_paper 79 = .ok (.aload_n 0, 1) := by decide +kernel
theorem dX10_paper_80 : decode cX10_paper 80 = .ok (.iconst 0, 1) := by decide +kernel
theorem dX10_paper_81 : decode cX10_paper 81 = .ok (.iload_n 1, 1) := by decide +kernel
theorem dX10_paper_82 : decode cX10_paper 82 = .ok (.invokevirtual 125, 3) := by decide +kernel
theorem dX10_paper_85 : decode cX10_paper 85 = .ok (.ireturn, 1) := by decide +kernel
theorem dX10_paper_86 : decode cX10_paper 86 = .ok (.aload_n 0, 1) := by decide +kernel
theorem dX10_paper_87 : decode cX10_paper 87 = .ok (.getfield 28, 3) := by decide +kernel
theorem dX10_paper_90 : decode cX10_paper 90 = .ok (.bipush 13, 2) := by decide +kernel
theorem dX10_paper_92 : decode cX10_paper 92 = .ok (.iaload, 1) := by decide +kernel
theorem dX10_paper_93 : decode cX10_paper 93 = .ok (.iload_n 1, 1) := by decide +kernel
theorem dX10_paper_94 : decode cX10_paper 94 = .ok (.ishr, 1) := by decide +kernel
theorem dX10_paper_95 : decode cX10_paper 95 = .ok (.iconst 1, 1) := by decide +kernel
theorem dX10_paper_96 : decode cX10_paper 96 = .ok (.iand, 1) := by decide +kernel
theorem dX10_paper_97 : decode cX10_paper 97 = .ok (.ireturn, 1) := by decide +kernel
theorem dX10_paper_98 : decode cX10_paper 98 = .ok (.bipush (-2), 2) := by decide +kernel
theorem dX10_paper_100 : decode cX10_paper 100 = .ok (.ireturn, 1) := by decide +kernel
theorem dX10_keepAct_0 : decode cX10_keepAct 0 = .ok (.iconst 0, 1) := by decide +kernel
theorem dX10_keepAct_1 : decode cX10_keepAct 1 = .ok (.istore_n 1, 1) := by decide +kernel
theorem dX10_keepAct_2 : decode cX10_keepAct 2 = .ok (.iload_n 1, 1) := by decide +kernel
theorem dX10_keepAct_3 : decode cX10_keepAct 3 = .ok (.bipush 16, 2) := by decide +kernel
theorem dX10_keepAct_5 : decode cX10_keepAct 5 = .ok (.if_icmp .ge 29, 3) := by decide +kernel
theorem dX10_keepAct_8 : decode cX10_keepAct 8 = .ok (.aload_n 0, 1) := by decide +kernel
theorem dX10_keepAct_9 : decode cX10_keepAct 9 = .ok (.getfield 50, 3) := by decide +kernel
theorem dX10_keepAct_12 : decode cX10_keepAct 12 = .ok (.bipush 16, 2) := by decide +kernel
theorem dX10_keepAct_14 : decode cX10_keepAct 14 = .ok (.aload_n 0, 1) := by decide +kernel
theorem dX10_keepAct_15 : decode cX10_keepAct 15 = .ok (.getfield 167, 3) := by decide +kernel
theorem dX10_keepAct_18 : decode cX10_keepAct 18 = .ok (.imul, 1) := by decide +kernel
theorem dX10_keepAct_19 : decode cX10_keepAct 19 = .ok (.iload_n 1, 1) := by decide +kernel
theorem dX10_keepAct_20 : decode cX10_keepAct 20 = .ok (.iadd, 1) := by decide +kernel
theorem dX10_keepAct_21 : decode cX10_keepAct 21 = .ok (.aload_n 0, 1) := by decide +kernel
theorem dX10_keepAct_22 : decode cX10_keepAct 22 = .ok (.getfield 28, 3) := by decide +kernel
theorem dX10_keepAct_25 : decode cX10_keepAct 25 = .ok (.iload_n 1, 1) := by decide +kernel
theorem dX10_keepAct_26 : decode cX10_keepAct 26 = .ok (.iaload, 1) := by decide +kernel
theorem dX10_keepAct_27 : decode cX10_keepAct 27 = .ok (.iastore, 1) := by decide +kernel
theorem dX10_keepAct_28 : decode cX10_keepAct 28 = .ok (.iinc 1 1, 3) := by decide +kernel
theorem dX10_keepAct_31 : decode cX10_keepAct 31 = .ok (.goto (-29), 3) := by decide +kernel
theorem dX10_keepAct_34 : decode cX10_keepAct 34 = .ok (.aload_n 0, 1) := by decide +kernel
theorem dX10_keepAct_35 : decode cX10_keepAct 35 = .ok (.aload_n 0, 1) := by decide +kernel
theorem dX10_keepAct_36 : decode cX10_keepAct 36 = .ok (.getfield 167, 3) := by decide +kernel
theorem dX10_keepAct_39 : decode cX10_keepAct 39 = .ok (.iconst 1, 1) := by decide +kernel
theorem dX10_keepAct_40 : decode cX10_keepAct 40 = .ok (.iadd, 1) := by decide +kernel
theorem dX10_keepAct_41 : decode cX10_keepAct 41 = .ok (.bipush 14, 2) := by decide +kernel
theorem dX10_keepAct_43 : decode cX10_keepAct 43 = .ok (.irem, 1) := by decide +kernel
theorem dX10_keepAct_44 : decode cX10_keepAct 44 = .ok (.putfield 167, 3) := by decide +kernel
theorem dX10_keepAct_47 : decode cX10_keepAct 47 = .ok (.aload_n 0, 1) := by decide +kernel
theorem dX10_keepAct_48 : decode cX10_keepAct 48 = .ok (.aload_n 0, 1) := by decide +kernel
theorem dX10_keepAct_49 : decode cX10_keepAct 49 = .ok (.getfield 111, 3) := by decide +kernel
theorem dX10_keepAct_52 : decode cX10_keepAct 52 = .ok (.bipush 14, 2) := by decide +kernel
theorem dX10_keepAct_54 : decode cX10_keepAct 54 = .ok (.if_icmp .ge 12, 3) := by decide +kernel
theorem dX10_keepAct_57 : decode cX10_keepAct 57 = .ok (.aload_n 0, 1) := by decide +kernel
theorem dX10_keepAct_58 : decode cX10_keepAct 58 = .ok (.getfield 111, 3) := by decide +kernel
theorem dX10_keepAct_61 : decode cX10_keepAct 61 = .ok (.iconst 1, 1) := by decide +kernel
theorem dX10_keepAct_62 : decode cX10_keepAct 62 = .ok (.iadd, 1) := by decide +kernel
theorem dX10_keepAct_63 : decode cX10_keepAct 63 = .ok (.goto 5, 3) := by decide +kernel
theorem dX10_keepAct_66 : decode cX10_keepAct 66 = .ok (.bipush 14, 2) := by decide +kernel
theorem dX10_keepAct_68 : decode cX10_keepAct 68 = .ok (.putfield 111, 3) := by decide +kernel
theorem dX10_keepAct_71 : decode cX10_keepAct 71 = .ok (.return_, 1) := by decide +kernel
theorem dX10_day_0 : decode cX10_day 0 = .ok (.aload_n 0, 1) := by decide +kernel
theorem dX10_day_1 : decode cX10_day 1 = .ok (.invokevirtual 170, 3) := by decide +kernel
theorem dX10_day_4 : decode cX10_day 4 = .ok (.aload_n 0, 1) := by decide +kernel
theorem dX10_day_5 : decode cX10_day 5 = .ok (.iconst 0, 1) := by decide +kernel
theorem dX10_day_6 : decode cX10_day 6 = .ok (.iconst 1, 1) := by decide +kernel
theorem dX10_day_7 : decode cX10_day 7 = .ok (.invokevirtual 173, 3) := by decide +kernel
theorem dX10_day_10 : decode cX10_day 10 = .ok (.ireturn, 1) := by decide +kernel
theorem dX10_fall_0 : decode cX10_fall 0 = .ok (.aload_n 0, 1) := by decide +kernel
theorem dX10_fall_1 : decode cX10_fall 1 = .ok (.iload_n 1, 1) := by decide +kernel
theorem dX10_fall_2 : decode cX10_fall 2 = .ok (.invokevirtual 118, 3) := by decide +kernel
theorem dX10_fall_5 : decode cX10_fall 5 = .ok (.ifCond .eq 11, 3) := by decide +kernel
theorem dX10_fall_8 : decode cX10_fall 8 = .ok (.aload_n 0, 1) := by decide +kernel
theorem dX10_fall_9 : decode cX10_fall 9 = .ok (.iload_n 2, 1) := by decide +kernel
theorem dX10_fall_10 : decode cX10_fall 10 = .ok (.invokevirtual 122, 3) := by decide +kernel
theorem dX10_fall_13 : decode cX10_fall 13 = .ok (.ifCond .ne 5, 3) := by decide +kernel
theorem dX10_fall_16 : decode cX10_fall 16 = .ok (.iconst (-1), 1) := by decide +kernel
theorem dX10_fall_17 : decode cX10_fall 17 = .ok (.ireturn, 1) := by decide +kernel
theorem dX10_fall_18 : decode cX10_fall 18 = .ok (.aload_n 0, 1) := by decide +kernel
theorem dX10_fall_19 : decode cX10_fall 19 = .ok (.iconst 0, 1) := by decide +kernel
theorem dX10_fall_20 : decode cX10_fall 20 = .ok (.iload_n 1, 1) := by decide +kernel
theorem dX10_fall_21 : decode cX10_fall 21 = .ok (.iload_n 2, 1) := by decide +kernel
theorem dX10_fall_22 : decode cX10_fall 22 = .ok (.invokevirtual 149, 3) := by decide +kernel
theorem dX10_fall_25 : decode cX10_fall 25 = .ok (.ifCond .ne 6, 3) := by decide +kernel
theorem dX10_fall_28 : decode cX10_fall 28 = .ok (.bipush (-3), 2) := by decide +kernel
theorem dX10_fall_30 : decode cX10_fall 30 = .ok (.ireturn, 1) := by decide +kernel
theorem dX10_fall_31 : decode cX10_fall 31 = .ok (.aload_n 0, 1) := by decide +kernel
theorem dX10_fall_32 : decode cX10_fall 32 = .ok (.invokevirtual 170, 3) := by decide +kernel
theorem dX10_fall_35 : decode cX10_fall 35 = .ok (.aload_n 0, 1) := by decide +kernel
theorem dX10_fall_36 : decode cX10_fall 36 = .ok (.iconst 0, 1) := by decide +kernel
theorem dX10_fall_37 : decode cX10_fall 37 = .ok (.iload_n 1, 1) := by decide +kernel
theorem dX10_fall_38 : decode cX10_fall 38 = .ok (.iload_n 2, 1) := by decide +kernel
theorem dX10_fall_39 : decode cX10_fall 39 = .ok (.invokevirtual 177, 3) := by decide +kernel
theorem dX10_fall_42 : decode cX10_fall 42 = .ok (.aload_n 0, 1) := by decide +kernel
theorem dX10_fall_43 : decode cX10_fall 43 = .ok (.iconst 0, 1) := by decide +kernel
theorem dX10_fall_44 : decode cX10_fall 44 = .ok (.iload_n 2, 1) := by decide +kernel
theorem dX10_fall_45 : decode cX10_fall 45 = .ok (.invokevirtual 125, 3) := by decide +kernel
theorem dX10_fall_48 : decode cX10_fall 48 = .ok (.ireturn, 1) := by decide +kernel
theorem dX10_puffOn_0 : decode cX10_puffOn 0 = .ok (.aload_n 0, 1) := by decide +kernel
theorem dX10_puffOn_1 : decode cX10_puffOn 1 = .ok (.getfield 28, 3) := by decide +kernel
theorem dX10_puffOn_4 : decode cX10_puffOn 4 = .ok (.bipush 16, 2) := by decide +kernel
theorem dX10_puffOn_6 : decode cX10_puffOn 6 = .ok (.iload_n 1, 1) := by decide +kernel
theorem dX10_puffOn_7 : decode cX10_puffOn 7 = .ok (.imul, 1) := by decide +kernel
theorem dX10_puffOn_8 : decode cX10_puffOn 8 = .ok (.iload_n 2, 1) := by decide +kernel
theorem dX10_puffOn_9 : decode cX10_puffOn 9 = .ok (.iadd, 1) := by decide +kernel
theorem dX10_puffOn_10 : decode cX10_puffOn 10 = .ok (.aload_n 0, 1) := by decide +kernel
theorem dX10_puffOn_11 : decode cX10_puffOn 11 = .ok (.getfield 28, 3) := by decide +kernel
theorem dX10_puffOn_14 : decode cX10_puffOn 14 = .ok (.bipush 16, 2) := by decide +kernel
theorem dX10_puffOn_16 : decode cX10_puffOn 16 = .ok (.iload_n 1, 1) := by decide +kernel
theorem dX10_puffOn_17 : decode cX10_puffOn 17 = .ok (.imul, 1) := by decide +kernel
theorem dX10_puffOn_18 : decode cX10_puffOn 18 = .ok (.iload_n 2, 1) := by decide +kernel
theorem dX10_puffOn_19 : decode cX10_puffOn 19 = .ok (.iadd, 1) := by decide +kernel
theorem dX10_puffOn_20 : decode cX10_puffOn 20 = .ok (.iaload, 1) := by decide +kernel
theorem dX10_puffOn_21 : decode cX10_puffOn 21 = .ok (.iload_n 3, 1) := by decide +kernel
theorem dX10_puffOn_22 : decode cX10_puffOn 22 = .ok (.ifCond .eq 7, 3) := by decide +kernel
theorem dX10_puffOn_25 : decode cX10_puffOn 25 = .ok (.iconst 1, 1) := by decide +kernel
theorem dX10_puffOn_26 : decode cX10_puffOn 26 = .ok (.goto 4, 3) := by decide +kernel
theorem dX10_puffOn_29 : decode cX10_puffOn 29 = .ok (.iconst 5, 1) := by decide +kernel
theorem dX10_puffOn_30 : decode cX10_puffOn 30 = .ok (.iadd, 1) := by decide +kernel
theorem dX10_puffOn_31 : decode cX10_puffOn 31 = .ok (.bipush 6, 2) := by decide +kernel
theorem dX10_puffOn_33 : decode cX10_puffOn 33 = .ok (.irem, 1) := by decide +kernel
theorem dX10_puffOn_34 : decode cX10_puffOn 34 = .ok (.iastore, 1) := by decide +kernel
theorem dX10_puffOn_35 : decode cX10_puffOn 35 = .ok (.return_, 1) := by decide +kernel
theorem dX10_puff_0 : decode cX10_puff 0 = .ok (.aload_n 0, 1) := by decide +kernel
theorem dX10_puff_1 : decode cX10_puff 1 = .ok (.iload_n 1, 1) := by decide +kernel
theorem dX10_puff_2 : decode cX10_puff 2 = .ok (.invokevirtual 118, 3) := by decide +kernel
theorem dX10_puff_5 : decode cX10_puff 5 = .ok (.ifCond .ne 5, 3) := by decide +kernel
theorem dX10_puff_8 : decode cX10_puff 8 = .ok (.iconst (-1), 1) := by decide +kernel
theorem dX10_puff_9 : decode cX10_puff 9 = .ok (.ireturn, 1) := by decide +kernel
theorem dX10_puff_10 : decode cX10_puff 10 = .ok (.aload_n 0, 1) := by decide +kernel
theorem dX10_puff_11 : decode cX10_puff 11 = .ok (.invokevirtual 170, 3) := by decide +kernel
theorem dX10_puff_14 : decode cX10_puff 14 = .ok (.aload_n 0, 1) := by decide +kernel
theorem dX10_puff_15 : decode cX10_puff 15 = .ok (.iconst 0, 1) := by decide +kernel
theorem dX10_puff_16 : decode cX10_puff 16 = .ok (.iload_n 1, 1) := by decide +kernel
theorem dX10_puff_17 : decode cX10_puff 17 = .ok (.iload_n 2, 1) := by decide +kernel
theorem dX10_puff_18 : decode cX10_puff 18 = .ok (.invokevirtual 181, 3) := by decide +kernel
theorem dX10_puff_21 : decode cX10_puff 21 = .ok (.aload_n 0, 1) := by decide +kernel
theorem dX10_puff_22 : decode cX10_puff 22 = .ok (.getfield 28, 3) := by decide +kernel
theorem dX10_puff_25 : decode cX10_puff 25 = .ok (.iload_n 1, 1) := by decide +kernel
theorem dX10_puff_26 : decode cX10_puff 26 = .ok (.iaload, 1) := by decide +kernel
theorem dX10_puff_27 : decode cX10_puff 27 = .ok (.ireturn, 1) := by decide +kernel
theorem dX10_tearOn_0 : decode cX10_tearOn 0 = .ok (.aload_n 0, 1) := by decide +kernel
theorem dX10_tearOn_1 : decode cX10_tearOn 1 = .ok (.getfield 28, 3) := by decide +kernel
theorem dX10_tearOn_4 : decode cX10_tearOn 4 = .ok (.bipush 16, 2) := by decide +kernel
theorem dX10_tearOn_6 : decode cX10_tearOn 6 = .ok (.iload_n 1, 1) := by decide +kernel
theorem dX10_tearOn_7 : decode cX10_tearOn 7 = .ok (.imul, 1) := by decide +kernel
theorem dX10_tearOn_8 : decode cX10_tearOn 8 = .ok (.bipush 13, 2) := by decide +kernel
theorem dX10_tearOn_10 : decode cX10_tearOn 10 = .ok (.iadd, 1) := by decide +kernel
theorem dX10_tearOn_11 : decode cX10_tearOn 11 = .ok (.dup2, 1) := by decide +kernel
theorem dX10_tearOn_12 : decode cX10_tearOn 12 = .ok (.iaload, 1) := by decide +kernel
theorem dX10_tearOn_13 : decode cX10_tearOn 13 = .ok (.iconst 1, 1) := by decide +kernel
theorem dX10_tearOn_14 : decode cX10_tearOn 14 = .ok (.iload_n 2, 1) := by decide +kernel
theorem dX10_tearOn_15 : decode cX10_tearOn 15 = .ok (.ishl, 1) := by decide +kernel
theorem dX10_tearOn_16 : decode cX10_tearOn 16 = .ok (.ior, 1) := by decide +kernel
theorem dX10_tearOn_17 : decode cX10_tearOn 17 = .ok (.iastore, 1) := by decide +kernel
theorem dX10_tearOn_18 : decode cX10_tearOn 18 = .ok (.aload_n 0, 1) := by decide +kernel
theorem dX10_tearOn_19 : decode cX10_tearOn 19 = .ok (.getfield 28, 3) := by decide +kernel
theorem dX10_tearOn_22 : decode cX10_tearOn 22 = .ok (.bipush 16, 2) := by decide +kernel
theorem dX10_tearOn_24 : decode cX10_tearOn 24 = .ok (.iload_n 1, 1) := by decide +kernel
theorem dX10_tearOn_25 : decode cX10_tearOn 25 = .ok (.imul, 1) := by decide +kernel
theorem dX10_tearOn_26 : decode cX10_tearOn 26 = .ok (.bipush 8, 2) := by decide +kernel
theorem dX10_tearOn_28 : decode cX10_tearOn 28 = .ok (.iadd, 1) := by decide +kernel
theorem dX10_tearOn_29 : decode cX10_tearOn 29 = .ok (.iload_n 2, 1) := by decide +kernel
theorem dX10_tearOn_30 : decode cX10_tearOn 30 = .ok (.iadd, 1) := by decide +kernel
theorem dX10_tearOn_31 : decode cX10_tearOn 31 = .ok (.iconst 0, 1) := by decide +kernel
theorem dX10_tearOn_32 : decode cX10_tearOn 32 = .ok (.iastore, 1) := by decide +kernel
theorem dX10_tearOn_33 : decode cX10_tearOn 33 = .ok (.return_, 1) := by decide +kernel
theorem dX10_tear_0 : decode cX10_tear 0 = .ok (.aload_n 0, 1) := by decide +kernel
theorem dX10_tear_1 : decode cX10_tear 1 = .ok (.iload_n 1, 1) := by decide +kernel
theorem dX10_tear_2 : decode cX10_tear 2 = .ok (.invokevirtual 122, 3) := by decide +kernel
theorem dX10_tear_5 : decode cX10_tear 5 = .ok (.ifCond .ne 5, 3) := by decide +kernel
theorem dX10_tear_8 : decode cX10_tear 8 = .ok (.iconst (-1), 1) := by decide +kernel
theorem dX10_tear_9 : decode cX10_tear 9 = .ok (.ireturn, 1) := by decide +kernel
theorem dX10_tear_10 : decode cX10_tear 10 = .ok (.aload_n 0, 1) := by decide +kernel
theorem dX10_tear_11 : decode cX10_tear 11 = .ok (.getfield 28, 3) := by decide +kernel
theorem dX10_tear_14 : decode cX10_tear 14 = .ok (.bipush 13, 2) := by decide +kernel
theorem dX10_tear_16 : decode cX10_tear 16 = .ok (.iaload, 1) := by decide +kernel
theorem dX10_tear_17 : decode cX10_tear 17 = .ok (.iload_n 1, 1) := by decide +kernel
theorem dX10_tear_18 : decode cX10_tear 18 = .ok (.invokestatic 114, 3) := by decide +kernel
theorem dX10_tear_21 : decode cX10_tear 21 = .ok (.ifCond .eq 6, 3) := by decide +kernel
theorem dX10_tear_24 : decode cX10_tear 24 = .ok (.bipush (-3), 2) := by decide +kernel
theorem dX10_tear_26 : decode cX10_tear 26 = .ok (.ireturn, 1) := by decide +kernel
theorem dX10_tear_27 : decode cX10_tear 27 = .ok (.aload_n 0, 1) := by decide +kernel
theorem dX10_tear_28 : decode cX10_tear 28 = .ok (.invokevirtual 170, 3) := by decide +kernel
theorem dX10_tear_31 : decode cX10_tear 31 = .ok (.aload_n 0, 1) := by decide +kernel
theorem dX10_tear_32 : decode cX10_tear 32 = .ok (.iconst 0, 1) := by decide +kernel
theorem dX10_tear_33 : decode cX10_tear 33 = .ok (.iload_n 1, 1) := by decide +kernel
theorem dX10_tear_34 : decode cX10_tear 34 = .ok (.invokevirtual 125, 3) := by decide +kernel
theorem dX10_tear_37 : decode cX10_tear 37 = .ok (.istore_n 2, 1) := by decide +kernel
theorem dX10_tear_38 : decode cX10_tear 38 = .ok (.aload_n 0, 1) := by decide +kernel
theorem dX10_tear_39 : decode cX10_tear 39 = .ok (.iconst 0, 1) := by decide +kernel
theorem dX10_tear_40 : decode cX10_tear 40 = .ok (.iload_n 1, 1) := by decide +kernel
theorem dX10_tear_41 : decode cX10_tear 41 = .ok (.invokevirtual 185, 3) := by decide +kernel
theorem dX10_tear_44 : decode cX10_tear 44 = .ok (.iload_n 2, 1) := by decide +kernel
theorem dX10_tear_45 : decode cX10_tear 45 = .ok (.ireturn, 1) := by decide +kernel
theorem dX10_undo_0 : decode cX10_undo 0 = .ok (.aload_n 0, 1) := by decide +kernel
theorem dX10_undo_1 : decode cX10_undo 1 = .ok (.getfield 111, 3) := by decide +kernel
theorem dX10_undo_4 : decode cX10_undo 4 = .ok (.ifCond .ne 6, 3) := by decide +kernel
theorem dX10_undo_7 : decode cX10_undo 7 = .ok (.bipush (-3), 2) := by decide +kernel
theorem dX10_undo_9 : decode cX10_undo 9 = .ok (.ireturn, 1) := by decide +kernel
theorem dX10_undo_10 : decode cX10_undo 10 = .ok (.aload_n 0, 1) := by decide +kernel
theorem dX10_undo_11 : decode cX10_undo 11 = .ok (.dup, 1) := by decide +kernel
theorem dX10_undo_12 : decode cX10_undo 12 = .ok (.getfield 111, 3) := by decide +kernel
theorem dX10_undo_15 : decode cX10_undo 15 = .ok (.iconst 1, 1) := by decide +kernel
theorem dX10_undo_16 : decode cX10_undo 16 = .ok (.isub, 1) := by decide +kernel
theorem dX10_undo_17 : decode cX10_undo 17 = .ok (.putfield 111, 3) := by decide +kernel
theorem dX10_undo_20 : decode cX10_undo 20 = .ok (.aload_n 0, 1) := by decide +kernel
theorem dX10_undo_21 : decode cX10_undo 21 = .ok (.aload_n 0, 1) := by decide +kernel
theorem dX10_undo_22 : decode cX10_undo 22 = .ok (.getfield 167, 3) := by decide +kernel
theorem dX10_undo_25 : decode cX10_undo 25 = .ok (.bipush 13, 2) := by decide +kernel
theorem dX10_undo_27 : decode cX10_undo 27 = .ok (.iadd, 1) := by decide +kernel
theorem dX10_undo_28 : decode cX10_undo 28 = .ok (.bipush 14, 2) := by decide +kernel
theorem dX10_undo_30 : decode cX10_undo 30 = .ok (.irem, 1) := by decide +kernel
theorem dX10_undo_31 : decode cX10_undo 31 = .ok (.putfield 167, 3) := by decide +kernel
theorem dX10_undo_34 : decode cX10_undo 34 = .ok (.iconst 0, 1) := by decide +kernel
theorem dX10_undo_35 : decode cX10_undo 35 = .ok (.istore_n 1, 1) := by decide +kernel
theorem dX10_undo_36 : decode cX10_undo 36 = .ok (.iload_n 1, 1) := by decide +kernel
theorem dX10_undo_37 : decode cX10_undo 37 = .ok (.bipush 16, 2) := by decide +kernel
theorem dX10_undo_39 : decode cX10_undo 39 = .ok (.if_icmp .ge 29, 3) := by decide +kernel
theorem dX10_undo_42 : decode cX10_undo 42 = .ok (.aload_n 0, 1) := by decide +kernel
theorem dX10_undo_43 : decode cX10_undo 43 = .ok (.getfield 28, 3) := by decide +kernel
theorem dX10_undo_46 : decode cX10_undo 46 = .ok (.iload_n 1, 1) := by decide +kernel
theorem dX10_undo_47 : decode cX10_undo 47 = .ok (.aload_n 0, 1) := by decide +kernel
theorem dX10_undo_48 : decode cX10_undo 48 = .ok (.getfield 50, 3) := by decide +kernel
theorem dX10_undo_51 : decode cX10_undo 51 = .ok (.bipush 16, 2) := by decide +kernel
theorem dX10_undo_53 : decode cX10_undo 53 = .ok (.aload_n 0, 1) := by decide +kernel
theorem dX10_undo_54 : decode cX10_undo 54 = .ok (.getfield 167, 3) := by decide +kernel
theorem dX10_undo_57 : decode cX10_undo 57 = .ok (.imul, 1) := by decide +kernel
theorem dX10_undo_58 : decode cX10_undo 58 = .ok (.iload_n 1, 1) := by decide +kernel
theorem dX10_undo_59 : decode cX10_undo 59 = .ok (.iadd, 1) := by decide +kernel
theorem dX10_undo_60 : decode cX10_undo 60 = .ok (.iaload, 1) := by decide +kernel
theorem dX10_undo_61 : decode cX10_undo 61 = .ok (.iastore, 1) := by decide +kernel
theorem dX10_undo_62 : decode cX10_undo 62 = .ok (.iinc 1 1, 3) := by decide +kernel
theorem dX10_undo_65 : decode cX10_undo 65 = .ok (.goto (-29), 3) := by decide +kernel
theorem dX10_undo_68 : decode cX10_undo 68 = .ok (.aload_n 0, 1) := by decide +kernel
theorem dX10_undo_69 : decode cX10_undo 69 = .ok (.getfield 111, 3) := by decide +kernel
theorem dX10_undo_72 : decode cX10_undo 72 = .ok (.ireturn, 1) := by decide +kernel
theorem dX10_layTrial_0 : decode cX10_layTrial 0 = .ok (.iconst 0, 1) := by decide +kernel
theorem dX10_layTrial_1 : decode cX10_layTrial 1 = .ok (.istore_n 1, 1) := by decide +kernel
theorem dX10_layTrial_2 : decode cX10_layTrial 2 = .ok (.iload_n 1, 1) := by decide +kernel
theorem dX10_layTrial_3 : decode cX10_layTrial 3 = .ok (.bipush 16, 2) := by decide +kernel
theorem dX10_layTrial_5 : decode cX10_layTrial 5 = .ok (.if_icmp .ge 24, 3) := by decide +kernel
theorem dX10_layTrial_8 : decode cX10_layTrial 8 = .ok (.aload_n 0, 1) := by decide +kernel
theorem dX10_layTrial_9 : decode cX10_layTrial 9 = .ok (.getfield 28, 3) := by decide +kernel
theorem dX10_layTrial_12 : decode cX10_layTrial 12 = .ok (.bipush 16, 2) := by decide +kernel
theorem dX10_layTrial_14 : decode cX10_layTrial 14 = .ok (.iload_n 1, 1) := by decide +kernel
theorem dX10_layTrial_15 : decode cX10_layTrial 15 = .ok (.iadd, 1) := by decide +kernel
theorem dX10_layTrial_16 : decode cX10_layTrial 16 = .ok (.aload_n 0, 1) := by decide +kernel
theorem dX10_layTrial_17 : decode cX10_layTrial 17 = .ok (.getfield 28, 3) := by decide +kernel
theorem dX10_layTrial_20 : decode cX10_layTrial 20 = .ok (.iload_n 1, 1) := by decide +kernel
theorem dX10_layTrial_21 : decode cX10_layTrial 21 = .ok (.iaload, 1) := by decide +kernel
theorem dX10_layTrial_22 : decode cX10_layTrial 22 = .ok (.iastore, 1) := by decide +kernel
theorem dX10_layTrial_23 : decode cX10_layTrial 23 = .ok (.iinc 1 1, 3) := by decide +kernel
theorem dX10_layTrial_26 : decode cX10_layTrial 26 = .ok (.goto (-24), 3) := by decide +kernel
theorem dX10_layTrial_29 : decode cX10_layTrial 29 = .ok (.return_, 1) := by decide +kernel
theorem dX10_goOn_0 : decode cX10_goOn 0 = .ok (.iconst 0, 1) := by decide +kernel
theorem dX10_goOn_1 : decode cX10_goOn 1 = .ok (.istore_n 2, 1) := by decide +kernel
theorem dX10_goOn_2 : decode cX10_goOn 2 = .ok (.iload_n 2, 1) := by decide +kernel
theorem dX10_goOn_3 : decode cX10_goOn 3 = .ok (.iload_n 1, 1) := by decide +kernel
theorem dX10_goOn_4 : decode cX10_goOn 4 = .ok (.if_icmp .ge 16, 3) := by decide +kernel
theorem dX10_goOn_7 : decode cX10_goOn 7 = .ok (.aload_n 0, 1) := by decide +kernel
theorem dX10_goOn_8 : decode cX10_goOn 8 = .ok (.iconst 1, 1) := by decide +kernel
theorem dX10_goOn_9 : decode cX10_goOn 9 = .ok (.iconst 1, 1) := by decide +kernel
theorem dX10_goOn_10 : decode cX10_goOn 10 = .ok (.invokevirtual 173, 3) := by decide +kernel
theorem dX10_goOn_13 : decode cX10_goOn 13 = .ok (.pop, 1) := by decide +kernel
theorem dX10_goOn_14 : decode cX10_goOn 14 = .ok (.iinc 2 1, 3) := by decide +kernel
theorem dX10_goOn_17 : decode cX10_goOn 17 = .ok (.goto (-15), 3) := by decide +kernel
theorem dX10_goOn_20 : decode cX10_goOn 20 = .ok (.return_, 1) := by decide +kernel
theorem dX10_where_0 : decode cX10_where 0 = .ok (.aload_n 0, 1) := by decide +kernel
theorem dX10_where_1 : decode cX10_where 1 = .ok (.iload_n 1, 1) := by decide +kernel
theorem dX10_where_2 : decode cX10_where 2 = .ok (.invokevirtual 118, 3) := by decide +kernel
theorem dX10_where_5 : decode cX10_where 5 = .ok (.ifCond .ne 5, 3) := by decide +kernel
theorem dX10_where_8 : decode cX10_where 8 = .ok (.iconst (-1), 1) := by decide +kernel
theorem dX10_where_9 : decode cX10_where 9 = .ok (.ireturn, 1) := by decide +kernel
theorem dX10_where_10 : decode cX10_where 10 = .ok (.iload_n 2, 1) := by decide +kernel
theorem dX10_where_11 : decode cX10_where 11 = .ok (.i2l, 1) := by decide +kernel
theorem dX10_where_12 : decode cX10_where 12 = .ok (.lconst 0, 1) := by decide +kernel
theorem dX10_where_13 : decode cX10_where 13 = .ok (.ldc2_w 189, 3) := by decide +kernel
theorem dX10_where_16 : decode cX10_where 16 = .ok (.invokestatic 68, 3) := by decide +kernel
theorem dX10_where_19 : decode cX10_where 19 = .ok (.ifCond .ne 6, 3) := by decide +kernel
theorem dX10_where_22 : decode cX10_where 22 = .ok (.bipush (-2), 2) := by decide +kernel
theorem dX10_where_24 : decode cX10_where 24 = .ok (.ireturn, 1) := by decide +kernel
theorem dX10_where_25 : decode cX10_where 25 = .ok (.aload_n 0, 1) := by decide +kernel
theorem dX10_where_26 : decode cX10_where 26 = .ok (.invokevirtual 191, 3) := by decide +kernel
theorem dX10_where_29 : decode cX10_where 29 = .ok (.aload_n 0, 1) := by decide +kernel
theorem dX10_where_30 : decode cX10_where 30 = .ok (.iload_n 2, 1) := by decide +kernel
theorem dX10_where_31 : decode cX10_where 31 = .ok (.invokevirtual 194, 3) := by decide +kernel
theorem dX10_where_34 : decode cX10_where 34 = .ok (.aload_n 0, 1) := by decide +kernel
theorem dX10_where_35 : decode cX10_where 35 = .ok (.getfield 28, 3) := by decide +kernel
theorem dX10_where_38 : decode cX10_where 38 = .ok (.bipush 16, 2) := by decide +kernel
theorem dX10_where_40 : decode cX10_where 40 = .ok (.iload_n 1, 1) := by decide +kernel
theorem dX10_where_41 : decode cX10_where 41 = .ok (.iadd, 1) := by decide +kernel
theorem dX10_where_42 : decode cX10_where 42 = .ok (.iaload, 1) := by decide +kernel
theorem dX10_where_43 : decode cX10_where 43 = .ok (.ireturn, 1) := by decide +kernel
theorem dX10_umbrellas_0 : decode cX10_umbrellas 0 = .ok (.iload_n 1, 1) := by decide +kernel
theorem dX10_umbrellas_1 : decode cX10_umbrellas 1 = .ok (.i2l, 1) := by decide +kernel
theorem dX10_umbrellas_2 : decode cX10_umbrellas 2 = .ok (.lconst 0, 1) := by decide +kernel
theorem dX10_umbrellas_3 : decode cX10_umbrellas 3 = .ok (.ldc2_w 189, 3) := by decide +kernel
theorem dX10_umbrellas_6 : decode cX10_umbrellas 6 = .ok (.invokestatic 68, 3) := by decide +kernel
theorem dX10_umbrellas_9 : decode cX10_umbrellas 9 = .ok (.ifCond .ne 6, 3) := by decide +kernel
theorem dX10_umbrellas_12 : decode cX10_umbrellas 12 = .ok (.bipush (-2), 2) := by decide +kernel
theorem dX10_umbrellas_14 : decode cX10_umbrellas 14 = .ok (.ireturn, 1) := by decide +kernel
theorem dX10_umbrellas_15 : decode cX10_umbrellas 15 = .ok (.aload_n 0, 1) := by decide +kernel
theorem dX10_umbrellas_16 : decode cX10_umbrellas 16 = .ok (.invokevirtual 191, 3) := by decide +kernel
theorem dX10_umbrellas_19 : decode cX10_umbrellas 19 = .ok (.aload_n 0, 1) := by decide +kernel
theorem dX10_umbrellas_20 : decode cX10_umbrellas 20 = .ok (.iload_n 1, 1) := by decide +kernel
theorem dX10_umbrellas_21 : decode cX10_umbrellas 21 = .ok (.invokevirtual 194, 3) := by decide +kernel
theorem dX10_umbrellas_24 : decode cX10_umbrellas 24 = .ok (.aload_n 0, 1) := by decide +kernel
theorem dX10_umbrellas_25 : decode cX10_umbrellas 25 = .ok (.getfield 28, 3) := by decide +kernel
theorem dX10_umbrellas_28 : decode cX10_umbrellas 28 = .ok (.bipush 30, 2) := by decide +kernel
theorem dX10_umbrellas_30 : decode cX10_umbrellas 30 = .ok (.iaload, 1) := by decide +kernel
theorem dX10_umbrellas_31 : decode cX10_umbrellas 31 = .ok (.ireturn, 1) := by decide +kernel
theorem dX10_most_0 : decode cX10_most 0 = .ok (.aload_n 0, 1) := by decide +kernel
theorem dX10_most_1 : decode cX10_most 1 = .ok (.iconst 0, 1) := by decide +kernel
theorem dX10_most_2 : decode cX10_most 2 = .ok (.invokevirtual 197, 3) := by decide +kernel
theorem dX10_most_5 : decode cX10_most 5 = .ok (.ireturn, 1) := by decide +kernel
theorem dX10_lacks_0 : decode cX10_lacks 0 = .ok (.aload_n 0, 1) := by decide +kernel
theorem dX10_lacks_1 : decode cX10_lacks 1 = .ok (.iload_n 1, 1) := by decide +kernel
theorem dX10_lacks_2 : decode cX10_lacks 2 = .ok (.invokevirtual 122, 3) := by decide +kernel
theorem dX10_lacks_5 : decode cX10_lacks 5 = .ok (.ifCond .ne 5, 3) := by decide +kernel
theorem dX10_lacks_8 : decode cX10_lacks 8 = .ok (.iconst (-1), 1) := by decide +kernel
theorem dX10_lacks_9 : decode cX10_lacks 9 = .ok (.ireturn, 1) := by decide +kernel
theorem dX10_lacks_10 : decode cX10_lacks 10 = .ok (.aload_n 0, 1) := by decide +kernel
theorem dX10_lacks_11 : decode cX10_lacks 11 = .ok (.iconst 0, 1) := by decide +kernel
theorem dX10_lacks_12 : decode cX10_lacks 12 = .ok (.iload_n 1, 1) := by decide +kernel
theorem dX10_lacks_13 : decode cX10_lacks 13 = .ok (.invokevirtual 125, 3) := by decide +kernel
theorem dX10_lacks_16 : decode cX10_lacks 16 = .ok (.istore_n 2, 1) := by decide +kernel
theorem dX10_lacks_17 : decode cX10_lacks 17 = .ok (.iconst 0, 1) := by decide +kernel
theorem dX10_lacks_18 : decode cX10_lacks 18 = .ok (.istore_n 3, 1) := by decide +kernel
theorem dX10_lacks_19 : decode cX10_lacks 19 = .ok (.iload_n 3, 1) := by decide +kernel
theorem dX10_lacks_20 : decode cX10_lacks 20 = .ok (.aload_n 0, 1) := by decide +kernel
theorem dX10_lacks_21 : decode cX10_lacks 21 = .ok (.getfield 105, 3) := by decide +kernel
theorem dX10_lacks_24 : decode cX10_lacks 24 = .ok (.if_icmp .ge 36, 3) := by decide +kernel
theorem dX10_lacks_27 : decode cX10_lacks 27 = .ok (.iload_n 2, 1) := by decide +kernel
theorem dX10_lacks_28 : decode cX10_lacks 28 = .ok (.aload_n 0, 1) := by decide +kernel
theorem dX10_lacks_29 : decode cX10_lacks 29 = .ok (.iconst 0, 1) := by decide +kernel
theorem dX10_lacks_30 : decode cX10_lacks 30 = .ok (.iload_n 3, 1) := by decide +kernel
theorem dX10_lacks_31 : decode cX10_lacks 31 = .ok (.iload_n 1, 1) := by decide +kernel
theorem dX10_lacks_32 : decode cX10_lacks 32 = .ok (.invokevirtual 145, 3) := by decide +kernel
theorem dX10_lacks_35 : decode cX10_lacks 35 = .ok (.ifCond .eq 16, 3) := by decide +kernel
theorem dX10_lacks_38 : decode cX10_lacks 38 = .ok (.iload_n 2, 1) := by decide +kernel
theorem dX10_lacks_39 : decode cX10_lacks 39 = .ok (.aload_n 0, 1) := by decide +kernel
theorem dX10_lacks_40 : decode cX10_lacks 40 = .ok (.iconst 0, 1) := by decide +kernel
theorem dX10_lacks_41 : decode cX10_lacks 41 = .ok (.iload_n 3, 1) := by decide +kernel
theorem dX10_lacks_42 : decode cX10_lacks 42 = .ok (.invokevirtual 128, 3) := by decide +kernel
theorem dX10_lacks_45 : decode cX10_lacks 45 = .ok (.invokestatic 161, 3) := by decide +kernel
theorem dX10_lacks_48 : decode cX10_lacks 48 = .ok (.goto 4, 3) := by decide +kernel
theorem dX10_lacks_51 : decode cX10_lacks 51 = .ok (.iconst 0, 1) := by decide +kernel
theorem dX10_lacks_52 : decode cX10_lacks 52 = .ok (.isub, 1) := by decide +kernel
theorem dX10_lacks_53 : decode cX10_lacks 53 = .ok (.istore_n 2, 1) := by decide +kernel
theorem dX10_lacks_54 : decode cX10_lacks 54 = .ok (.iinc 3 1, 3) := by decide +kernel
theorem dX10_lacks_57 : decode cX10_lacks 57 = .ok (.goto (-38), 3) := by decide +kernel
theorem dX10_lacks_60 : decode cX10_lacks 60 = .ok (.iload_n 2, 1) := by decide +kernel
theorem dX10_lacks_61 : decode cX10_lacks 61 = .ok (.ireturn, 1) := by decide +kernel
theorem dX10_power_0 : decode cX10_power 0 = .ok (.iconst 1, 1) := by decide +kernel
theorem dX10_power_1 : decode cX10_power 1 = .ok (.istore_n 2, 1) := by decide +kernel
theorem dX10_power_2 : decode cX10_power 2 = .ok (.iconst 0, 1) := by decide +kernel
theorem dX10_power_3 : decode cX10_power 3 = .ok (.istore_n 3, 1) := by decide +kernel
theorem dX10_power_4 : decode cX10_power 4 = .ok (.iload_n 3, 1) := by decide +kernel
theorem dX10_power_5 : decode cX10_power 5 = .ok (.iload_n 1, 1) := by decide +kernel
theorem dX10_power_6 : decode cX10_power 6 = .ok (.if_icmp .ge 13, 3) := by decide +kernel
theorem dX10_power_9 : decode cX10_power 9 = .ok (.iload_n 2, 1) := by decide +kernel
theorem dX10_power_10 : decode cX10_power 10 = .ok (.iload_n 0, 1) := by decide +kernel
theorem dX10_power_11 : decode cX10_power 11 = .ok (.imul, 1) := by decide +kernel
theorem dX10_power_12 : decode cX10_power 12 = .ok (.istore_n 2, 1) := by decide +kernel
theorem dX10_power_13 : decode cX10_power 13 = .ok (.iinc 3 1, 3) := by decide +kernel
theorem dX10_power_16 : decode cX10_power 16 = .ok (.goto (-12), 3) := by decide +kernel
theorem dX10_power_19 : decode cX10_power 19 = .ok (.iload_n 2, 1) := by decide +kernel
theorem dX10_power_20 : decode cX10_power 20 = .ok (.ireturn, 1) := by decide +kernel
theorem dX10_puffs_0 : decode cX10_puffs 0 = .ok (.iconst 0, 1) := by decide +kernel
theorem dX10_puffs_1 : decode cX10_puffs 1 = .ok (.istore_n 1, 1) := by decide +kernel
theorem dX10_puffs_2 : decode cX10_puffs 2 = .ok (.iload_n 1, 1) := by decide +kernel
theorem dX10_puffs_3 : decode cX10_puffs 3 = .ok (.iconst 4, 1) := by decide +kernel
theorem dX10_puffs_4 : decode cX10_puffs 4 = .ok (.if_icmp .ge 119, 3) := by decide +kernel
theorem dX10_puffs_7 : decode cX10_puffs 7 = .ok (.iload_n 1, 1) := by decide +kernel
theorem dX10_puffs_8 : decode cX10_puffs 8 = .ok (.ifCond .ne 7, 3) := by decide +kernel
theorem dX10_puffs_11 : decode cX10_puffs 11 = .ok (.iconst 1, 1) := by decide +kernel
theorem dX10_puffs_12 : decode cX10_puffs 12 = .ok (.goto 13, 3) := by decide +kernel
theorem dX10_puffs_15 : decode cX10_puffs 15 = .ok (.iconst 2, 1) := by decide +kernel
theorem dX10_puffs_16 : decode cX10_puffs 16 = .ok (.aload_n 0, 1) := by decide +kernel
theorem dX10_puffs_17 : decode cX10_puffs 17 = .ok (.getfield 105, 3) := by decide +kernel
theorem dX10_puffs_20 : decode cX10_puffs 20 = .ok (.imul, 1) := by decide +kernel
theorem dX10_puffs_21 : decode cX10_puffs 21 = .ok (.iload_n 1, 1) := by decide +kernel
theorem dX10_puffs_22 : decode cX10_puffs 22 = .ok (.invokestatic 200, 3) := by decide +kernel
theorem dX10_puffs_25 : decode cX10_puffs 25 = .ok (.istore_n 2, 1) := by decide +kernel
theorem dX10_puffs_26 : decode cX10_puffs 26 = .ok (.iconst 0, 1) := by decide +kernel
theorem dX10_puffs_27 : decode cX10_puffs 27 = .ok (.istore_n 3, 1) := by decide +kernel
theorem dX10_puffs_28 : decode cX10_puffs 28 = .ok (.iload_n 3, 1) := by decide +kernel
theorem dX10_puffs_29 : decode cX10_puffs 29 = .ok (.iload_n 2, 1) := by decide +kernel
theorem dX10_puffs_30 : decode cX10_puffs 30 = .ok (.if_icmp .ge 87, 3) := by decide +kernel
theorem dX10_puffs_33 : decode cX10_puffs 33 = .ok (.aload_n 0, 1) := by decide +kernel
theorem dX10_puffs_34 : decode cX10_puffs 34 = .ok (.invokevirtual 191, 3) := by decide +kernel
theorem dX10_puffs_37 : decode cX10_puffs 37 = .ok (.iconst 0, 1) := by decide +kernel
theorem dX10_puffs_38 : decode cX10_puffs 38 = .ok (.istore 4, 2) := by decide +kernel
theorem dX10_puffs_40 : decode cX10_puffs 40 = .ok (.iload 4, 2) := by decide +kernel
theorem dX10_puffs_42 : decode cX10_puffs 42 = .ok (.iload_n 1, 1) := by decide +kernel
theorem dX10_puffs_43 : decode cX10_puffs 43 = .ok (.if_icmp .ge 53, 3) := by decide +kernel
theorem dX10_puffs_46 : decode cX10_puffs 46 = .ok (.iload_n 3, 1) := by decide +kernel
theorem dX10_puffs_47 : decode cX10_puffs 47 = .ok (.iconst 2, 1) := by decide +kernel
theorem dX10_puffs_48 : decode cX10_puffs 48 = .ok (.aload_n 0, 1) := by decide +kernel
theorem dX10_puffs_49 : decode cX10_puffs 49 = .ok (.getfield 105, 3) := by decide +kernel
theorem dX10_puffs_52 : decode cX10_puffs 52 = .ok (.imul, 1) := by decide +kernel
theorem dX10_puffs_53 : decode cX10_puffs 53 = .ok (.iload 4, 2) := by decide +kernel
theorem dX10_puffs_55 : decode cX10_puffs 55 = .ok (.invokestatic 200, 3) := by decide +kernel
theorem dX10_puffs_58 : decode cX10_puffs 58 = .ok (.idiv, 1) := by decide +kernel
theorem dX10_puffs_59 : decode cX10_puffs 59 = .ok (.iconst 2, 1) := by decide +kernel
theorem dX10_puffs_60 : decode cX10_puffs 60 = .ok (.aload_n 0, 1) := by decide +kernel
theorem dX10_puffs_61 : decode cX10_puffs 61 = .ok (.getfield 105, 3) := by decide +kernel
theorem dX10_puffs_64 : decode cX10_puffs 64 = .ok (.imul, 1) := by decide +kernel
theorem dX10_puffs_65 : decode cX10_puffs 65 = .ok (.irem, 1) := by decide +kernel
theorem dX10_puffs_66 : decode cX10_puffs 66 = .ok (.istore 5, 2) := by decide +kernel
theorem dX10_puffs_68 : decode cX10_puffs 68 = .ok (.aload_n 0, 1) := by decide +kernel
theorem dX10_puffs_69 : decode cX10_puffs 69 = .ok (.iconst 1, 1) := by decide +kernel
theorem dX10_puffs_70 : decode cX10_puffs 70 = .ok (.iload 5, 2) := by decide +kernel
theorem dX10_puffs_72 : decode cX10_puffs 72 = .ok (.iconst 2, 1) := by decide +kernel
theorem dX10_puffs_73 : decode cX10_puffs 73 = .ok (.idiv, 1) := by decide +kernel
theorem dX10_puffs_74 : decode cX10_puffs 74 = .ok (.iload 5, 2) := by decide +kernel
theorem dX10_puffs_76 : decode cX10_puffs 76 = .ok (.iconst 2, 1) := by decide +kernel
theorem dX10_puffs_77 : decode cX10_puffs 77 = .ok (.irem, 1) := by decide +kernel
theorem dX10_puffs_78 : decode cX10_puffs 78 = .ok (.iconst 1, 1) := by decide +kernel
theorem dX10_puffs_79 : decode cX10_puffs 79 = .ok (.if_icmp .ne 7, 3) := by decide +kernel
theorem dX10_puffs_82 : decode cX10_puffs 82 = .ok (.iconst 1, 1) := by decide +kernel
theorem dX10_puffs_83 : decode cX10_puffs 83 = .ok (.goto 4, 3) := by decide +kernel
theorem dX10_puffs_86 : decode cX10_puffs 86 = .ok (.iconst 0, 1) := by decide +kernel
theorem dX10_puffs_87 : decode cX10_puffs 87 = .ok (.invokevirtual 181, 3) := by decide +kernel
theorem dX10_puffs_90 : decode cX10_puffs 90 = .ok (.iinc 4 1, 3) := by decide +kernel
theorem dX10_puffs_93 : decode cX10_puffs 93 = .ok (.goto (-53), 3) := by decide +kernel
theorem dX10_puffs_96 : decode cX10_puffs 96 = .ok (.aload_n 0, 1) := by decide +kernel
theorem dX10_puffs_97 : decode cX10_puffs 97 = .ok (.iconst 1, 1) := by decide +kernel
theorem dX10_puffs_98 : decode cX10_puffs 98 = .ok (.invokevirtual 197, 3) := by decide +kernel
theorem dX10_puffs_101 : decode cX10_puffs 101 = .ok (.aload_n 0, 1) := by decide +kernel
theorem dX10_puffs_102 : decode cX10_puffs 102 = .ok (.iconst 1, 1) := by decide +kernel
theorem dX10_puffs_103 : decode cX10_puffs 103 = .ok (.invokevirtual 155, 3) := by decide +kernel
theorem dX10_puffs_106 : decode cX10_puffs 106 = .ok (.if_icmp .ne 5, 3) := by decide +kernel
theorem dX10_puffs_109 : decode cX10_puffs 109 = .ok (.iload_n 1, 1) := by decide +kernel
theorem dX10_puffs_110 : decode cX10_puffs 110 = .ok (.ireturn, 1) := by decide +kernel
theorem dX10_puffs_111 : decode cX10_puffs 111 = .ok (.iinc 3 1, 3) := by decide +kernel
theorem dX10_puffs_114 : decode cX10_puffs 114 = .ok (.goto (-86), 3) := by decide +kernel
theorem dX10_puffs_117 : decode cX10_puffs 117 = .ok (.iinc 1 1, 3) := by decide +kernel
theorem dX10_puffs_120 : decode cX10_puffs 120 = .ok (.goto (-118), 3) := by decide +kernel
theorem dX10_puffs_123 : decode cX10_puffs 123 = .ok (.bipush (-9), 2) := by decide +kernel
theorem dX10_puffs_125 : decode cX10_puffs 125 = .ok (.ireturn, 1) := by decide +kernel
theorem dX10_tryThing_0 : decode cX10_tryThing 0 = .ok (.iload_n 1, 1) := by decide +kernel
theorem dX10_tryThing_1 : decode cX10_tryThing 1 = .ok (.tableswitch 195 0 4 #[35, 56, 80, 124, 171], 35) := by decide +kernel
theorem dX10_tryThing_36 : decode cX10_tryThing 36 = .ok (.aload_n 0, 1) := by decide +kernel
theorem dX10_tryThing_37 : decode cX10_tryThing 37 = .ok (.iconst 1, 1) := by decide +kernel
theorem dX10_tryThing_38 : decode cX10_tryThing 38 = .ok (.iconst 1, 1) := by decide +kernel
theorem dX10_tryThing_39 : decode cX10_tryThing 39 = .ok (.invokevirtual 173, 3) := by decide +kernel
theorem dX10_tryThing_42 : decode cX10_tryThing 42 = .ok (.pop, 1) := by decide +kernel
theorem dX10_tryThing_43 : decode cX10_tryThing 43 = .ok (.iload_n 2, 1) := by decide +kernel
theorem dX10_tryThing_44 : decode cX10_tryThing 44 = .ok (.ifCond .ne 11, 3) := by decide +kernel
theorem dX10_tryThing_47 : decode cX10_tryThing 47 = .ok (.iload_n 3, 1) := by decide +kernel
theorem dX10_tryThing_48 : decode cX10_tryThing 48 = .ok (.ifCond .ne 7, 3) := by decide +kernel
theorem dX10_tryThing_51 : decode cX10_tryThing 51 = .ok (.iconst 1, 1) := by decide +kernel
theorem dX10_tryThing_52 : decode cX10_tryThing 52 = .ok (.goto 4, 3) := by decide +kernel
theorem dX10_tryThing_55 : decode cX10_tryThing 55 = .ok (.iconst 0, 1) := by decide +kernel
theorem dX10_tryThing_56 : decode cX10_tryThing 56 = .ok (.ireturn, 1) := by decide +kernel
theorem dX10_tryThing_57 : decode cX10_tryThing 57 = .ok (.aload_n 0, 1) := by decide +kernel
theorem dX10_tryThing_58 : decode cX10_tryThing 58 = .ok (.iconst 1, 1) := by decide +kernel
theorem dX10_tryThing_59 : decode cX10_tryThing 59 = .ok (.iload_n 2, 1) := by decide +kernel
theorem dX10_tryThing_60 : decode cX10_tryThing 60 = .ok (.iload_n 3, 1) := by decide +kernel
theorem dX10_tryThing_61 : decode cX10_tryThing 61 = .ok (.invokevirtual 149, 3) := by decide +kernel
theorem dX10_tryThing_64 : decode cX10_tryThing 64 = .ok (.istore 4, 2) := by decide +kernel
theorem dX10_tryThing_66 : decode cX10_tryThing 66 = .ok (.iload 4, 2) := by decide +kernel
theorem dX10_tryThing_68 : decode cX10_tryThing 68 = .ok (.ifCond .eq 10, 3) := by decide +kernel
theorem dX10_tryThing_71 : decode cX10_tryThing 71 = .ok (.aload_n 0, 1) := by decide +kernel
theorem dX10_tryThing_72 : decode cX10_tryThing 72 = .ok (.iconst 1, 1) := by decide +kernel
theorem dX10_tryThing_73 : decode cX10_tryThing 73 = .ok (.iload_n 2, 1) := by decide +kernel
theorem dX10_tryThing_74 : decode cX10_tryThing 74 = .ok (.iload_n 3, 1) := by decide +kernel
theorem dX10_tryThing_75 : decode cX10_tryThing 75 = .ok (.invokevirtual 177, 3) := by decide +kernel
theorem dX10_tryThing_78 : decode cX10_tryThing 78 = .ok (.iload 4, 2) := by decide +kernel
theorem dX10_tryThing_80 : decode cX10_tryThing 80 = .ok (.ireturn, 1) := by decide +kernel
theorem dX10_tryThing_81 : decode cX10_tryThing 81 = .ok (.aload_n 0, 1) := by decide +kernel
theorem dX10_tryThing_82 : decode cX10_tryThing 82 = .ok (.iload_n 2, 1) := by decide +kernel
theorem dX10_tryThing_83 : decode cX10_tryThing 83 = .ok (.invokevirtual 118, 3) := by decide +kernel
theorem dX10_tryThing_86 : decode cX10_tryThing 86 = .ok (.ifCond .eq 12, 3) := by decide +kernel
theorem dX10_tryThing_89 : decode cX10_tryThing 89 = .ok (.iload_n 3, 1) := by decide +kernel
theorem dX10_tryThing_90 : decode cX10_tryThing 90 = .ok (.iconst 2, 1) := by decide +kernel
theorem dX10_tryThing_91 : decode cX10_tryThing 91 = .ok (.if_icmp .ge 7, 3) := by decide +kernel
theorem dX10_tryThing_94 : decode cX10_tryThing 94 = .ok (.iconst 1, 1) := by decide +kernel
theorem dX10_tryThing_95 : decode cX10_tryThing 95 = .ok (.goto 4, 3) := by decide +kernel
theorem dX10_tryThing_98 : decode cX10_tryThing 98 = .ok (.iconst 0, 1) := by decide +kernel
theorem dX10_tryThing_99 : decode cX10_tryThing 99 = .ok (.istore 5, 2) := by decide +kernel
theorem dX10_tryThing_101 : decode cX10_tryThing 101 = .ok (.iload 5, 2) := by decide +kernel
theorem dX10_tryThing_103 : decode cX10_tryThing 103 = .ok (.ifCond .eq 19, 3) := by decide +kernel
theorem dX10_tryThing_106 : decode cX10_tryThing 106 = .ok (.aload_n 0, 1) := by decide +kernel
theorem dX10_tryThing_107 : decode cX10_tryThing 107 = .ok (.iconst 1, 1) := by decide +kernel
theorem dX10_tryThing_108 : decode cX10_tryThing 108 = .ok (.iload_n 2, 1) := by decide +kernel
theorem dX10_tryThing_109 : decode cX10_tryThing 109 = .ok (.iload_n 3, 1) := by decide +kernel
theorem dX10_tryThing_110 : decode cX10_tryThing 110 = .ok (.iconst 1, 1) := by decide +kernel
theorem dX10_tryThing_111 : decode cX10_tryThing 111 = .ok (.if_icmp .ne 7, 3) := by decide +kernel
theorem dX10_tryThing_114 : decode cX10_tryThing 114 = .ok (.iconst 1, 1) := by decide +kernel
theorem dX10_tryThing_115 : decode cX10_tryThing 115 = .ok (.goto 4, 3) := by decide +kernel
theorem dX10_tryThing_118 : decode cX10_tryThing 118 = .ok (.iconst 0, 1) := by decide +kernel
theorem dX10_tryThing_119 : decode cX10_tryThing 119 = .ok (.invokevirtual 181, 3) := by decide +kernel
theorem dX10_tryThing_122 : decode cX10_tryThing 122 = .ok (.iload 5, 2) := by decide +kernel
theorem dX10_tryThing_124 : decode cX10_tryThing 124 = .ok (.ireturn, 1) := by decide +kernel
theorem dX10_tryThing_125 : decode cX10_tryThing 125 = .ok (.iload_n 2, 1) := by decide +kernel
theorem dX10_tryThing_126 : decode cX10_tryThing 126 = .ok (.ifCond .ne 29, 3) := by decide +kernel
theorem dX10_tryThing_129 : decode cX10_tryThing 129 = .ok (.aload_n 0, 1) := by decide +kernel
theorem dX10_tryThing_130 : decode cX10_tryThing 130 = .ok (.iload_n 3, 1) := by decide +kernel
theorem dX10_tryThing_131 : decode cX10_tryThing 131 = .ok (.invokevirtual 122, 3) := by decide +kernel
theorem dX10_tryThing_134 : decode cX10_tryThing 134 = .ok (.ifCond .eq 21, 3) := by decide +kernel
theorem dX10_tryThing_137 : decode cX10_tryThing 137 = .ok (.aload_n 0, 1) := by decide +kernel
theorem dX10_tryThing_138 : decode cX10_tryThing 138 = .ok (.getfield 28, 3) := by decide +kernel
theorem dX10_tryThing_141 : decode cX10_tryThing 141 = .ok (.bipush 29, 2) := by decide +kernel
theorem dX10_tryThing_143 : decode cX10_tryThing 143 = .ok (.iaload, 1) := by decide +kernel
theorem dX10_tryThing_144 : decode cX10_tryThing 144 = .ok (.iload_n 3, 1) := by decide +kernel
theorem dX10_tryThing_145 : decode cX10_tryThing 145 = .ok (.invokestatic 114, 3) := by decide +kernel
theorem dX10_tryThing_148 : decode cX10_tryThing 148 = .ok (.ifCond .ne 7, 3) := by decide +kernel
theorem dX10_tryThing_151 : decode cX10_tryThing 151 = .ok (.iconst 1, 1) := by decide +kernel
theorem dX10_tryThing_152 : decode cX10_tryThing 152 = .ok (.goto 4, 3) := by decide +kernel
theorem dX10_tryThing_155 : decode cX10_tryThing 155 = .ok (.iconst 0, 1) := by decide +kernel
theorem dX10_tryThing_156 : decode cX10_tryThing 156 = .ok (.istore 6, 2) := by decide +kernel
theorem dX10_tryThing_158 : decode cX10_tryThing 158 = .ok (.iload 6, 2) := by decide +kernel
theorem dX10_tryThing_160 : decode cX10_tryThing 160 = .ok (.ifCond .eq 9, 3) := by decide +kernel
theorem dX10_tryThing_163 : decode cX10_tryThing 163 = .ok (.aload_n 0, 1) := by decide +kernel
theorem dX10_tryThing_164 : decode cX10_tryThing 164 = .ok (.iconst 1, 1) := by decide +kernel
theorem dX10_tryThing_165 : decode cX10_tryThing 165 = .ok (.iload_n 3, 1) := by decide +kernel
theorem dX10_tryThing_166 : decode cX10_tryThing 166 = .ok (.invokevirtual 185, 3) := by decide +kernel
theorem dX10_tryThing_169 : decode cX10_tryThing 169 = .ok (.iload 6, 2) := by decide +kernel
theorem dX10_tryThing_171 : decode cX10_tryThing 171 = .ok (.ireturn, 1) := by decide +kernel
theorem dX10_tryThing_172 : decode cX10_tryThing 172 = .ok (.aload_n 0, 1) := by decide +kernel
theorem dX10_tryThing_173 : decode cX10_tryThing 173 = .ok (.iload_n 2, 1) := by decide +kernel
theorem dX10_tryThing_174 : decode cX10_tryThing 174 = .ok (.invokevirtual 122, 3) := by decide +kernel
theorem dX10_tryThing_177 : decode cX10_tryThing 177 = .ok (.ifCond .eq 17, 3) := by decide +kernel
theorem dX10_tryThing_180 : decode cX10_tryThing 180 = .ok (.aload_n 0, 1) := by decide +kernel
theorem dX10_tryThing_181 : decode cX10_tryThing 181 = .ok (.iconst 1, 1) := by decide +kernel
theorem dX10_tryThing_182 : decode cX10_tryThing 182 = .ok (.iload_n 2, 1) := by decide +kernel
theorem dX10_tryThing_183 : decode cX10_tryThing 183 = .ok (.invokevirtual 125, 3) := by decide +kernel
theorem dX10_tryThing_186 : decode cX10_tryThing 186 = .ok (.iload_n 3, 1) := by decide +kernel
theorem dX10_tryThing_187 : decode cX10_tryThing 187 = .ok (.if_icmp .gt 7, 3) := by decide +kernel
theorem dX10_tryThing_190 : decode cX10_tryThing 190 = .ok (.iconst 1, 1) := by decide +kernel
theorem dX10_tryThing_191 : decode cX10_tryThing 191 = .ok (.goto 4, 3) := by decide +kernel
theorem dX10_tryThing_194 : decode cX10_tryThing 194 = .ok (.iconst 0, 1) := by decide +kernel
theorem dX10_tryThing_195 : decode cX10_tryThing 195 = .ok (.ireturn, 1) := by decide +kernel
theorem dX10_tryThing_196 : decode cX10_tryThing 196 = .ok (.iconst 0, 1) := by decide +kernel
theorem dX10_tryThing_197 : decode cX10_tryThing 197 = .ok (.ireturn, 1) := by decide +kernel
theorem dX10_thousandTo_0 : decode cX10_thousandTo 0 = .ok (.lconst 1, 1) := by decide +kernel
theorem dX10_thousandTo_1 : decode cX10_thousandTo 1 = .ok (.lstore_n 1, 1) := by decide +kernel
theorem dX10_thousandTo_2 : decode cX10_thousandTo 2 = .ok (.iconst 0, 1) := by decide +kernel
theorem dX10_thousandTo_3 : decode cX10_thousandTo 3 = .ok (.istore_n 3, 1) := by decide +kernel
theorem dX10_thousandTo_4 : decode cX10_thousandTo 4 = .ok (.iload_n 3, 1) := by decide +kernel
theorem dX10_thousandTo_5 : decode cX10_thousandTo 5 = .ok (.iload_n 0, 1) := by decide +kernel
theorem dX10_thousandTo_6 : decode cX10_thousandTo 6 = .ok (.if_icmp .ge 15, 3) := by decide +kernel
theorem dX10_thousandTo_9 : decode cX10_thousandTo 9 = .ok (.lload_n 1, 1) := by decide +kernel
theorem dX10_thousandTo_10 : decode cX10_thousandTo 10 = .ok (.ldc2_w 203, 3) := by decide +kernel
theorem dX10_thousandTo_13 : decode cX10_thousandTo 13 = .ok (.lmul, 1) := by decide +kernel
theorem dX10_thousandTo_14 : decode cX10_thousandTo 14 = .ok (.lstore_n 1, 1) := by decide +kernel
theorem dX10_thousandTo_15 : decode cX10_thousandTo 15 = .ok (.iinc 3 1, 3) := by decide +kernel
theorem dX10_thousandTo_18 : decode cX10_thousandTo 18 = .ok (.goto (-14), 3) := by decide +kernel
theorem dX10_thousandTo_21 : decode cX10_thousandTo 21 = .ok (.lload_n 1, 1) := by decide +kernel
theorem dX10_thousandTo_22 : decode cX10_thousandTo 22 = .ok (.lreturn, 1) := by decide +kernel
theorem dX10_judge_0 : decode cX10_judge 0 = .ok (.iload_n 1, 1) := by decide +kernel
theorem dX10_judge_1 : decode cX10_judge 1 = .ok (.i2l, 1) := by decide +kernel
theorem dX10_judge_2 : decode cX10_judge 2 = .ok (.lconst 1, 1) := by decide +kernel
theorem dX10_judge_3 : decode cX10_judge 3 = .ok (.ldc2_w 205, 3) := by decide +kernel
theorem dX10_judge_6 : decode cX10_judge 6 = .ok (.invokestatic 68, 3) := by decide +kernel
theorem dX10_judge_9 : decode cX10_judge 9 = .ok (.ifCond .eq 17, 3) := by decide +kernel
theorem dX10_judge_12 : decode cX10_judge 12 = .ok (.lload_n 2, 1) := by decide +kernel
theorem dX10_judge_13 : decode cX10_judge 13 = .ok (.lconst 0, 1) := by decide +kernel
theorem dX10_judge_14 : decode cX10_judge 14 = .ok (.iload_n 1, 1) := by decide +kernel
theorem dX10_judge_15 : decode cX10_judge 15 = .ok (.invokestatic 207, 3) := by decide +kernel
theorem dX10_judge_18 : decode cX10_judge 18 = .ok (.lconst 1, 1) := by decide +kernel
theorem dX10_judge_19 : decode cX10_judge 19 = .ok (.lsub, 1) := by decide +kernel
theorem dX10_judge_20 : decode cX10_judge 20 = .ok (.invokestatic 68, 3) := by decide +kernel
theorem dX10_judge_23 : decode cX10_judge 23 = .ok (.ifCond .ne 6, 3) := by decide +kernel
theorem dX10_judge_26 : decode cX10_judge 26 = .ok (.bipush (-2), 2) := by decide +kernel
theorem dX10_judge_28 : decode cX10_judge 28 = .ok (.ireturn, 1) := by decide +kernel
theorem dX10_judge_29 : decode cX10_judge 29 = .ok (.aload_n 0, 1) := by decide +kernel
theorem dX10_judge_30 : decode cX10_judge 30 = .ok (.invokevirtual 191, 3) := by decide +kernel
theorem dX10_judge_33 : decode cX10_judge 33 = .ok (.iconst 0, 1) := by decide +kernel
theorem dX10_judge_34 : decode cX10_judge 34 = .ok (.istore 4, 2) := by decide +kernel
theorem dX10_judge_36 : decode cX10_judge 36 = .ok (.iload 4, 2) := by decide +kernel
theorem dX10_judge_38 : decode cX10_judge 38 = .ok (.iload_n 1, 1) := by decide +kernel
theorem dX10_judge_39 : decode cX10_judge 39 = .ok (.if_icmp .ge 55, 3) := by decide +kernel
theorem dX10_judge_42 : decode cX10_judge 42 = .ok (.lload_n 2, 1) := by decide +kernel
theorem dX10_judge_43 : decode cX10_judge 43 = .ok (.iload_n 1, 1) := by decide +kernel
theorem dX10_judge_44 : decode cX10_judge 44 = .ok (.iconst 1, 1) := by decide +kernel
theorem dX10_judge_45 : decode cX10_judge 45 = .ok (.isub, 1) := by decide +kernel
theorem dX10_judge_46 : decode cX10_judge 46 = .ok (.iload 4, 2) := by decide +kernel
theorem dX10_judge_48 : decode cX10_judge 48 = .ok (.isub, 1) := by decide +kernel
theorem dX10_judge_49 : decode cX10_judge 49 = .ok (.invokestatic 207, 3) := by decide +kernel
theorem dX10_judge_52 : decode cX10_judge 52 = .ok (.ldiv, 1) := by decide +kernel
theorem dX10_judge_53 : decode cX10_judge 53 = .ok (.ldc2_w 203, 3) := by decide +kernel
theorem dX10_judge_56 : decode cX10_judge 56 = .ok (.lrem, 1) := by decide +kernel
theorem dX10_judge_57 : decode cX10_judge 57 = .ok (.l2i, 1) := by decide +kernel
theorem dX10_judge_58 : decode cX10_judge 58 = .ok (.istore 5, 2) := by decide +kernel
theorem dX10_judge_60 : decode cX10_judge 60 = .ok (.aload_n 0, 1) := by decide +kernel
theorem dX10_judge_61 : decode cX10_judge 61 = .ok (.iload 5, 2) := by decide +kernel
theorem dX10_judge_63 : decode cX10_judge 63 = .ok (.bipush 100, 2) := by decide +kernel
theorem dX10_judge_65 : decode cX10_judge 65 = .ok (.idiv, 1) := by decide +kernel
theorem dX10_judge_66 : decode cX10_judge 66 = .ok (.iload 5, 2) := by decide +kernel
theorem dX10_judge_68 : decode cX10_judge 68 = .ok (.bipush 10, 2) := by decide +kernel
theorem dX10_judge_70 : decode cX10_judge 70 = .ok (.idiv, 1) := by decide +kernel
theorem dX10_judge_71 : decode cX10_judge 71 = .ok (.bipush 10, 2) := by decide +kernel
theorem dX10_judge_73 : decode cX10_judge 73 = .ok (.irem, 1) := by decide +kernel
theorem dX10_judge_74 : decode cX10_judge 74 = .ok (.iload 5, 2) := by decide +kernel
theorem dX10_judge_76 : decode cX10_judge 76 = .ok (.bipush 10, 2) := by decide +kernel
theorem dX10_judge_78 : decode cX10_judge 78 = .ok (.irem, 1) := by decide +kernel
theorem dX10_judge_79 : decode cX10_judge 79 = .ok (.invokevirtual 211, 3) := by decide +kernel
theorem dX10_judge_82 : decode cX10_judge 82 = .ok (.ifCond .ne 6, 3) := by decide +kernel
theorem dX10_judge_85 : decode cX10_judge 85 = .ok (.iload 4, 2) := by decide +kernel
theorem dX10_judge_87 : decode cX10_judge 87 = .ok (.ireturn, 1) := by decide +kernel
theorem dX10_judge_88 : decode cX10_judge 88 = .ok (.iinc 4 1, 3) := by decide +kernel
theorem dX10_judge_91 : decode cX10_judge 91 = .ok (.goto (-55), 3) := by decide +kernel
theorem dX10_judge_94 : decode cX10_judge 94 = .ok (.bipush (-9), 2) := by decide +kernel
theorem dX10_judge_96 : decode cX10_judge 96 = .ok (.ireturn, 1) := by decide +kernel
theorem dX10_see_0 : decode cX10_see 0 = .ok (.iload_n 1, 1) := by decide +kernel
theorem dX10_see_1 : decode cX10_see 1 = .ok (.i2l, 1) := by decide +kernel
theorem dX10_see_2 : decode cX10_see 2 = .ok (.lconst 0, 1) := by decide +kernel
theorem dX10_see_3 : decode cX10_see 3 = .ok (.ldc2_w 214, 3) := by decide +kernel
theorem dX10_see_6 : decode cX10_see 6 = .ok (.invokestatic 68, 3) := by decide +kernel
theorem dX10_see_9 : decode cX10_see 9 = .ok (.ifCond .ne 5, 3) := by decide +kernel
theorem dX10_see_12 : decode cX10_see 12 = .ok (.iconst (-1), 1) := by decide +kernel
theorem dX10_see_13 : decode cX10_see 13 = .ok (.ireturn, 1) := by decide +kernel
theorem dX10_see_14 : decode cX10_see 14 = .ok (.iload_n 2, 1) := by decide +kernel
theorem dX10_see_15 : decode cX10_see 15 = .ok (.i2l, 1) := by decide +kernel
theorem dX10_see_16 : decode cX10_see 16 = .ok (.lconst 0, 1) := by decide +kernel
theorem dX10_see_17 : decode cX10_see 17 = .ok (.ldc2_w 216, 3) := by decide +kernel
theorem dX10_see_20 : decode cX10_see 20 = .ok (.invokestatic 68, 3) := by decide +kernel
theorem dX10_see_23 : decode cX10_see 23 = .ok (.ifCond .ne 6, 3) := by decide +kernel
theorem dX10_see_26 : decode cX10_see 26 = .ok (.bipush (-2), 2) := by decide +kernel
theorem dX10_see_28 : decode cX10_see 28 = .ok (.ireturn, 1) := by decide +kernel
theorem dX10_see_29 : decode cX10_see 29 = .ok (.aload_n 0, 1) := by decide +kernel
theorem dX10_see_30 : decode cX10_see 30 = .ok (.getfield 218, 3) := by decide +kernel
theorem dX10_see_33 : decode cX10_see 33 = .ok (.bipush 6, 2) := by decide +kernel
theorem dX10_see_35 : decode cX10_see 35 = .ok (.if_icmp .ne 6, 3) := by decide +kernel
theorem dX10_see_38 : decode cX10_see 38 = .ok (.bipush (-4), 2) := by decide +kernel
theorem dX10_see_40 : decode cX10_see 40 = .ok (.ireturn, 1) := by decide +kernel
theorem dX10_see_41 : decode cX10_see 41 = .ok (.aload_n 0, 1) := by decide +kernel
theorem dX10_see_42 : decode cX10_see 42 = .ok (.getfield 53, 3) := by decide +kernel
theorem dX10_see_45 : decode cX10_see 45 = .ok (.aload_n 0, 1) := by decide +kernel
theorem dX10_see_46 : decode cX10_see 46 = .ok (.getfield 218, 3) := by decide +kernel
theorem dX10_see_49 : decode cX10_see 49 = .ok (.iload_n 1, 1) := by decide +kernel
theorem dX10_see_50 : decode cX10_see 50 = .ok (.iastore, 1) := by decide +kernel
theorem dX10_see_51 : decode cX10_see 51 = .ok (.aload_n 0, 1) := by decide +kernel
theorem dX10_see_52 : decode cX10_see 52 = .ok (.getfield 56, 3) := by decide +kernel
theorem dX10_see_55 : decode cX10_see 55 = .ok (.aload_n 0, 1) := by decide +kernel
theorem dX10_see_56 : decode cX10_see 56 = .ok (.getfield 218, 3) := by decide +kernel
theorem dX10_see_59 : decode cX10_see 59 = .ok (.iload_n 2, 1) := by decide +kernel
theorem dX10_see_60 : decode cX10_see 60 = .ok (.iastore, 1) := by decide +kernel
theorem dX10_see_61 : decode cX10_see 61 = .ok (.aload_n 0, 1) := by decide +kernel
theorem dX10_see_62 : decode cX10_see 62 = .ok (.dup, 1) := by decide +kernel
theorem dX10_see_63 : decode cX10_see 63 = .ok (.getfield 218, 3) := by decide +kernel
theorem dX10_see_66 : decode cX10_see 66 = .ok (.iconst 1, 1) := by decide +kernel
theorem dX10_see_67 : decode cX10_see 67 = .ok (.iadd, 1) := by decide +kernel
theorem dX10_see_68 : decode cX10_see 68 = .ok (.putfield 218, 3) := by decide +kernel
theorem dX10_see_71 : decode cX10_see 71 = .ok (.aload_n 0, 1) := by decide +kernel
theorem dX10_see_72 : decode cX10_see 72 = .ok (.getfield 218, 3) := by decide +kernel
theorem dX10_see_75 : decode cX10_see 75 = .ok (.ireturn, 1) := by decide +kernel
theorem dX10_unsee_0 : decode cX10_unsee 0 = .ok (.aload_n 0, 1) := by decide +kernel
theorem dX10_unsee_1 : decode cX10_unsee 1 = .ok (.getfield 218, 3) := by decide +kernel
theorem dX10_unsee_4 : decode cX10_unsee 4 = .ok (.istore_n 1, 1) := by decide +kernel
theorem dX10_unsee_5 : decode cX10_unsee 5 = .ok (.aload_n 0, 1) := by decide +kernel
theorem dX10_unsee_6 : decode cX10_unsee 6 = .ok (.iconst 0, 1) := by decide +kernel
theorem dX10_unsee_7 : decode cX10_unsee 7 = .ok (.putfield 218, 3) := by decide +kernel
theorem dX10_unsee_10 : decode cX10_unsee 10 = .ok (.iload_n 1, 1) := by decide +kernel
theorem dX10_unsee_11 : decode cX10_unsee 11 = .ok (.ireturn, 1) := by decide +kernel
theorem dX10_behind_0 : decode cX10_behind 0 = .ok (.iload_n 1, 1) := by decide +kernel
theorem dX10_behind_1 : decode cX10_behind 1 = .ok (.istore 4, 2) := by decide +kernel
theorem dX10_behind_3 : decode cX10_behind 3 = .ok (.iconst 0, 1) := by decide +kernel
theorem dX10_behind_4 : decode cX10_behind 4 = .ok (.istore 5, 2) := by decide +kernel
theorem dX10_behind_6 : decode cX10_behind 6 = .ok (.iload 5, 2) := by decide +kernel
theorem dX10_behind_8 : decode cX10_behind 8 = .ok (.iload_n 3, 1) := by decide +kernel
theorem dX10_behind_9 : decode cX10_behind 9 = .ok (.if_icmp .ge 23, 3) := by decide +kernel
theorem dX10_behind_12 : decode cX10_behind 12 = .ok (.iload 4, 2) := by decide +kernel
theorem dX10_behind_14 : decode cX10_behind 14 = .ok (.iload_n 2, 1) := by decide +kernel
theorem dX10_behind_15 : decode cX10_behind 15 = .ok (.aload_n 0, 1) := by decide +kernel
theorem dX10_behind_16 : decode cX10_behind 16 = .ok (.iload 5, 2) := by decide +kernel
theorem dX10_behind_18 : decode cX10_behind 18 = .ok (.invokevirtual 134, 3) := by decide +kernel
theorem dX10_behind_21 : decode cX10_behind 21 = .ok (.invokestatic 138, 3) := by decide +kernel
theorem dX10_behind_24 : decode cX10_behind 24 = .ok (.istore 4, 2) := by decide +kernel
theorem dX10_behind_26 : decode cX10_behind 26 = .ok (.iinc 5 1, 3) := by decide +kernel
theorem dX10_behind_29 : decode cX10_behind 29 = .ok (.goto (-23), 3) := by decide +kernel
theorem dX10_behind_32 : decode cX10_behind 32 = .ok (.iload 4, 2) := by decide +kernel
theorem dX10_behind_34 : decode cX10_behind 34 = .ok (.ireturn, 1) := by decide +kernel
theorem dX10_began_0 : decode cX10_began 0 = .ok (.iload_n 1, 1) := by decide +kernel
theorem dX10_began_1 : decode cX10_began 1 = .ok (.i2l, 1) := by decide +kernel
theorem dX10_began_2 : decode cX10_began 2 = .ok (.lconst 0, 1) := by decide +kernel
theorem dX10_began_3 : decode cX10_began 3 = .ok (.ldc2_w 221, 3) := by decide +kernel
theorem dX10_began_6 : decode cX10_began 6 = .ok (.invokestatic 68, 3) := by decide +kernel
theorem dX10_began_9 : decode cX10_began 9 = .ok (.ifCond .ne 6, 3) := by decide +kernel
theorem dX10_began_12 : decode cX10_began 12 = .ok (.bipush (-2), 2) := by decide +kernel
theorem dX10_began_14 : decode cX10_began 14 = .ok (.ireturn, 1) := by decide +kernel
theorem dX10_began_15 : decode cX10_began 15 = .ok (.iconst 0, 1) := by decide +kernel
theorem dX10_began_16 : decode cX10_began 16 = .ok (.istore_n 2, 1) := by decide +kernel
theorem dX10_began_17 : decode cX10_began 17 = .ok (.iconst 0, 1) := by decide +kernel
theorem dX10_began_18 : decode cX10_began 18 = .ok (.istore_n 3, 1) := by decide +kernel
theorem dX10_began_19 : decode cX10_began 19 = .ok (.iload_n 3, 1) := by decide +kernel
theorem dX10_began_20 : decode cX10_began 20 = .ok (.bipush 6, 2) := by decide +kernel
theorem dX10_began_22 : decode cX10_began 22 = .ok (.if_icmp .ge 80, 3) := by decide +kernel
theorem dX10_began_25 : decode cX10_began 25 = .ok (.iconst 1, 1) := by decide +kernel
theorem dX10_began_26 : decode cX10_began 26 = .ok (.istore 4, 2) := by decide +kernel
theorem dX10_began_28 : decode cX10_began 28 = .ok (.iconst 0, 1) := by decide +kernel
theorem dX10_began_29 : decode cX10_began 29 = .ok (.istore 5, 2) := by decide +kernel
theorem dX10_began_31 : decode cX10_began 31 = .ok (.iload 5, 2) := by decide +kernel
theorem dX10_began_33 : decode cX10_began 33 = .ok (.aload_n 0, 1) := by decide +kernel
theorem dX10_began_34 : decode cX10_began 34 = .ok (.getfield 218, 3) := by decide +kernel
theorem dX10_began_37 : decode cX10_began 37 = .ok (.if_icmp .ge 44, 3) := by decide +kernel
theorem dX10_began_40 : decode cX10_began 40 = .ok (.iload 4, 2) := by decide +kernel
theorem dX10_began_42 : decode cX10_began 42 = .ok (.ifCond .eq 30, 3) := by decide +kernel
theorem dX10_began_45 : decode cX10_began 45 = .ok (.aload_n 0, 1) := by decide +kernel
theorem dX10_began_46 : decode cX10_began 46 = .ok (.iload_n 3, 1) := by decide +kernel
theorem dX10_began_47 : decode cX10_began 47 = .ok (.iload_n 1, 1) := by decide +kernel
theorem dX10_began_48 : decode cX10_began 48 = .ok (.aload_n 0, 1) := by decide +kernel
theorem dX10_began_49 : decode cX10_began 49 = .ok (.getfield 56, 3) := by decide +kernel
theorem dX10_began_52 : decode cX10_began 52 = .ok (.iload 5, 2) := by decide +kernel
theorem dX10_began_54 : decode cX10_began 54 = .ok (.iaload, 1) := by decide +kernel
theorem dX10_began_55 : decode cX10_began 55 = .ok (.invokevirtual 223, 3) := by decide +kernel
theorem dX10_began_58 : decode cX10_began 58 = .ok (.aload_n 0, 1) := by decide +kernel
theorem dX10_began_59 : decode cX10_began 59 = .ok (.getfield 53, 3) := by decide +kernel
theorem dX10_began_62 : decode cX10_began 62 = .ok (.iload 5, 2) := by decide +kernel
theorem dX10_began_64 : decode cX10_began 64 = .ok (.iaload, 1) := by decide +kernel
theorem dX10_began_65 : decode cX10_began 65 = .ok (.if_icmp .ne 7, 3) := by decide +kernel
theorem dX10_began_68 : decode cX10_began 68 = .ok (.iconst 1, 1) := by decide +kernel
theorem dX10_began_69 : decode cX10_began 69 = .ok (.goto 4, 3) := by decide +kernel
theorem dX10_began_72 : decode cX10_began 72 = .ok (.iconst 0, 1) := by decide +kernel
theorem dX10_began_73 : decode cX10_began 73 = .ok (.istore 4, 2) := by decide +kernel
theorem dX10_began_75 : decode cX10_began 75 = .ok (.iinc 5 1, 3) := by decide +kernel
theorem dX10_began_78 : decode cX10_began 78 = .ok (.goto (-47), 3) := by decide +kernel
theorem dX10_began_81 : decode cX10_began 81 = .ok (.iload_n 2, 1) := by decide +kernel
theorem dX10_began_82 : decode cX10_began 82 = .ok (.iload 4, 2) := by decide +kernel
theorem dX10_began_84 : decode cX10_began 84 = .ok (.ifCond .eq 9, 3) := by decide +kernel
theorem dX10_began_87 : decode cX10_began 87 = .ok (.iconst 1, 1) := by decide +kernel
theorem dX10_began_88 : decode cX10_began 88 = .ok (.iload_n 3, 1) := by decide +kernel
theorem dX10_began_89 : decode cX10_began 89 = .ok (.ishl, 1) := by decide +kernel
theorem dX10_began_90 : decode cX10_began 90 = .ok (.goto 4, 3) := by decide +kernel
theorem dX10_began_93 : decode cX10_began 93 = .ok (.iconst 0, 1) := by decide +kernel
theorem dX10_began_94 : decode cX10_began 94 = .ok (.ior, 1) := by decide +kernel
theorem dX10_began_95 : decode cX10_began 95 = .ok (.istore_n 2, 1) := by decide +kernel
theorem dX10_began_96 : decode cX10_began 96 = .ok (.iinc 3 1, 3) := by decide +kernel
theorem dX10_began_99 : decode cX10_began 99 = .ok (.goto (-80), 3) := by decide +kernel
theorem dX10_began_102 : decode cX10_began 102 = .ok (.iload_n 2, 1) := by decide +kernel
theorem dX10_began_103 : decode cX10_began 103 = .ok (.ireturn, 1) := by decide +kernel
theorem dX10_factorial_0 : decode cX10_factorial 0 = .ok (.iconst 1, 1) := by decide +kernel
theorem dX10_factorial_1 : decode cX10_factorial 1 = .ok (.istore_n 1, 1) := by decide +kernel
theorem dX10_factorial_2 : decode cX10_factorial 2 = .ok (.iconst 2, 1) := by decide +kernel
theorem dX10_factorial_3 : decode cX10_factorial 3 = .ok (.istore_n 2, 1) := by decide +kernel
theorem dX10_factorial_4 : decode cX10_factorial 4 = .ok (.iload_n 2, 1) := by decide +kernel
theorem dX10_factorial_5 : decode cX10_factorial 5 = .ok (.iload_n 0, 1) := by decide +kernel
theorem dX10_factorial_6 : decode cX10_factorial 6 = .ok (.if_icmp .gt 13, 3) := by decide +kernel
theorem dX10_factorial_9 : decode cX10_factorial 9 = .ok (.iload_n 1, 1) := by decide +kernel
theorem dX10_factorial_10 : decode cX10_factorial 10 = .ok (.iload_n 2, 1) := by decide +kernel
theorem dX10_factorial_11 : decode cX10_factorial 11 = .ok (.imul, 1) := by decide +kernel
theorem dX10_factorial_12 : decode cX10_factorial 12 = .ok (.istore_n 1, 1) := by decide +kernel
theorem dX10_factorial_13 : decode cX10_factorial 13 = .ok (.iinc 2 1, 3) := by decide +kernel
theorem dX10_factorial_16 : decode cX10_factorial 16 = .ok (.goto (-12), 3) := by decide +kernel
theorem dX10_factorial_19 : decode cX10_factorial 19 = .ok (.iload_n 1, 1) := by decide +kernel
theorem dX10_factorial_20 : decode cX10_factorial 20 = .ok (.ireturn, 1) := by decide +kernel
theorem dX10_common_0 : decode cX10_common 0 = .ok (.iload_n 0, 1) := by decide +kernel
theorem dX10_common_1 : decode cX10_common 1 = .ok (.ifCond .ge 8, 3) := by decide +kernel
theorem dX10_common_4 : decode cX10_common 4 = .ok (.iload_n 0, 1) := by decide +kernel
theorem dX10_common_5 : decode cX10_common 5 = .ok (.ineg, 1) := by decide +kernel
theorem dX10_common_6 : decode cX10_common 6 = .ok (.goto 4, 3) := by decide +kernel
theorem dX10_common_9 : decode cX10_common 9 = .ok (.iload_n 0, 1) := by decide +kernel
theorem dX10_common_10 : decode cX10_common 10 = .ok (.istore_n 2, 1) := by decide +kernel
theorem dX10_common_11 : decode cX10_common 11 = .ok (.iload_n 1, 1) := by decide +kernel
theorem dX10_common_12 : decode cX10_common 12 = .ok (.istore_n 3, 1) := by decide +kernel
theorem dX10_common_13 : decode cX10_common 13 = .ok (.iload_n 3, 1) := by decide +kernel
theorem dX10_common_14 : decode cX10_common 14 = .ok (.ifCond .eq 16, 3) := by decide +kernel
theorem dX10_common_17 : decode cX10_common 17 = .ok (.iload_n 2, 1) := by decide +kernel
theorem dX10_common_18 : decode cX10_common 18 = .ok (.iload_n 3, 1) := by decide +kernel
theorem dX10_common_19 : decode cX10_common 19 = .ok (.irem, 1) := by decide +kernel
theorem dX10_common_20 : decode cX10_common 20 = .ok (.istore 4, 2) := by decide +kernel
theorem dX10_common_22 : decode cX10_common 22 = .ok (.iload_n 3, 1) := by decide +kernel
theorem dX10_common_23 : decode cX10_common 23 = .ok (.istore_n 2, 1) := by decide +kernel
theorem dX10_common_24 : decode cX10_common 24 = .ok (.iload 4, 2) := by decide +kernel
theorem dX10_common_26 : decode cX10_common 26 = .ok (.istore_n 3, 1) := by decide +kernel
theorem dX10_common_27 : decode cX10_common 27 = .ok (.goto (-14), 3) := by decide +kernel
theorem dX10_common_30 : decode cX10_common 30 = .ok (.iload_n 2, 1) := by decide +kernel
theorem dX10_common_31 : decode cX10_common 31 = .ok (.ireturn, 1) := by decide +kernel
theorem dX10_mostBy_0 : decode cX10_mostBy 0 = .ok (.aload_n 0, 1) := by decide +kernel
theorem dX10_mostBy_1 : decode cX10_mostBy 1 = .ok (.iload_n 1, 1) := by decide +kernel
theorem dX10_mostBy_2 : decode cX10_mostBy 2 = .ok (.putfield 43, 3) := by decide +kernel
theorem dX10_mostBy_5 : decode cX10_mostBy 5 = .ok (.aload_n 0, 1) := by decide +kernel
theorem dX10_mostBy_6 : decode cX10_mostBy 6 = .ok (.iconst 0, 1) := by decide +kernel
theorem dX10_mostBy_7 : decode cX10_mostBy 7 = .ok (.invokevirtual 197, 3) := by decide +kernel
theorem dX10_mostBy_10 : decode cX10_mostBy 10 = .ok (.istore_n 2, 1) := by decide +kernel
theorem dX10_mostBy_11 : decode cX10_mostBy 11 = .ok (.aload_n 0, 1) := by decide +kernel
theorem dX10_mostBy_12 : decode cX10_mostBy 12 = .ok (.bipush 15, 2) := by decide +kernel
theorem dX10_mostBy_14 : decode cX10_mostBy 14 = .ok (.putfield 43, 3) := by decide +kernel
theorem dX10_mostBy_17 : decode cX10_mostBy 17 = .ok (.iload_n 2, 1) := by decide +kernel
theorem dX10_mostBy_18 : decode cX10_mostBy 18 = .ok (.ireturn, 1) := by decide +kernel
theorem dX10_share_0 : decode cX10_share 0 = .ok (.aload_n 0, 1) := by decide +kernel
theorem dX10_share_1 : decode cX10_share 1 = .ok (.iload_n 1, 1) := by decide +kernel
theorem dX10_share_2 : decode cX10_share 2 = .ok (.invokevirtual 118, 3) := by decide +kernel
theorem dX10_share_5 : decode cX10_share 5 = .ok (.ifCond .ne 5, 3) := by decide +kernel
theorem dX10_share_8 : decode cX10_share 8 = .ok (.iconst (-1), 1) := by decide +kernel
theorem dX10_share_9 : decode cX10_share 9 = .ok (.ireturn, 1) := by decide +kernel
theorem dX10_share_10 : decode cX10_share 10 = .ok (.iconst 0, 1) := by decide +kernel
theorem dX10_share_11 : decode cX10_share 11 = .ok (.istore_n 3, 1) := by decide +kernel
theorem dX10_share_12 : decode cX10_share 12 = .ok (.iconst 0, 1) := by decide +kernel
theorem dX10_share_13 : decode cX10_share 13 = .ok (.istore 4, 2) := by decide +kernel
theorem dX10_share_15 : decode cX10_share 15 = .ok (.iload 4, 2) := by decide +kernel
theorem dX10_share_17 : decode cX10_share 17 = .ok (.iconst 1, 1) := by decide +kernel
theorem dX10_share_18 : decode cX10_share 18 = .ok (.aload_n 0, 1) := by decide +kernel
theorem dX10_share_19 : decode cX10_share 19 = .ok (.getfield 105, 3) := by decide +kernel
theorem dX10_share_22 : decode cX10_share 22 = .ok (.ishl, 1) := by decide +kernel
theorem dX10_share_23 : decode cX10_share 23 = .ok (.if_icmp .ge 67, 3) := by decide +kernel
theorem dX10_share_26 : decode cX10_share 26 = .ok (.iload 4, 2) := by decide +kernel
theorem dX10_share_28 : decode cX10_share 28 = .ok (.iload_n 1, 1) := by decide +kernel
theorem dX10_share_29 : decode cX10_share 29 = .ok (.invokestatic 114, 3) := by decide +kernel
theorem dX10_share_32 : decode cX10_share 32 = .ok (.ifCond .ne 52, 3) := by decide +kernel
theorem dX10_share_35 : decode cX10_share 35 = .ok (.iload 4, 2) := by decide +kernel
theorem dX10_share_37 : decode cX10_share 37 = .ok (.invokestatic 226, 3) := by decide +kernel
theorem dX10_share_40 : decode cX10_share 40 = .ok (.invokestatic 229, 3) := by decide +kernel
theorem dX10_share_43 : decode cX10_share 43 = .ok (.aload_n 0, 1) := by decide +kernel
theorem dX10_share_44 : decode cX10_share 44 = .ok (.getfield 105, 3) := by decide +kernel
theorem dX10_share_47 : decode cX10_share 47 = .ok (.iconst 1, 1) := by decide +kernel
theorem dX10_share_48 : decode cX10_share 48 = .ok (.isub, 1) := by decide +kernel
theorem dX10_share_49 : decode cX10_share 49 = .ok (.iload 4, 2) := by decide +kernel
theorem dX10_share_51 : decode cX10_share 51 = .ok (.invokestatic 226, 3) := by decide +kernel
theorem dX10_share_54 : decode cX10_share 54 = .ok (.isub, 1) := by decide +kernel
theorem dX10_share_55 : decode cX10_share 55 = .ok (.invokestatic 229, 3) := by decide +kernel
theorem dX10_share_58 : decode cX10_share 58 = .ok (.imul, 1) := by decide +kernel
theorem dX10_share_59 : decode cX10_share 59 = .ok (.istore 5, 2) := by decide +kernel
theorem dX10_share_61 : decode cX10_share 61 = .ok (.iload_n 3, 1) := by decide +kernel
theorem dX10_share_62 : decode cX10_share 62 = .ok (.iload 5, 2) := by decide +kernel
theorem dX10_share_64 : decode cX10_share 64 = .ok (.aload_n 0, 1) := by decide +kernel
theorem dX10_share_65 : decode cX10_share 65 = .ok (.iload 4, 2) := by decide +kernel
theorem dX10_share_67 : decode cX10_share 67 = .ok (.iconst 1, 1) := by decide +kernel
theorem dX10_share_68 : decode cX10_share 68 = .ok (.iload_n 1, 1) := by decide +kernel
theorem dX10_share_69 : decode cX10_share 69 = .ok (.ishl, 1) := by decide +kernel
theorem dX10_share_70 : decode cX10_share 70 = .ok (.ior, 1) := by decide +kernel
theorem dX10_share_71 : decode cX10_share 71 = .ok (.invokevirtual 232, 3) := by decide +kernel
theorem dX10_share_74 : decode cX10_share 74 = .ok (.aload_n 0, 1) := by decide +kernel
theorem dX10_share_75 : decode cX10_share 75 = .ok (.iload 4, 2) := by decide +kernel
theorem dX10_share_77 : decode cX10_share 77 = .ok (.invokevirtual 232, 3) := by decide +kernel
theorem dX10_share_80 : decode cX10_share 80 = .ok (.isub, 1) := by decide +kernel
theorem dX10_share_81 : decode cX10_share 81 = .ok (.imul, 1) := by decide +kernel
theorem dX10_share_82 : decode cX10_share 82 = .ok (.iadd, 1) := by decide +kernel
theorem dX10_share_83 : decode cX10_share 83 = .ok (.istore_n 3, 1) := by decide +kernel
theorem dX10_share_84 : decode cX10_share 84 = .ok (.iinc 4 1, 3) := by decide +kernel
theorem dX10_share_87 : decode cX10_share 87 = .ok (.goto (-72), 3) := by decide +kernel
theorem dX10_share_90 : decode cX10_share 90 = .ok (.iload_n 3, 1) := by decide +kernel
theorem dX10_share_91 : decode cX10_share 91 = .ok (.aload_n 0, 1) := by decide +kernel
theorem dX10_share_92 : decode cX10_share 92 = .ok (.getfield 105, 3) := by decide +kernel
theorem dX10_share_95 : decode cX10_share 95 = .ok (.invokestatic 229, 3) := by decide +kernel
theorem dX10_share_98 : decode cX10_share 98 = .ok (.invokestatic 235, 3) := by decide +kernel
theorem dX10_share_101 : decode cX10_share 101 = .ok (.istore 4, 2) := by decide +kernel
theorem dX10_share_103 : decode cX10_share 103 = .ok (.iload_n 2, 1) := by decide +kernel
theorem dX10_share_104 : decode cX10_share 104 = .ok (.ifCond .eq 10, 3) := by decide +kernel
theorem dX10_share_107 : decode cX10_share 107 = .ok (.iload_n 3, 1) := by decide +kernel
theorem dX10_share_108 : decode cX10_share 108 = .ok (.iload 4, 2) := by decide +kernel
theorem dX10_share_110 : decode cX10_share 110 = .ok (.idiv, 1) := by decide +kernel
theorem dX10_share_111 : decode cX10_share 111 = .ok (.goto 13, 3) := by decide +kernel
theorem dX10_share_114 : decode cX10_share 114 = .ok (.aload_n 0, 1) := by decide +kernel
theorem dX10_share_115 : decode cX10_share 115 = .ok (.getfield 105, 3) := by decide +kernel
theorem dX10_share_118 : decode cX10_share 118 = .ok (.invokestatic 229, 3) := by decide +kernel
theorem dX10_share_121 : decode cX10_share 121 = .ok (.iload 4, 2) := by decide +kernel
theorem dX10_share_123 : decode cX10_share 123 = .ok (.idiv, 1) := by decide +kernel
theorem dX10_share_124 : decode cX10_share 124 = .ok (.ireturn, 1) := by decide +kernel
theorem dX10_choose_0 : decode cX10_choose 0 = .ok (.iload_n 2, 1) := by decide +kernel
theorem dX10_choose_1 : decode cX10_choose 1 = .ok (.iconst 2, 1) := by decide +kernel
theorem dX10_choose_2 : decode cX10_choose 2 = .ok (.if_icmp .ge 19, 3) := by decide +kernel
theorem dX10_choose_5 : decode cX10_choose 5 = .ok (.aload_n 0, 1) := by decide +kernel
theorem dX10_choose_6 : decode cX10_choose 6 = .ok (.iconst 1, 1) := by decide +kernel
theorem dX10_choose_7 : decode cX10_choose 7 = .ok (.iload_n 1, 1) := by decide +kernel
theorem dX10_choose_8 : decode cX10_choose 8 = .ok (.iload_n 2, 1) := by decide +kernel
theorem dX10_choose_9 : decode cX10_choose 9 = .ok (.iconst 1, 1) := by decide +kernel
theorem dX10_choose_10 : decode cX10_choose 10 = .ok (.if_icmp .ne 7, 3) := by decide +kernel
theorem dX10_choose_13 : decode cX10_choose 13 = .ok (.iconst 1, 1) := by decide +kernel
theorem dX10_choose_14 : decode cX10_choose 14 = .ok (.goto 4, 3) := by decide +kernel
theorem dX10_choose_17 : decode cX10_choose 17 = .ok (.iconst 0, 1) := by decide +kernel
theorem dX10_choose_18 : decode cX10_choose 18 = .ok (.invokevirtual 181, 3) := by decide +kernel
theorem dX10_choose_21 : decode cX10_choose 21 = .ok (.return_, 1) := by decide +kernel
theorem dX10_gain_0 : decode cX10_gain 0 = .ok (.aload_n 0, 1) := by decide +kernel
theorem dX10_gain_1 : decode cX10_gain 1 = .ok (.invokevirtual 191, 3) := by decide +kernel
theorem dX10_gain_4 : decode cX10_gain 4 = .ok (.aload_n 0, 1) := by decide +kernel
theorem dX10_gain_5 : decode cX10_gain 5 = .ok (.iload_n 1, 1) := by decide +kernel
theorem dX10_gain_6 : decode cX10_gain 6 = .ok (.iload_n 3, 1) := by decide +kernel
theorem dX10_gain_7 : decode cX10_gain 7 = .ok (.invokevirtual 238, 3) := by decide +kernel
theorem dX10_gain_10 : decode cX10_gain 10 = .ok (.aload_n 0, 1) := by decide +kernel
theorem dX10_gain_11 : decode cX10_gain 11 = .ok (.iload_n 2, 1) := by decide +kernel
theorem dX10_gain_12 : decode cX10_gain 12 = .ok (.iload 4, 2) := by decide +kernel
theorem dX10_gain_14 : decode cX10_gain 14 = .ok (.invokevirtual 238, 3) := by decide +kernel
theorem dX10_gain_17 : decode cX10_gain 17 = .ok (.aload_n 0, 1) := by decide +kernel
theorem dX10_gain_18 : decode cX10_gain 18 = .ok (.iconst 1, 1) := by decide +kernel
theorem dX10_gain_19 : decode cX10_gain 19 = .ok (.iload_n 1, 1) := by decide +kernel
theorem dX10_gain_20 : decode cX10_gain 20 = .ok (.invokevirtual 128, 3) := by decide +kernel
theorem dX10_gain_23 : decode cX10_gain 23 = .ok (.aload_n 0, 1) := by decide +kernel
theorem dX10_gain_24 : decode cX10_gain 24 = .ok (.iconst 1, 1) := by decide +kernel
theorem dX10_gain_25 : decode cX10_gain 25 = .ok (.aload_n 0, 1) := by decide +kernel
theorem dX10_gain_26 : decode cX10_gain 26 = .ok (.iconst 1, 1) := by decide +kernel
theorem dX10_gain_27 : decode cX10_gain 27 = .ok (.iload_n 1, 1) := by decide +kernel
theorem dX10_gain_28 : decode cX10_gain 28 = .ok (.invokevirtual 152, 3) := by decide +kernel
theorem dX10_gain_31 : decode cX10_gain 31 = .ok (.invokevirtual 158, 3) := by decide +kernel
theorem dX10_gain_34 : decode cX10_gain 34 = .ok (.invokestatic 161, 3) := by decide +kernel
theorem dX10_gain_37 : decode cX10_gain 37 = .ok (.istore 5, 2) := by decide +kernel
theorem dX10_gain_39 : decode cX10_gain 39 = .ok (.iload 5, 2) := by decide +kernel
theorem dX10_gain_41 : decode cX10_gain 41 = .ok (.aload_n 0, 1) := by decide +kernel
theorem dX10_gain_42 : decode cX10_gain 42 = .ok (.getfield 28, 3) := by decide +kernel
theorem dX10_gain_45 : decode cX10_gain 45 = .ok (.bipush 16, 2) := by decide +kernel
theorem dX10_gain_47 : decode cX10_gain 47 = .ok (.iload_n 1, 1) := by decide +kernel
theorem dX10_gain_48 : decode cX10_gain 48 = .ok (.iadd, 1) := by decide +kernel
theorem dX10_gain_49 : decode cX10_gain 49 = .ok (.iaload, 1) := by decide +kernel
theorem dX10_gain_50 : decode cX10_gain 50 = .ok (.aload_n 0, 1) := by decide +kernel
theorem dX10_gain_51 : decode cX10_gain 51 = .ok (.getfield 28, 3) := by decide +kernel
theorem dX10_gain_54 : decode cX10_gain 54 = .ok (.bipush 16, 2) := by decide +kernel
theorem dX10_gain_56 : decode cX10_gain 56 = .ok (.iload_n 2, 1) := by decide +kernel
theorem dX10_gain_57 : decode cX10_gain 57 = .ok (.iadd, 1) := by decide +kernel
theorem dX10_gain_58 : decode cX10_gain 58 = .ok (.iaload, 1) := by decide +kernel
theorem dX10_gain_59 : decode cX10_gain 59 = .ok (.if_icmp .ne 7, 3) := by decide +kernel
theorem dX10_gain_62 : decode cX10_gain 62 = .ok (.iconst 0, 1) := by decide +kernel
theorem dX10_gain_63 : decode cX10_gain 63 = .ok (.goto 4, 3) := by decide +kernel
theorem dX10_gain_66 : decode cX10_gain 66 = .ok (.iconst 2, 1) := by decide +kernel
theorem dX10_gain_67 : decode cX10_gain 67 = .ok (.iadd, 1) := by decide +kernel
theorem dX10_gain_68 : decode cX10_gain 68 = .ok (.iload_n 3, 1) := by decide +kernel
theorem dX10_gain_69 : decode cX10_gain 69 = .ok (.iconst 2, 1) := by decide +kernel
theorem dX10_gain_70 : decode cX10_gain 70 = .ok (.if_icmp .ge 7, 3) := by decide +kernel
theorem dX10_gain_73 : decode cX10_gain 73 = .ok (.iconst 1, 1) := by decide +kernel
theorem dX10_gain_74 : decode cX10_gain 74 = .ok (.goto 4, 3) := by decide +kernel
theorem dX10_gain_77 : decode cX10_gain 77 = .ok (.iconst 0, 1) := by decide +kernel
theorem dX10_gain_78 : decode cX10_gain 78 = .ok (.isub, 1) := by decide +kernel
theorem dX10_gain_79 : decode cX10_gain 79 = .ok (.ireturn, 1) := by decide +kernel
theorem dX10_isRest_0 : decode cX10_isRest 0 = .ok (.iconst 1, 1) := by decide +kernel
theorem dX10_isRest_1 : decode cX10_isRest 1 = .ok (.istore 5, 2) := by decide +kernel
theorem dX10_isRest_3 : decode cX10_isRest 3 = .ok (.iconst 0, 1) := by decide +kernel
theorem dX10_isRest_4 : decode cX10_isRest 4 = .ok (.istore 6, 2) := by decide +kernel
theorem dX10_isRest_6 : decode cX10_isRest 6 = .ok (.iload 6, 2) := by decide +kernel
theorem dX10_isRest_8 : decode cX10_isRest 8 = .ok (.iconst 3, 1) := by decide +kernel
theorem dX10_isRest_9 : decode cX10_isRest 9 = .ok (.if_icmp .ge 64, 3) := by decide +kernel
theorem dX10_isRest_12 : decode cX10_isRest 12 = .ok (.iload 5, 2) := by decide +kernel
theorem dX10_isRest_14 : decode cX10_isRest 14 = .ok (.ifCond .eq 50, 3) := by decide +kernel
theorem dX10_isRest_17 : decode cX10_isRest 17 = .ok (.aload_n 0, 1) := by decide +kernel
theorem dX10_isRest_18 : decode cX10_isRest 18 = .ok (.iload_n 1, 1) := by decide +kernel
theorem dX10_isRest_19 : decode cX10_isRest 19 = .ok (.iload_n 2, 1) := by decide +kernel
theorem dX10_isRest_20 : decode cX10_isRest 20 = .ok (.iload 6, 2) := by decide +kernel
theorem dX10_isRest_22 : decode cX10_isRest 22 = .ok (.iload 4, 2) := by decide +kernel
theorem dX10_isRest_24 : decode cX10_isRest 24 = .ok (.invokevirtual 241, 3) := by decide +kernel
theorem dX10_isRest_27 : decode cX10_isRest 27 = .ok (.aload_n 0, 1) := by decide +kernel
theorem dX10_isRest_28 : decode cX10_isRest 28 = .ok (.iload_n 1, 1) := by decide +kernel
theorem dX10_isRest_29 : decode cX10_isRest 29 = .ok (.iload_n 2, 1) := by decide +kernel
theorem dX10_isRest_30 : decode cX10_isRest 30 = .ok (.iload_n 3, 1) := by decide +kernel
theorem dX10_isRest_31 : decode cX10_isRest 31 = .ok (.iload 4, 2) := by decide +kernel
theorem dX10_isRest_33 : decode cX10_isRest 33 = .ok (.invokevirtual 241, 3) := by decide +kernel
theorem dX10_isRest_36 : decode cX10_isRest 36 = .ok (.if_icmp .gt 28, 3) := by decide +kernel
theorem dX10_isRest_39 : decode cX10_isRest 39 = .ok (.aload_n 0, 1) := by decide +kernel
theorem dX10_isRest_40 : decode cX10_isRest 40 = .ok (.iload_n 2, 1) := by decide +kernel
theorem dX10_isRest_41 : decode cX10_isRest 41 = .ok (.iload_n 1, 1) := by decide +kernel
theorem dX10_isRest_42 : decode cX10_isRest 42 = .ok (.iload 6, 2) := by decide +kernel
theorem dX10_isRest_44 : decode cX10_isRest 44 = .ok (.iload_n 3, 1) := by decide +kernel
theorem dX10_isRest_45 : decode cX10_isRest 45 = .ok (.invokevirtual 241, 3) := by decide +kernel
theorem dX10_isRest_48 : decode cX10_isRest 48 = .ok (.aload_n 0, 1) := by decide +kernel
theorem dX10_isRest_49 : decode cX10_isRest 49 = .ok (.iload_n 2, 1) := by decide +kernel
theorem dX10_isRest_50 : decode cX10_isRest 50 = .ok (.iload_n 1, 1) := by decide +kernel
theorem dX10_isRest_51 : decode cX10_isRest 51 = .ok (.iload 4, 2) := by decide +kernel
theorem dX10_isRest_53 : decode cX10_isRest 53 = .ok (.iload_n 3, 1) := by decide +kernel
theorem dX10_isRest_54 : decode cX10_isRest 54 = .ok (.invokevirtual 241, 3) := by decide +kernel
theorem dX10_isRest_57 : decode cX10_isRest 57 = .ok (.if_icmp .gt 7, 3) := by decide +kernel
theorem dX10_isRest_60 : decode cX10_isRest 60 = .ok (.iconst 1, 1) := by decide +kernel
theorem dX10_isRest_61 : decode cX10_isRest 61 = .ok (.goto 4, 3) := by decide +kernel
theorem dX10_isRest_64 : decode cX10_isRest 64 = .ok (.iconst 0, 1) := by decide +kernel
theorem dX10_isRest_65 : decode cX10_isRest 65 = .ok (.istore 5, 2) := by decide +kernel
theorem dX10_isRest_67 : decode cX10_isRest 67 = .ok (.iinc 6 1, 3) := by decide +kernel
theorem dX10_isRest_70 : decode cX10_isRest 70 = .ok (.goto (-64), 3) := by decide +kernel
theorem dX10_isRest_73 : decode cX10_isRest 73 = .ok (.iload 5, 2) := by decide +kernel
theorem dX10_isRest_75 : decode cX10_isRest 75 = .ok (.ireturn, 1) := by decide +kernel
theorem dX10_rests_0 : decode cX10_rests 0 = .ok (.aload_n 0, 1) := by decide +kernel
theorem dX10_rests_1 : decode cX10_rests 1 = .ok (.iload_n 1, 1) := by decide +kernel
theorem dX10_rests_2 : decode cX10_rests 2 = .ok (.invokevirtual 118, 3) := by decide +kernel
theorem dX10_rests_5 : decode cX10_rests 5 = .ok (.ifCond .eq 11, 3) := by decide +kernel
theorem dX10_rests_8 : decode cX10_rests 8 = .ok (.aload_n 0, 1) := by decide +kernel
theorem dX10_rests_9 : decode cX10_rests 9 = .ok (.iload_n 2, 1) := by decide +kernel
theorem dX10_rests_10 : decode cX10_rests 10 = .ok (.invokevirtual 118, 3) := by decide +kernel
theorem dX10_rests_13 : decode cX10_rests 13 = .ok (.ifCond .ne 5, 3) := by decide +kernel
theorem dX10_rests_16 : decode cX10_rests 16 = .ok (.iconst (-1), 1) := by decide +kernel
theorem dX10_rests_17 : decode cX10_rests 17 = .ok (.ireturn, 1) := by decide +kernel
theorem dX10_rests_18 : decode cX10_rests 18 = .ok (.iload_n 1, 1) := by decide +kernel
theorem dX10_rests_19 : decode cX10_rests 19 = .ok (.iload_n 2, 1) := by decide +kernel
theorem dX10_rests_20 : decode cX10_rests 20 = .ok (.if_icmp .eq 13, 3) := by decide +kernel
theorem dX10_rests_23 : decode cX10_rests 23 = .ok (.iload_n 3, 1) := by decide +kernel
theorem dX10_rests_24 : decode cX10_rests 24 = .ok (.i2l, 1) := by decide +kernel
theorem dX10_rests_25 : decode cX10_rests 25 = .ok (.lconst 0, 1) := by decide +kernel
theorem dX10_rests_26 : decode cX10_rests 26 = .ok (.lconst 1, 1) := by decide +kernel
theorem dX10_rests_27 : decode cX10_rests 27 = .ok (.invokestatic 68, 3) := by decide +kernel
theorem dX10_rests_30 : decode cX10_rests 30 = .ok (.ifCond .ne 6, 3) := by decide +kernel
theorem dX10_rests_33 : decode cX10_rests 33 = .ok (.bipush (-2), 2) := by decide +kernel
theorem dX10_rests_35 : decode cX10_rests 35 = .ok (.ireturn, 1) := by decide +kernel
theorem dX10_rests_36 : decode cX10_rests 36 = .ok (.iconst 0, 1) := by decide +kernel
theorem dX10_rests_37 : decode cX10_rests 37 = .ok (.istore 4, 2) := by decide +kernel
theorem dX10_rests_39 : decode cX10_rests 39 = .ok (.bipush (-9), 2) := by decide +kernel
theorem dX10_rests_41 : decode cX10_rests 41 = .ok (.istore 5, 2) := by decide +kernel
theorem dX10_rests_43 : decode cX10_rests 43 = .ok (.iconst 0, 1) := by decide +kernel
theorem dX10_rests_44 : decode cX10_rests 44 = .ok (.istore 6, 2) := by decide +kernel
theorem dX10_rests_46 : decode cX10_rests 46 = .ok (.iload 6, 2) := by decide +kernel
theorem dX10_rests_48 : decode cX10_rests 48 = .ok (.bipush 9, 2) := by decide +kernel
theorem dX10_rests_50 : decode cX10_rests 50 = .ok (.if_icmp .ge 53, 3) := by decide +kernel
theorem dX10_rests_53 : decode cX10_rests 53 = .ok (.aload_n 0, 1) := by decide +kernel
theorem dX10_rests_54 : decode cX10_rests 54 = .ok (.iload_n 1, 1) := by decide +kernel
theorem dX10_rests_55 : decode cX10_rests 55 = .ok (.iload_n 2, 1) := by decide +kernel
theorem dX10_rests_56 : decode cX10_rests 56 = .ok (.iload 6, 2) := by decide +kernel
theorem dX10_rests_58 : decode cX10_rests 58 = .ok (.iconst 3, 1) := by decide +kernel
theorem dX10_rests_59 : decode cX10_rests 59 = .ok (.idiv, 1) := by decide +kernel
theorem dX10_rests_60 : decode cX10_rests 60 = .ok (.iload 6, 2) := by decide +kernel
theorem dX10_rests_62 : decode cX10_rests 62 = .ok (.iconst 3, 1) := by decide +kernel
theorem dX10_rests_63 : decode cX10_rests 63 = .ok (.irem, 1) := by decide +kernel
theorem dX10_rests_64 : decode cX10_rests 64 = .ok (.invokevirtual 245, 3) := by decide +kernel
theorem dX10_rests_67 : decode cX10_rests 67 = .ok (.ifCond .eq 30, 3) := by decide +kernel
theorem dX10_rests_70 : decode cX10_rests 70 = .ok (.iload 4, 2) := by decide +kernel
theorem dX10_rests_72 : decode cX10_rests 72 = .ok (.ifCond .ne 18, 3) := by decide +kernel
theorem dX10_rests_75 : decode cX10_rests 75 = .ok (.bipush 10, 2) := by decide +kernel
theorem dX10_rests_77 : decode cX10_rests 77 = .ok (.iload 6, 2) := by decide +kernel
theorem dX10_rests_79 : decode cX10_rests 79 = .ok (.iconst 3, 1) := by decide +kernel
theorem dX10_rests_80 : decode cX10_rests 80 = .ok (.idiv, 1) := by decide +kernel
theorem dX10_rests_81 : decode cX10_rests 81 = .ok (.imul, 1) := by decide +kernel
theorem dX10_rests_82 : decode cX10_rests 82 = .ok (.iload 6, 2) := by decide +kernel
theorem dX10_rests_84 : decode cX10_rests 84 = .ok (.iconst 3, 1) := by decide +kernel
theorem dX10_rests_85 : decode cX10_rests 85 = .ok (.irem, 1) := by decide +kernel
theorem dX10_rests_86 : decode cX10_rests 86 = .ok (.iadd, 1) := by decide +kernel
theorem dX10_rests_87 : decode cX10_rests 87 = .ok (.goto 5, 3) := by decide +kernel
theorem dX10_rests_90 : decode cX10_rests 90 = .ok (.iload 5, 2) := by decide +kernel
theorem dX10_rests_92 : decode cX10_rests 92 = .ok (.istore 5, 2) := by decide +kernel
theorem dX10_rests_94 : decode cX10_rests 94 = .ok (.iinc 4 1, 3) := by decide +kernel
theorem dX10_rests_97 : decode cX10_rests 97 = .ok (.iinc 6 1, 3) := by decide +kernel
theorem dX10_rests_100 : decode cX10_rests 100 = .ok (.goto (-54), 3) := by decide +kernel
theorem dX10_rests_103 : decode cX10_rests 103 = .ok (.iload_n 3, 1) := by decide +kernel
theorem dX10_rests_104 : decode cX10_rests 104 = .ok (.ifCond .ne 8, 3) := by decide +kernel
theorem dX10_rests_107 : decode cX10_rests 107 = .ok (.iload 4, 2) := by decide +kernel
theorem dX10_rests_109 : decode cX10_rests 109 = .ok (.goto 5, 3) := by decide +kernel
theorem dX10_rests_112 : decode cX10_rests 112 = .ok (.iload 5, 2) := by decide +kernel
theorem dX10_rests_114 : decode cX10_rests 114 = .ok (.ireturn, 1) := by decide +kernel
theorem dX10_fails_0 : decode cX10_fails 0 = .ok (.aload_n 0, 1) := by decide +kernel
theorem dX10_fails_1 : decode cX10_fails 1 = .ok (.iload_n 1, 1) := by decide +kernel
theorem dX10_fails_2 : decode cX10_fails 2 = .ok (.invokevirtual 118, 3) := by decide +kernel
theorem dX10_fails_5 : decode cX10_fails 5 = .ok (.ifCond .eq 15, 3) := by decide +kernel
theorem dX10_fails_8 : decode cX10_fails 8 = .ok (.iload_n 2, 1) := by decide +kernel
theorem dX10_fails_9 : decode cX10_fails 9 = .ok (.i2l, 1) := by decide +kernel
theorem dX10_fails_10 : decode cX10_fails 10 = .ok (.lconst 0, 1) := by decide +kernel
theorem dX10_fails_11 : decode cX10_fails 11 = .ok (.ldc2_w 214, 3) := by decide +kernel
theorem dX10_fails_14 : decode cX10_fails 14 = .ok (.invokestatic 68, 3) := by decide +kernel
theorem dX10_fails_17 : decode cX10_fails 17 = .ok (.ifCond .ne 5, 3) := by decide +kernel
theorem dX10_fails_20 : decode cX10_fails 20 = .ok (.iconst (-1), 1) := by decide +kernel
theorem dX10_fails_21 : decode cX10_fails 21 = .ok (.ireturn, 1) := by decide +kernel
theorem dX10_fails_22 : decode cX10_fails 22 = .ok (.iload_n 3, 1) := by decide +kernel
theorem dX10_fails_23 : decode cX10_fails 23 = .ok (.i2l, 1) := by decide +kernel
theorem dX10_fails_24 : decode cX10_fails 24 = .ok (.lconst 1, 1) := by decide +kernel
theorem dX10_fails_25 : decode cX10_fails 25 = .ok (.ldc2_w 249, 3) := by decide +kernel
theorem dX10_fails_28 : decode cX10_fails 28 = .ok (.invokestatic 68, 3) := by decide +kernel
theorem dX10_fails_31 : decode cX10_fails 31 = .ok (.ifCond .eq 16, 3) := by decide +kernel
theorem dX10_fails_34 : decode cX10_fails 34 = .ok (.iload 4, 2) := by decide +kernel
theorem dX10_fails_36 : decode cX10_fails 36 = .ok (.i2l, 1) := by decide +kernel
theorem dX10_fails_37 : decode cX10_fails 37 = .ok (.lconst 0, 1) := by decide +kernel
theorem dX10_fails_38 : decode cX10_fails 38 = .ok (.ldc2_w 251, 3) := by decide +kernel
theorem dX10_fails_41 : decode cX10_fails 41 = .ok (.invokestatic 68, 3) := by decide +kernel
theorem dX10_fails_44 : decode cX10_fails 44 = .ok (.ifCond .ne 6, 3) := by decide +kernel
theorem dX10_fails_47 : decode cX10_fails 47 = .ok (.bipush (-2), 2) := by decide +kernel
theorem dX10_fails_49 : decode cX10_fails 49 = .ok (.ireturn, 1) := by decide +kernel
theorem dX10_fails_50 : decode cX10_fails 50 = .ok (.iconst 0, 1) := by decide +kernel
theorem dX10_fails_51 : decode cX10_fails 51 = .ok (.istore 6, 2) := by decide +kernel
theorem dX10_fails_53 : decode cX10_fails 53 = .ok (.iconst 0, 1) := by decide +kernel
theorem dX10_fails_54 : decode cX10_fails 54 = .ok (.istore 7, 2) := by decide +kernel
theorem dX10_fails_56 : decode cX10_fails 56 = .ok (.iconst 0, 1) := by decide +kernel
theorem dX10_fails_57 : decode cX10_fails 57 = .ok (.istore 8, 2) := by decide +kernel
theorem dX10_fails_59 : decode cX10_fails 59 = .ok (.iload 8, 2) := by decide +kernel
theorem dX10_fails_61 : decode cX10_fails 61 = .ok (.iconst 1, 1) := by decide +kernel
theorem dX10_fails_62 : decode cX10_fails 62 = .ok (.iload_n 3, 1) := by decide +kernel
theorem dX10_fails_63 : decode cX10_fails 63 = .ok (.ishl, 1) := by decide +kernel
theorem dX10_fails_64 : decode cX10_fails 64 = .ok (.if_icmp .ge 108, 3) := by decide +kernel
theorem dX10_fails_67 : decode cX10_fails 67 = .ok (.iload 4, 2) := by decide +kernel
theorem dX10_fails_69 : decode cX10_fails 69 = .ok (.iload 8, 2) := by decide +kernel
theorem dX10_fails_71 : decode cX10_fails 71 = .ok (.invokestatic 226, 3) := by decide +kernel
theorem dX10_fails_74 : decode cX10_fails 74 = .ok (.invokestatic 200, 3) := by decide +kernel
theorem dX10_fails_77 : decode cX10_fails 77 = .ok (.bipush 10, 2) := by decide +kernel
theorem dX10_fails_79 : decode cX10_fails 79 = .ok (.iload 4, 2) := by decide +kernel
theorem dX10_fails_81 : decode cX10_fails 81 = .ok (.isub, 1) := by decide +kernel
theorem dX10_fails_82 : decode cX10_fails 82 = .ok (.iload_n 3, 1) := by decide +kernel
theorem dX10_fails_83 : decode cX10_fails 83 = .ok (.iload 8, 2) := by decide +kernel
theorem dX10_fails_85 : decode cX10_fails 85 = .ok (.invokestatic 226, 3) := by decide +kernel
theorem dX10_fails_88 : decode cX10_fails 88 = .ok (.isub, 1) := by decide +kernel
theorem dX10_fails_89 : decode cX10_fails 89 = .ok (.invokestatic 200, 3) := by decide +kernel
theorem dX10_fails_92 : decode cX10_fails 92 = .ok (.imul, 1) := by decide +kernel
theorem dX10_fails_93 : decode cX10_fails 93 = .ok (.istore 9, 2) := by decide +kernel
theorem dX10_fails_95 : decode cX10_fails 95 = .ok (.aload_n 0, 1) := by decide +kernel
theorem dX10_fails_96 : decode cX10_fails 96 = .ok (.invokevirtual 191, 3) := by decide +kernel
theorem dX10_fails_99 : decode cX10_fails 99 = .ok (.iconst 0, 1) := by decide +kernel
theorem dX10_fails_100 : decode cX10_fails 100 = .ok (.istore 10, 2) := by decide +kernel
theorem dX10_fails_102 : decode cX10_fails 102 = .ok (.iload 10, 2) := by decide +kernel
theorem dX10_fails_104 : decode cX10_fails 104 = .ok (.iload_n 3, 1) := by decide +kernel
theorem dX10_fails_105 : decode cX10_fails 105 = .ok (.if_icmp .ge 30, 3) := by decide +kernel
theorem dX10_fails_108 : decode cX10_fails 108 = .ok (.aload_n 0, 1) := by decide +kernel
theorem dX10_fails_109 : decode cX10_fails 109 = .ok (.iconst 1, 1) := by decide +kernel
theorem dX10_fails_110 : decode cX10_fails 110 = .ok (.iload 8, 2) := by decide +kernel
theorem dX10_fails_112 : decode cX10_fails 112 = .ok (.iload 10, 2) := by decide +kernel
theorem dX10_fails_114 : decode cX10_fails 114 = .ok (.invokestatic 114, 3) := by decide +kernel
theorem dX10_fails_117 : decode cX10_fails 117 = .ok (.ifCond .ne 7, 3) := by decide +kernel
theorem dX10_fails_120 : decode cX10_fails 120 = .ok (.iconst 1, 1) := by decide +kernel
theorem dX10_fails_121 : decode cX10_fails 121 = .ok (.goto 4, 3) := by decide +kernel
theorem dX10_fails_124 : decode cX10_fails 124 = .ok (.iconst 0, 1) := by decide +kernel
theorem dX10_fails_125 : decode cX10_fails 125 = .ok (.invokevirtual 173, 3) := by decide +kernel
theorem dX10_fails_128 : decode cX10_fails 128 = .ok (.pop, 1) := by decide +kernel
theorem dX10_fails_129 : decode cX10_fails 129 = .ok (.iinc 10 1, 3) := by decide +kernel
theorem dX10_fails_132 : decode cX10_fails 132 = .ok (.goto (-30), 3) := by decide +kernel
theorem dX10_fails_135 : decode cX10_fails 135 = .ok (.iload 7, 2) := by decide +kernel
theorem dX10_fails_137 : decode cX10_fails 137 = .ok (.iload 9, 2) := by decide +kernel
theorem dX10_fails_139 : decode cX10_fails 139 = .ok (.iadd, 1) := by decide +kernel
theorem dX10_fails_140 : decode cX10_fails 140 = .ok (.istore 7, 2) := by decide +kernel
theorem dX10_fails_142 : decode cX10_fails 142 = .ok (.iload 6, 2) := by decide +kernel
theorem dX10_fails_144 : decode cX10_fails 144 = .ok (.aload_n 0, 1) := by decide +kernel
theorem dX10_fails_145 : decode cX10_fails 145 = .ok (.getfield 28, 3) := by decide +kernel
theorem dX10_fails_148 : decode cX10_fails 148 = .ok (.bipush 16, 2) := by decide +kernel
theorem dX10_fails_150 : decode cX10_fails 150 = .ok (.iload_n 1, 1) := by decide +kernel
theorem dX10_fails_151 : decode cX10_fails 151 = .ok (.iadd, 1) := by decide +kernel
theorem dX10_fails_152 : decode cX10_fails 152 = .ok (.iaload, 1) := by decide +kernel
theorem dX10_fails_153 : decode cX10_fails 153 = .ok (.iload_n 2, 1) := by decide +kernel
theorem dX10_fails_154 : decode cX10_fails 154 = .ok (.if_icmp .ne 8, 3) := by decide +kernel
theorem dX10_fails_157 : decode cX10_fails 157 = .ok (.iload 9, 2) := by decide +kernel
theorem dX10_fails_159 : decode cX10_fails 159 = .ok (.goto 4, 3) := by decide +kernel
theorem dX10_fails_162 : decode cX10_fails 162 = .ok (.iconst 0, 1) := by decide +kernel
theorem dX10_fails_163 : decode cX10_fails 163 = .ok (.iadd, 1) := by decide +kernel
theorem dX10_fails_164 : decode cX10_fails 164 = .ok (.istore 6, 2) := by decide +kernel
theorem dX10_fails_166 : decode cX10_fails 166 = .ok (.iinc 8 1, 3) := by decide +kernel
theorem dX10_fails_169 : decode cX10_fails 169 = .ok (.goto (-110), 3) := by decide +kernel
theorem dX10_fails_172 : decode cX10_fails 172 = .ok (.iload 6, 2) := by decide +kernel
theorem dX10_fails_174 : decode cX10_fails 174 = .ok (.iload 7, 2) := by decide +kernel
theorem dX10_fails_176 : decode cX10_fails 176 = .ok (.invokestatic 235, 3) := by decide +kernel
theorem dX10_fails_179 : decode cX10_fails 179 = .ok (.istore 8, 2) := by decide +kernel
theorem dX10_fails_181 : decode cX10_fails 181 = .ok (.iload 5, 2) := by decide +kernel
theorem dX10_fails_183 : decode cX10_fails 183 = .ok (.ifCond .eq 11, 3) := by decide +kernel
theorem dX10_fails_186 : decode cX10_fails 186 = .ok (.iload 6, 2) := by decide +kernel
theorem dX10_fails_188 : decode cX10_fails 188 = .ok (.iload 8, 2) := by decide +kernel
theorem dX10_fails_190 : decode cX10_fails 190 = .ok (.idiv, 1) := by decide +kernel
theorem dX10_fails_191 : decode cX10_fails 191 = .ok (.goto 8, 3) := by decide +kernel
theorem dX10_fails_194 : decode cX10_fails 194 = .ok (.iload 7, 2) := by decide +kernel
theorem dX10_fails_196 : decode cX10_fails 196 = .ok (.iload 8, 2) := by decide +kernel
theorem dX10_fails_198 : decode cX10_fails 198 = .ok (.idiv, 1) := by decide +kernel
theorem dX10_fails_199 : decode cX10_fails 199 = .ok (.ireturn, 1) := by decide +kernel
theorem dX10_seed_0 : decode cX10_seed 0 = .ok (.aload_n 0, 1) := by decide +kernel
theorem dX10_seed_1 : decode cX10_seed 1 = .ok (.getfield 253, 3) := by decide +kernel
theorem dX10_seed_4 : decode cX10_seed 4 = .ok (.lstore_n 3, 1) := by decide +kernel
theorem dX10_seed_5 : decode cX10_seed 5 = .ok (.aload_n 0, 1) := by decide +kernel
theorem dX10_seed_6 : decode cX10_seed 6 = .ok (.lload_n 1, 1) := by decide +kernel
theorem dX10_seed_7 : decode cX10_seed 7 = .ok (.putfield 253, 3) := by decide +kernel
theorem dX10_seed_10 : decode cX10_seed 10 = .ok (.lload_n 3, 1) := by decide +kernel
theorem dX10_seed_11 : decode cX10_seed 11 = .ok (.lreturn, 1) := by decide +kernel
theorem dX10_seasons_0 : decode cX10_seasons 0 = .ok (.iload_n 1, 1) := by decide +kernel
theorem dX10_seasons_1 : decode cX10_seasons 1 = .ok (.i2l, 1) := by decide +kernel
theorem dX10_seasons_2 : decode cX10_seasons 2 = .ok (.lconst 1, 1) := by decide +kernel
theorem dX10_seasons_3 : decode cX10_seasons 3 = .ok (.ldc2_w 257, 3) := by decide +kernel
theorem dX10_seasons_6 : decode cX10_seasons 6 = .ok (.invokestatic 68, 3) := by decide +kernel
theorem dX10_seasons_9 : decode cX10_seasons 9 = .ok (.ifCond .ne 6, 3) := by decide +kernel
theorem dX10_seasons_12 : decode cX10_seasons 12 = .ok (.bipush (-2), 2) := by decide +kernel
theorem dX10_seasons_14 : decode cX10_seasons 14 = .ok (.ireturn, 1) := by decide +kernel
theorem dX10_seasons_15 : decode cX10_seasons 15 = .ok (.aload_n 0, 1) := by decide +kernel
theorem dX10_seasons_16 : decode cX10_seasons 16 = .ok (.invokevirtual 191, 3) := by decide +kernel
theorem dX10_seasons_19 : decode cX10_seasons 19 = .ok (.iconst 0, 1) := by decide +kernel
theorem dX10_seasons_20 : decode cX10_seasons 20 = .ok (.istore_n 2, 1) := by decide +kernel
theorem dX10_seasons_21 : decode cX10_seasons 21 = .ok (.iconst 0, 1) := by decide +kernel
theorem dX10_seasons_22 : decode cX10_seasons 22 = .ok (.istore_n 3, 1) := by decide +kernel
theorem dX10_seasons_23 : decode cX10_seasons 23 = .ok (.iload_n 3, 1) := by decide +kernel
theorem dX10_seasons_24 : decode cX10_seasons 24 = .ok (.iload_n 1, 1) := by decide +kernel
theorem dX10_seasons_25 : decode cX10_seasons 25 = .ok (.if_icmp .ge 101, 3) := by decide +kernel
theorem dX10_seasons_28 : decode cX10_seasons 28 = .ok (.aload_n 0, 1) := by decide +kernel
theorem dX10_seasons_29 : decode cX10_seasons 29 = .ok (.aload_n 0, 1) := by decide +kernel
theorem dX10_seasons_30 : decode cX10_seasons 30 = .ok (.getfield 253, 3) := by decide +kernel
theorem dX10_seasons_33 : decode cX10_seasons 33 = .ok (.ldc2_w 259, 3) := by decide +kernel
theorem dX10_seasons_36 : decode cX10_seasons 36 = .ok (.lmul, 1) := by decide +kernel
theorem dX10_seasons_37 : decode cX10_seasons 37 = .ok (.ldc2_w 261, 3) := by decide +kernel
theorem dX10_seasons_40 : decode cX10_seasons 40 = .ok (.ladd, 1) := by decide +kernel
theorem dX10_seasons_41 : decode cX10_seasons 41 = .ok (.putfield 253, 3) := by decide +kernel
theorem dX10_seasons_44 : decode cX10_seasons 44 = .ok (.aload_n 0, 1) := by decide +kernel
theorem dX10_seasons_45 : decode cX10_seasons 45 = .ok (.getfield 253, 3) := by decide +kernel
theorem dX10_seasons_48 : decode cX10_seasons 48 = .ok (.bipush 33, 2) := by decide +kernel
theorem dX10_seasons_50 : decode cX10_seasons 50 = .ok (.lushr, 1) := by decide +kernel
theorem dX10_seasons_51 : decode cX10_seasons 51 = .ok (.ldc2_w 263, 3) := by decide +kernel
theorem dX10_seasons_54 : decode cX10_seasons 54 = .ok (.lrem, 1) := by decide +kernel
theorem dX10_seasons_55 : decode cX10_seasons 55 = .ok (.l2i, 1) := by decide +kernel
theorem dX10_seasons_56 : decode cX10_seasons 56 = .ok (.istore 4, 2) := by decide +kernel
theorem dX10_seasons_58 : decode cX10_seasons 58 = .ok (.iload 4, 2) := by decide +kernel
theorem dX10_seasons_60 : decode cX10_seasons 60 = .ok (.bipush 19, 2) := by decide +kernel
theorem dX10_seasons_62 : decode cX10_seasons 62 = .ok (.if_icmp .le 13, 3) := by decide +kernel
theorem dX10_seasons_65 : decode cX10_seasons 65 = .ok (.aload_n 0, 1) := by decide +kernel
theorem dX10_seasons_66 : decode cX10_seasons 66 = .ok (.iconst 1, 1) := by decide +kernel
theorem dX10_seasons_67 : decode cX10_seasons 67 = .ok (.iconst 1, 1) := by decide +kernel
theorem dX10_seasons_68 : decode cX10_seasons 68 = .ok (.invokevirtual 173, 3) := by decide +kernel
theorem dX10_seasons_71 : decode cX10_seasons 71 = .ok (.pop, 1) := by decide +kernel
theorem dX10_seasons_72 : decode cX10_seasons 72 = .ok (.goto 32, 3) := by decide +kernel
theorem dX10_seasons_75 : decode cX10_seasons 75 = .ok (.aload_n 0, 1) := by decide +kernel
theorem dX10_seasons_76 : decode cX10_seasons 76 = .ok (.iconst 1, 1) := by decide +kernel
theorem dX10_seasons_77 : decode cX10_seasons 77 = .ok (.iload 4, 2) := by decide +kernel
theorem dX10_seasons_79 : decode cX10_seasons 79 = .ok (.iconst 5, 1) := by decide +kernel
theorem dX10_seasons_80 : decode cX10_seasons 80 = .ok (.idiv, 1) := by decide +kernel
theorem dX10_seasons_81 : decode cX10_seasons 81 = .ok (.iload 4, 2) := by decide +kernel
theorem dX10_seasons_83 : decode cX10_seasons 83 = .ok (.iconst 5, 1) := by decide +kernel
theorem dX10_seasons_84 : decode cX10_seasons 84 = .ok (.irem, 1) := by decide +kernel
theorem dX10_seasons_85 : decode cX10_seasons 85 = .ok (.invokevirtual 149, 3) := by decide +kernel
theorem dX10_seasons_88 : decode cX10_seasons 88 = .ok (.ifCond .eq 16, 3) := by decide +kernel
theorem dX10_seasons_91 : decode cX10_seasons 91 = .ok (.aload_n 0, 1) := by decide +kernel
theorem dX10_seasons_92 : decode cX10_seasons 92 = .ok (.iconst 1, 1) := by decide +kernel
theorem dX10_seasons_93 : decode cX10_seasons 93 = .ok (.iload 4, 2) := by decide +kernel
theorem dX10_seasons_95 : decode cX10_seasons 95 = .ok (.iconst 5, 1) := by decide +kernel
theorem dX10_seasons_96 : decode cX10_seasons 96 = .ok (.idiv, 1) := by decide +kernel
theorem dX10_seasons_97 : decode cX10_seasons 97 = .ok (.iload 4, 2) := by decide +kernel
theorem dX10_seasons_99 : decode cX10_seasons 99 = .ok (.iconst 5, 1) := by decide +kernel
theorem dX10_seasons_100 : decode cX10_seasons 100 = .ok (.irem, 1) := by decide +kernel
theorem dX10_seasons_101 : decode cX10_seasons 101 = .ok (.invokevirtual 177, 3) := by decide +kernel
theorem dX10_seasons_104 : decode cX10_seasons 104 = .ok (.iload_n 2, 1) := by decide +kernel
theorem dX10_seasons_105 : decode cX10_seasons 105 = .ok (.aload_n 0, 1) := by decide +kernel
theorem dX10_seasons_106 : decode cX10_seasons 106 = .ok (.iconst 1, 1) := by decide +kernel
theorem dX10_seasons_107 : decode cX10_seasons 107 = .ok (.invokevirtual 265, 3) := by decide +kernel
theorem dX10_seasons_110 : decode cX10_seasons 110 = .ok (.aload_n 0, 1) := by decide +kernel
theorem dX10_seasons_111 : decode cX10_seasons 111 = .ok (.getfield 28, 3) := by decide +kernel
theorem dX10_seasons_114 : decode cX10_seasons 114 = .ok (.bipush 30, 2) := by decide +kernel
theorem dX10_seasons_116 : decode cX10_seasons 116 = .ok (.iaload, 1) := by decide +kernel
theorem dX10_seasons_117 : decode cX10_seasons 117 = .ok (.iadd, 1) := by decide +kernel
theorem dX10_seasons_118 : decode cX10_seasons 118 = .ok (.iadd, 1) := by decide +kernel
theorem dX10_seasons_119 : decode cX10_seasons 119 = .ok (.istore_n 2, 1) := by decide +kernel
theorem dX10_seasons_120 : decode cX10_seasons 120 = .ok (.iinc 3 1, 3) := by decide +kernel
theorem dX10_seasons_123 : decode cX10_seasons 123 = .ok (.goto (-100), 3) := by decide +kernel
theorem dX10_seasons_126 : decode cX10_seasons 126 = .ok (.iload_n 2, 1) := by decide +kernel
theorem dX10_seasons_127 : decode cX10_seasons 127 = .ok (.ireturn, 1) := by decide +kernel
theorem dX10_keep_0 : decode cX10_keep 0 = .ok (.iload_n 1, 1) := by decide +kernel
theorem dX10_keep_1 : decode cX10_keep 1 = .ok (.i2l, 1) := by decide +kernel
theorem dX10_keep_2 : decode cX10_keep 2 = .ok (.lconst 0, 1) := by decide +kernel
theorem dX10_keep_3 : decode cX10_keep 3 = .ok (.lconst 1, 1) := by decide +kernel
theorem dX10_keep_4 : decode cX10_keep 4 = .ok (.invokestatic 68, 3) := by decide +kernel
theorem dX10_keep_7 : decode cX10_keep 7 = .ok (.ifCond .ne 5, 3) := by decide +kernel
theorem dX10_keep_10 : decode cX10_keep 10 = .ok (.iconst (-1), 1) := by decide +kernel
theorem dX10_keep_11 : decode cX10_keep 11 = .ok (.ireturn, 1) := by decide +kernel
theorem dX10_keep_12 : decode cX10_keep 12 = .ok (.aload_n 0, 1) := by decide +kernel
theorem dX10_keep_13 : decode cX10_keep 13 = .ok (.getfield 59, 3) := by decide +kernel
theorem dX10_keep_16 : decode cX10_keep 16 = .ok (.iload_n 1, 1) := by decide +kernel
theorem dX10_keep_17 : decode cX10_keep 17 = .ok (.iconst 1, 1) := by decide +kernel
theorem dX10_keep_18 : decode cX10_keep 18 = .ok (.bastore, 1) := by decide +kernel
theorem dX10_keep_19 : decode cX10_keep 19 = .ok (.iconst 0, 1) := by decide +kernel
theorem dX10_keep_20 : decode cX10_keep 20 = .ok (.istore_n 2, 1) := by decide +kernel
theorem dX10_keep_21 : decode cX10_keep 21 = .ok (.iload_n 2, 1) := by decide +kernel
theorem dX10_keep_22 : decode cX10_keep 22 = .ok (.bipush 16, 2) := by decide +kernel
theorem dX10_keep_24 : decode cX10_keep 24 = .ok (.if_icmp .ge 26, 3) := by decide +kernel
theorem dX10_keep_27 : decode cX10_keep 27 = .ok (.aload_n 0, 1) := by decide +kernel
theorem dX10_keep_28 : decode cX10_keep 28 = .ok (.getfield 63, 3) := by decide +kernel
theorem dX10_keep_31 : decode cX10_keep 31 = .ok (.bipush 16, 2) := by decide +kernel
theorem dX10_keep_33 : decode cX10_keep 33 = .ok (.iload_n 1, 1) := by decide +kernel
theorem dX10_keep_34 : decode cX10_keep 34 = .ok (.imul, 1) := by decide +kernel
theorem dX10_keep_35 : decode cX10_keep 35 = .ok (.iload_n 2, 1) := by decide +kernel
theorem dX10_keep_36 : decode cX10_keep 36 = .ok (.iadd, 1) := by decide +kernel
theorem dX10_keep_37 : decode cX10_keep 37 = .ok (.aload_n 0, 1) := by decide +kernel
theorem dX10_keep_38 : decode cX10_keep 38 = .ok (.getfield 28, 3) := by decide +kernel
theorem dX10_keep_41 : decode cX10_keep 41 = .ok (.iload_n 2, 1) := by decide +kernel
theorem dX10_keep_42 : decode cX10_keep 42 = .ok (.iaload, 1) := by decide +kernel
theorem dX10_keep_43 : decode cX10_keep 43 = .ok (.iastore, 1) := by decide +kernel
theorem dX10_keep_44 : decode cX10_keep 44 = .ok (.iinc 2 1, 3) := by decide +kernel
theorem dX10_keep_47 : decode cX10_keep 47 = .ok (.goto (-26), 3) := by decide +kernel
theorem dX10_keep_50 : decode cX10_keep 50 = .ok (.aload_n 0, 1) := by decide +kernel
theorem dX10_keep_51 : decode cX10_keep 51 = .ok (.getfield 28, 3) := by decide +kernel
theorem dX10_keep_54 : decode cX10_keep 54 = .ok (.bipush 15, 2) := by decide +kernel
theorem dX10_keep_56 : decode cX10_keep 56 = .ok (.iaload, 1) := by decide +kernel
theorem dX10_keep_57 : decode cX10_keep 57 = .ok (.ireturn, 1) := by decide +kernel
theorem dX10_again_0 : decode cX10_again 0 = .ok (.iload_n 1, 1) := by decide +kernel
theorem dX10_again_1 : decode cX10_again 1 = .ok (.i2l, 1) := by decide +kernel
theorem dX10_again_2 : decode cX10_again 2 = .ok (.lconst 0, 1) := by decide +kernel
theorem dX10_again_3 : decode cX10_again 3 = .ok (.lconst 1, 1) := by decide +kernel
theorem dX10_again_4 : decode cX10_again 4 = .ok (.invokestatic 68, 3) := by decide +kernel
theorem dX10_again_7 : decode cX10_again 7 = .ok (.ifCond .ne 5, 3) := by decide +kernel
theorem dX10_again_10 : decode cX10_again 10 = .ok (.iconst (-1), 1) := by decide +kernel
theorem dX10_again_11 : decode cX10_again 11 = .ok (.ireturn, 1) := by decide +kernel
theorem dX10_again_12 : decode cX10_again 12 = .ok (.aload_n 0, 1) := by decide +kernel
theorem dX10_again_13 : decode cX10_again 13 = .ok (.getfield 59, 3) := by decide +kernel
theorem dX10_again_16 : decode cX10_again 16 = .ok (.iload_n 1, 1) := by decide +kernel
theorem dX10_again_17 : decode cX10_again 17 = .ok (.baload, 1) := by decide +kernel
theorem dX10_again_18 : decode cX10_again 18 = .ok (.ifCond .ne 6, 3) := by decide +kernel
theorem dX10_again_21 : decode cX10_again 21 = .ok (.bipush (-3), 2) := by decide +kernel
theorem dX10_again_23 : decode cX10_again 23 = .ok (.ireturn, 1) := by decide +kernel
theorem dX10_again_24 : decode cX10_again 24 = .ok (.iconst 0, 1) := by decide +kernel
theorem dX10_again_25 : decode cX10_again 25 = .ok (.istore_n 2, 1) := by decide +kernel
theorem dX10_again_26 : decode cX10_again 26 = .ok (.iload_n 2, 1) := by decide +kernel
theorem dX10_again_27 : decode cX10_again 27 = .ok (.bipush 16, 2) := by decide +kernel
theorem dX10_again_29 : decode cX10_again 29 = .ok (.if_icmp .ge 26, 3) := by decide +kernel
theorem dX10_again_32 : decode cX10_again 32 = .ok (.aload_n 0, 1) := by decide +kernel
theorem dX10_again_33 : decode cX10_again 33 = .ok (.getfield 28, 3) := by decide +kernel
theorem dX10_again_36 : decode cX10_again 36 = .ok (.iload_n 2, 1) := by decide +kernel
theorem dX10_again_37 : decode cX10_again 37 = .ok (.aload_n 0, 1) := by decide +kernel
theorem dX10_again_38 : decode cX10_again 38 = .ok (.getfield 63, 3) := by decide +kernel
theorem dX10_again_41 : decode cX10_again 41 = .ok (.bipush 16, 2) := by decide +kernel
theorem dX10_again_43 : decode cX10_again 43 = .ok (.iload_n 1, 1) := by decide +kernel
theorem dX10_again_44 : decode cX10_again 44 = .ok (.imul, 1) := by decide +kernel
theorem dX10_again_45 : decode cX10_again 45 = .ok (.iload_n 2, 1) := by decide +kernel
theorem dX10_again_46 : decode cX10_again 46 = .ok (.iadd, 1) := by decide +kernel
theorem dX10_again_47 : decode cX10_again 47 = .ok (.iaload, 1) := by decide +kernel
theorem dX10_again_48 : decode cX10_again 48 = .ok (.iastore, 1) := by decide +kernel
theorem dX10_again_49 : decode cX10_again 49 = .ok (.iinc 2 1, 3) := by decide +kernel
theorem dX10_again_52 : decode cX10_again 52 = .ok (.goto (-26), 3) := by decide +kernel
theorem dX10_again_55 : decode cX10_again 55 = .ok (.aload_n 0, 1) := by decide +kernel
theorem dX10_again_56 : decode cX10_again 56 = .ok (.iconst 0, 1) := by decide +kernel
theorem dX10_again_57 : decode cX10_again 57 = .ok (.putfield 111, 3) := by decide +kernel
theorem dX10_again_60 : decode cX10_again 60 = .ok (.aload_n 0, 1) := by decide +kernel
theorem dX10_again_61 : decode cX10_again 61 = .ok (.getfield 28, 3) := by decide +kernel
theorem dX10_again_64 : decode cX10_again 64 = .ok (.bipush 15, 2) := by decide +kernel
theorem dX10_again_66 : decode cX10_again 66 = .ok (.iaload, 1) := by decide +kernel
theorem dX10_again_67 : decode cX10_again 67 = .ok (.ireturn, 1) := by decide +kernel
theorem dX10_count_0 : decode cX10_count 0 = .ok (.iload_n 1, 1) := by decide +kernel
theorem dX10_count_1 : decode cX10_count 1 = .ok (.tableswitch 141 0 11 #[63, 68, 73, 78, 83, 91, 103, 109, 115, 123, 131, 136], 63) := by decide +kernel
theorem dX10_count_64 : decode cX10_count 64 = .ok (.aload_n 0, 1) := by decide +kernel
theorem dX10_count_65 : decode cX10_count 65 = .ok (.getfield 72, 3) := by decide +kernel
theorem dX10_count_68 : decode cX10_count 68 = .ok (.ireturn, 1) := by decide +kernel
theorem dX10_count_69 : decode cX10_count 69 = .ok (.aload_n 0, 1) := by decide +kernel
theorem dX10_count_70 : decode cX10_count 70 = .ok (.getfield 102, 3) := by decide +kernel
theorem dX10_count_73 : decode cX10_count 73 = .ok (.ireturn, 1) := by decide +kernel
theorem dX10_count_74 : decode cX10_count 74 = .ok (.aload_n 0, 1) := by decide +kernel
theorem dX10_count_75 : decode cX10_count 75 = .ok (.getfield 105, 3) := by decide +kernel
theorem dX10_count_78 : decode cX10_count 78 = .ok (.ireturn, 1) := by decide +kernel
theorem dX10_count_79 : decode cX10_count 79 = .ok (.aload_n 0, 1) := by decide +kernel
theorem dX10_count_80 : decode cX10_count 80 = .ok (.getfield 108, 3) := by decide +kernel
theorem dX10_count_83 : decode cX10_count 83 = .ok (.ireturn, 1) := by decide +kernel
theorem dX10_count_84 : decode cX10_count 84 = .ok (.aload_n 0, 1) := by decide +kernel
theorem dX10_count_85 : decode cX10_count 85 = .ok (.getfield 28, 3) := by decide +kernel
theorem dX10_count_88 : decode cX10_count 88 = .ok (.bipush 15, 2) := by decide +kernel
theorem dX10_count_90 : decode cX10_count 90 = .ok (.iaload, 1) := by decide +kernel
theorem dX10_count_91 : decode cX10_count 91 = .ok (.ireturn, 1) := by decide +kernel
theorem dX10_count_92 : decode cX10_count 92 = .ok (.aload_n 0, 1) := by decide +kernel
theorem dX10_count_93 : decode cX10_count 93 = .ok (.aload_n 0, 1) := by decide +kernel
theorem dX10_count_94 : decode cX10_count 94 = .ok (.getfield 28, 3) := by decide +kernel
theorem dX10_count_97 : decode cX10_count 97 = .ok (.bipush 15, 2) := by decide +kernel
theorem dX10_count_99 : decode cX10_count 99 = .ok (.iaload, 1) := by decide +kernel
theorem dX10_count_100 : decode cX10_count 100 = .ok (.invokevirtual 134, 3) := by decide +kernel
theorem dX10_count_103 : decode cX10_count 103 = .ok (.ireturn, 1) := by decide +kernel
theorem dX10_count_104 : decode cX10_count 104 = .ok (.aload_n 0, 1) := by decide +kernel
theorem dX10_count_105 : decode cX10_count 105 = .ok (.iconst 0, 1) := by decide +kernel
theorem dX10_count_106 : decode cX10_count 106 = .ok (.invokevirtual 155, 3) := by decide +kernel
theorem dX10_count_109 : decode cX10_count 109 = .ok (.ireturn, 1) := by decide +kernel
theorem dX10_count_110 : decode cX10_count 110 = .ok (.aload_n 0, 1) := by decide +kernel
theorem dX10_count_111 : decode cX10_count 111 = .ok (.iconst 0, 1) := by decide +kernel
theorem dX10_count_112 : decode cX10_count 112 = .ok (.invokevirtual 265, 3) := by decide +kernel
theorem dX10_count_115 : decode cX10_count 115 = .ok (.ireturn, 1) := by decide +kernel
theorem dX10_count_116 : decode cX10_count 116 = .ok (.aload_n 0, 1) := by decide +kernel
theorem dX10_count_117 : decode cX10_count 117 = .ok (.getfield 28, 3) := by decide +kernel
theorem dX10_count_120 : decode cX10_count 120 = .ok (.bipush 14, 2) := by decide +kernel
theorem dX10_count_122 : decode cX10_count 122 = .ok (.iaload, 1) := by decide +kernel
theorem dX10_count_123 : decode cX10_count 123 = .ok (.ireturn, 1) := by decide +kernel
theorem dX10_count_124 : decode cX10_count 124 = .ok (.aload_n 0, 1) := by decide +kernel
theorem dX10_count_125 : decode cX10_count 125 = .ok (.getfield 28, 3) := by decide +kernel
theorem dX10_count_128 : decode cX10_count 128 = .ok (.bipush 13, 2) := by decide +kernel
theorem dX10_count_130 : decode cX10_count 130 = .ok (.iaload, 1) := by decide +kernel
theorem dX10_count_131 : decode cX10_count 131 = .ok (.ireturn, 1) := by decide +kernel
theorem dX10_count_132 : decode cX10_count 132 = .ok (.aload_n 0, 1) := by decide +kernel
theorem dX10_count_133 : decode cX10_count 133 = .ok (.getfield 111, 3) := by decide +kernel
theorem dX10_count_136 : decode cX10_count 136 = .ok (.ireturn, 1) := by decide +kernel
theorem dX10_count_137 : decode cX10_count 137 = .ok (.aload_n 0, 1) := by decide +kernel
theorem dX10_count_138 : decode cX10_count 138 = .ok (.getfield 218, 3) := by decide +kernel
theorem dX10_count_141 : decode cX10_count 141 = .ok (.ireturn, 1) := by decide +kernel
theorem dX10_count_142 : decode cX10_count 142 = .ok (.bipush (-2), 2) := by decide +kernel
theorem dX10_count_144 : decode cX10_count 144 = .ok (.ireturn, 1) := by decide +kernel
theorem dJ6_bitCount_0f7a4_0 : decode cJ6_bitCount_0f7a4 0 = .ok (.iload_n 0, 1) := by decide +kernel
theorem dJ6_bitCount_0f7a4_1 : decode cJ6_bitCount_0f7a4 1 = .ok (.iload_n 0, 1) := by decide +kernel
theorem dJ6_bitCount_0f7a4_2 : decode cJ6_bitCount_0f7a4 2 = .ok (.iconst 1, 1) := by decide +kernel
theorem dJ6_bitCount_0f7a4_3 : decode cJ6_bitCount_0f7a4 3 = .ok (.iushr, 1) := by decide +kernel
theorem dJ6_bitCount_0f7a4_4 : decode cJ6_bitCount_0f7a4 4 = .ok (.ldc_w 265, 3) := by decide +kernel
theorem dJ6_bitCount_0f7a4_7 : decode cJ6_bitCount_0f7a4 7 = .ok (.iand, 1) := by decide +kernel
theorem dJ6_bitCount_0f7a4_8 : decode cJ6_bitCount_0f7a4 8 = .ok (.isub, 1) := by decide +kernel
theorem dJ6_bitCount_0f7a4_9 : decode cJ6_bitCount_0f7a4 9 = .ok (.istore_n 0, 1) := by decide +kernel
theorem dJ6_bitCount_0f7a4_10 : decode cJ6_bitCount_0f7a4 10 = .ok (.iload_n 0, 1) := by decide +kernel
theorem dJ6_bitCount_0f7a4_11 : decode cJ6_bitCount_0f7a4 11 = .ok (.ldc_w 266, 3) := by decide +kernel
theorem dJ6_bitCount_0f7a4_14 : decode cJ6_bitCount_0f7a4 14 = .ok (.iand, 1) := by decide +kernel
theorem dJ6_bitCount_0f7a4_15 : decode cJ6_bitCount_0f7a4 15 = .ok (.iload_n 0, 1) := by decide +kernel
theorem dJ6_bitCount_0f7a4_16 : decode cJ6_bitCount_0f7a4 16 = .ok (.iconst 2, 1) := by decide +kernel
theorem dJ6_bitCount_0f7a4_17 : decode cJ6_bitCount_0f7a4 17 = .ok (.iushr, 1) := by decide +kernel
theorem dJ6_bitCount_0f7a4_18 : decode cJ6_bitCount_0f7a4 18 = .ok (.ldc_w 266, 3) := by decide +kernel
theorem dJ6_bitCount_0f7a4_21 : decode cJ6_bitCount_0f7a4 21 = .ok (.iand, 1) := by decide +kernel
theorem dJ6_bitCount_0f7a4_22 : decode cJ6_bitCount_0f7a4 22 = .ok (.iadd, 1) := by decide +kernel
theorem dJ6_bitCount_0f7a4_23 : decode cJ6_bitCount_0f7a4 23 = .ok (.istore_n 0, 1) := by decide +kernel
theorem dJ6_bitCount_0f7a4_24 : decode cJ6_bitCount_0f7a4 24 = .ok (.iload_n 0, 1) := by decide +kernel
theorem dJ6_bitCount_0f7a4_25 : decode cJ6_bitCount_0f7a4 25 = .ok (.iload_n 0, 1) := by decide +kernel
theorem dJ6_bitCount_0f7a4_26 : decode cJ6_bitCount_0f7a4 26 = .ok (.iconst 4, 1) := by decide +kernel
theorem dJ6_bitCount_0f7a4_27 : decode cJ6_bitCount_0f7a4 27 = .ok (.iushr, 1) := by decide +kernel
theorem dJ6_bitCount_0f7a4_28 : decode cJ6_bitCount_0f7a4 28 = .ok (.iadd, 1) := by decide +kernel
theorem dJ6_bitCount_0f7a4_29 : decode cJ6_bitCount_0f7a4 29 = .ok (.ldc_w 267, 3) := by decide +kernel
theorem dJ6_bitCount_0f7a4_32 : decode cJ6_bitCount_0f7a4 32 = .ok (.iand, 1) := by decide +kernel
theorem dJ6_bitCount_0f7a4_33 : decode cJ6_bitCount_0f7a4 33 = .ok (.istore_n 0, 1) := by decide +kernel
theorem dJ6_bitCount_0f7a4_34 : decode cJ6_bitCount_0f7a4 34 = .ok (.iload_n 0, 1) := by decide +kernel
theorem dJ6_bitCount_0f7a4_35 : decode cJ6_bitCount_0f7a4 35 = .ok (.iload_n 0, 1) := by decide +kernel
theorem dJ6_bitCount_0f7a4_36 : decode cJ6_bitCount_0f7a4 36 = .ok (.bipush 8, 2) := by decide +kernel
theorem dJ6_bitCount_0f7a4_38 : decode cJ6_bitCount_0f7a4 38 = .ok (.iushr, 1) := by decide +kernel
theorem dJ6_bitCount_0f7a4_39 : decode cJ6_bitCount_0f7a4 39 = .ok (.iadd, 1) := by decide +kernel
theorem dJ6_bitCount_0f7a4_40 : decode cJ6_bitCount_0f7a4 40 = .ok (.istore_n 0, 1) := by decide +kernel
theorem dJ6_bitCount_0f7a4_41 : decode cJ6_bitCount_0f7a4 41 = .ok (.iload_n 0, 1) := by decide +kernel
theorem dJ6_bitCount_0f7a4_42 : decode cJ6_bitCount_0f7a4 42 = .ok (.iload_n 0, 1) := by decide +kernel
theorem dJ6_bitCount_0f7a4_43 : decode cJ6_bitCount_0f7a4 43 = .ok (.bipush 16, 2) := by decide +kernel
theorem dJ6_bitCount_0f7a4_45 : decode cJ6_bitCount_0f7a4 45 = .ok (.iushr, 1) := by decide +kernel
theorem dJ6_bitCount_0f7a4_46 : decode cJ6_bitCount_0f7a4 46 = .ok (.iadd, 1) := by decide +kernel
theorem dJ6_bitCount_0f7a4_47 : decode cJ6_bitCount_0f7a4 47 = .ok (.istore_n 0, 1) := by decide +kernel
theorem dJ6_bitCount_0f7a4_48 : decode cJ6_bitCount_0f7a4 48 = .ok (.iload_n 0, 1) := by decide +kernel
theorem dJ6_bitCount_0f7a4_49 : decode cJ6_bitCount_0f7a4 49 = .ok (.bipush 63, 2) := by decide +kernel
theorem dJ6_bitCount_0f7a4_51 : decode cJ6_bitCount_0f7a4 51 = .ok (.iand, 1) := by decide +kernel
theorem dJ6_bitCount_0f7a4_52 : decode cJ6_bitCount_0f7a4 52 = .ok (.ireturn, 1) := by decide +kernel
theorem dJ9_floorMod_7cf53_0 : decode cJ9_floorMod_7cf53 0 = .ok (.iload_n 0, 1) := by decide +kernel
theorem dJ9_floorMod_7cf53_1 : decode cJ9_floorMod_7cf53 1 = .ok (.iload_n 1, 1) := by decide +kernel
theorem dJ9_floorMod_7cf53_2 : decode cJ9_floorMod_7cf53 2 = .ok (.irem, 1) := by decide +kernel
theorem dJ9_floorMod_7cf53_3 : decode cJ9_floorMod_7cf53 3 = .ok (.istore_n 2, 1) := by decide +kernel
theorem dJ9_floorMod_7cf53_4 : decode cJ9_floorMod_7cf53 4 = .ok (.iload_n 0, 1) := by decide +kernel
theorem dJ9_floorMod_7cf53_5 : decode cJ9_floorMod_7cf53 5 = .ok (.iload_n 1, 1) := by decide +kernel
theorem dJ9_floorMod_7cf53_6 : decode cJ9_floorMod_7cf53 6 = .ok (.ixor, 1) := by decide +kernel
theorem dJ9_floorMod_7cf53_7 : decode cJ9_floorMod_7cf53 7 = .ok (.ifCond .ge 11, 3) := by decide +kernel
theorem dJ9_floorMod_7cf53_10 : decode cJ9_floorMod_7cf53 10 = .ok (.iload_n 2, 1) := by decide +kernel
theorem dJ9_floorMod_7cf53_11 : decode cJ9_floorMod_7cf53 11 = .ok (.ifCond .eq 7, 3) := by decide +kernel
theorem dJ9_floorMod_7cf53_14 : decode cJ9_floorMod_7cf53 14 = .ok (.iload_n 2, 1) := by decide +kernel
theorem dJ9_floorMod_7cf53_15 : decode cJ9_floorMod_7cf53 15 = .ok (.iload_n 1, 1) := by decide +kernel
theorem dJ9_floorMod_7cf53_16 : decode cJ9_floorMod_7cf53 16 = .ok (.iadd, 1) := by decide +kernel
theorem dJ9_floorMod_7cf53_17 : decode cJ9_floorMod_7cf53 17 = .ok (.ireturn, 1) := by decide +kernel
theorem dJ9_floorMod_7cf53_18 : decode cJ9_floorMod_7cf53 18 = .ok (.iload_n 2, 1) := by decide +kernel
theorem dJ9_floorMod_7cf53_19 : decode cJ9_floorMod_7cf53 19 = .ok (.ireturn, 1) := by decide +kernel
theorem dJ9_max_7cf53_0 : decode cJ9_max_7cf53 0 = .ok (.iload_n 0, 1) := by decide +kernel
theorem dJ9_max_7cf53_1 : decode cJ9_max_7cf53 1 = .ok (.iload_n 1, 1) := by decide +kernel
theorem dJ9_max_7cf53_2 : decode cJ9_max_7cf53 2 = .ok (.if_icmp .lt 7, 3) := by decide +kernel
theorem dJ9_max_7cf53_5 : decode cJ9_max_7cf53 5 = .ok (.iload_n 0, 1) := by decide +kernel
theorem dJ9_max_7cf53_6 : decode cJ9_max_7cf53 6 = .ok (.goto 4, 3) := by decide +kernel
theorem dJ9_max_7cf53_9 : decode cJ9_max_7cf53 9 = .ok (.iload_n 1, 1) := by decide +kernel
theorem dJ9_max_7cf53_10 : decode cJ9_max_7cf53 10 = .ok (.ireturn, 1) := by decide +kernel
theorem dJ9_min_7cf53_0 : decode cJ9_min_7cf53 0 = .ok (.iload_n 0, 1) := by decide +kernel
theorem dJ9_min_7cf53_1 : decode cJ9_min_7cf53 1 = .ok (.iload_n 1, 1) := by decide +kernel
theorem dJ9_min_7cf53_2 : decode cJ9_min_7cf53 2 = .ok (.if_icmp .gt 7, 3) := by decide +kernel
theorem dJ9_min_7cf53_5 : decode cJ9_min_7cf53 5 = .ok (.iload_n 0, 1) := by decide +kernel
theorem dJ9_min_7cf53_6 : decode cJ9_min_7cf53 6 = .ok (.goto 4, 3) := by decide +kernel
theorem dJ9_min_7cf53_9 : decode cJ9_min_7cf53 9 = .ok (.iload_n 1, 1) := by decide +kernel
theorem dJ9_min_7cf53_10 : decode cJ9_min_7cf53 10 = .ok (.ireturn, 1) := by decide +kernel
theorem dJ0_length_8abf5_0 : decode cJ0_length_8abf5 0 = .ok (.aload_n 0, 1) := by decide +kernel
theorem dJ0_length_8abf5_1 : decode cJ0_length_8abf5 1 = .ok (.getfield 9, 3) := by decide +kernel
theorem dJ0_length_8abf5_4 : decode cJ0_length_8abf5 4 = .ok (.arraylength, 1) := by decide +kernel
theorem dJ0_length_8abf5_5 : decode cJ0_length_8abf5 5 = .ok (.aload_n 0, 1) := by decide +kernel
theorem dJ0_length_8abf5_6 : decode cJ0_length_8abf5 6 = .ok (.invokevirtual 335, 3) := by decide +kernel
theorem dJ0_length_8abf5_9 : decode cJ0_length_8abf5 9 = .ok (.ishr, 1) := by decide +kernel
theorem dJ0_length_8abf5_10 : decode cJ0_length_8abf5 10 = .ok (.ireturn, 1) := by decide +kernel
theorem dJ0_isEmpty_aae02_0 : decode cJ0_isEmpty_aae02 0 = .ok (.aload_n 0, 1) := by decide +kernel
theorem dJ0_isEmpty_aae02_1 : decode cJ0_isEmpty_aae02 1 = .ok (.getfield 9, 3) := by decide +kernel
theorem dJ0_isEmpty_aae02_4 : decode cJ0_isEmpty_aae02 4 = .ok (.arraylength, 1) := by decide +kernel
theorem dJ0_isEmpty_aae02_5 : decode cJ0_isEmpty_aae02 5 = .ok (.ifCond .ne 7, 3) := by decide +kernel
theorem dJ0_isEmpty_aae02_8 : decode cJ0_isEmpty_aae02 8 = .ok (.iconst 1, 1) := by decide +kernel
theorem dJ0_isEmpty_aae02_9 : decode cJ0_isEmpty_aae02 9 = .ok (.goto 4, 3) := by decide +kernel
theorem dJ0_isEmpty_aae02_12 : decode cJ0_isEmpty_aae02 12 = .ok (.iconst 0, 1) := by decide +kernel
theorem dJ0_isEmpty_aae02_13 : decode cJ0_isEmpty_aae02 13 = .ok (.ireturn, 1) := by decide +kernel
theorem dJ0_charAt_5068e_0 : decode cJ0_charAt_5068e 0 = .ok (.aload_n 0, 1) := by decide +kernel
theorem dJ0_charAt_5068e_1 : decode cJ0_charAt_5068e 1 = .ok (.invokevirtual 492, 3) := by decide +kernel
theorem dJ0_charAt_5068e_4 : decode cJ0_charAt_5068e 4 = .ok (.ifCond .eq 12, 3) := by decide +kernel
theorem dJ0_charAt_5068e_7 : decode cJ0_charAt_5068e 7 = .ok (.aload_n 0, 1) := by decide +kernel
theorem dJ0_charAt_5068e_8 : decode cJ0_charAt_5068e 8 = .ok (.getfield 9, 3) := by decide +kernel
theorem dJ0_charAt_5068e_11 : decode cJ0_charAt_5068e 11 = .ok (.iload_n 1, 1) := by decide +kernel
theorem dJ0_charAt_5068e_12 : decode cJ0_charAt_5068e 12 = .ok (.invokestatic 495, 3) := by decide +kernel
theorem dJ0_charAt_5068e_15 : decode cJ0_charAt_5068e 15 = .ok (.ireturn, 1) := by decide +kernel
theorem dJ0_charAt_5068e_16 : decode cJ0_charAt_5068e 16 = .ok (.aload_n 0, 1) := by decide +kernel
theorem dJ0_charAt_5068e_17 : decode cJ0_charAt_5068e 17 = .ok (.getfield 9, 3) := by decide +kernel
theorem dJ0_charAt_5068e_20 : decode cJ0_charAt_5068e 20 = .ok (.iload_n 1, 1) := by decide +kernel
theorem dJ0_charAt_5068e_21 : decode cJ0_charAt_5068e 21 = .ok (.invokestatic 498, 3) := by decide +kernel
theorem dJ0_charAt_5068e_24 : decode cJ0_charAt_5068e 24 = .ok (.ireturn, 1) := by decide +kernel
theorem dJ0_coder_7d493_0 : decode cJ0_coder_7d493 0 = .ok (.getstatic 38, 3) := by decide +kernel
theorem dJ0_coder_7d493_3 : decode cJ0_coder_7d493 3 = .ok (.ifCond .eq 10, 3) := by decide +kernel
theorem dJ0_coder_7d493_6 : decode cJ0_coder_7d493 6 = .ok (.aload_n 0, 1) := by decide +kernel
theorem dJ0_coder_7d493_7 : decode cJ0_coder_7d493 7 = .ok (.getfield 15, 3) := by decide +kernel
theorem dJ0_coder_7d493_10 : decode cJ0_coder_7d493 10 = .ok (.goto 4, 3) := by decide +kernel
theorem dJ0_coder_7d493_13 : decode cJ0_coder_7d493 13 = .ok (.iconst 1, 1) := by decide +kernel
theorem dJ0_coder_7d493_14 : decode cJ0_coder_7d493 14 = .ok (.ireturn, 1) := by decide +kernel
theorem dJ0_isLatin1_aae02_0 : decode cJ0_isLatin1_aae02 0 = .ok (.getstatic 38, 3) := by decide +kernel
theorem dJ0_isLatin1_aae02_3 : decode cJ0_isLatin1_aae02 3 = .ok (.ifCond .eq 14, 3) := by decide +kernel
theorem dJ0_isLatin1_aae02_6 : decode cJ0_isLatin1_aae02 6 = .ok (.aload_n 0, 1) := by decide +kernel
theorem dJ0_isLatin1_aae02_7 : decode cJ0_isLatin1_aae02 7 = .ok (.getfield 15, 3) := by decide +kernel
theorem dJ0_isLatin1_aae02_10 : decode cJ0_isLatin1_aae02 10 = .ok (.ifCond .ne 7, 3) := by decide +kernel
theorem dJ0_isLatin1_aae02_13 : decode cJ0_isLatin1_aae02 13 = .ok (.iconst 1, 1) := by decide +kernel
theorem dJ0_isLatin1_aae02_14 : decode cJ0_isLatin1_aae02 14 = .ok (.goto 4, 3) := by decide +kernel
theorem dJ0_isLatin1_aae02_17 : decode cJ0_isLatin1_aae02 17 = .ok (.iconst 0, 1) := by decide +kernel
theorem dJ0_isLatin1_aae02_18 : decode cJ0_isLatin1_aae02 18 = .ok (.ireturn, 1) := by decide +kernel
theorem dJ0_checkIndex_df160_0 : decode cJ0_checkIndex_df160 0 = .ok (.iload_n 0, 1) := by decide +kernel
theorem dJ0_checkIndex_df160_1 : decode cJ0_checkIndex_df160 1 = .ok (.iload_n 1, 1) := by decide +kernel
theorem dJ0_checkIndex_df160_2 : decode cJ0_checkIndex_df160 2 = .ok (.getstatic 1053, 3) := by decide +kernel
theorem dJ0_checkIndex_df160_5 : decode cJ0_checkIndex_df160 5 = .ok (.invokestatic 1059, 3) := by decide +kernel
theorem dJ0_checkIndex_df160_8 : decode cJ0_checkIndex_df160 8 = .ok (.pop, 1) := by decide +kernel
theorem dJ0_checkIndex_df160_9 : decode cJ0_checkIndex_df160 9 = .ok (.return_, 1) := by decide +kernel
theorem dJ1_charAt_3b067_0 : decode cJ1_charAt_3b067 0 = .ok (.iload_n 1, 1) := by decide +kernel
theorem dJ1_charAt_3b067_1 : decode cJ1_charAt_3b067 1 = .ok (.aload_n 0, 1) := by decide +kernel
theorem dJ1_charAt_3b067_2 : decode cJ1_charAt_3b067 2 = .ok (.arraylength, 1) := by decide +kernel
theorem dJ1_charAt_3b067_3 : decode cJ1_charAt_3b067 3 = .ok (.invokestatic 9, 3) := by decide +kernel
theorem dJ1_charAt_3b067_6 : decode cJ1_charAt_3b067 6 = .ok (.aload_n 0, 1) := by decide +kernel
theorem dJ1_charAt_3b067_7 : decode cJ1_charAt_3b067 7 = .ok (.iload_n 1, 1) := by decide +kernel
theorem dJ1_charAt_3b067_8 : decode cJ1_charAt_3b067 8 = .ok (.baload, 1) := by decide +kernel
theorem dJ1_charAt_3b067_9 : decode cJ1_charAt_3b067 9 = .ok (.sipush 255, 3) := by decide +kernel
theorem dJ1_charAt_3b067_12 : decode cJ1_charAt_3b067 12 = .ok (.iand, 1) := by decide +kernel
theorem dJ1_charAt_3b067_13 : decode cJ1_charAt_3b067 13 = .ok (.i2c, 1) := by decide +kernel
theorem dJ1_charAt_3b067_14 : decode cJ1_charAt_3b067 14 = .ok (.ireturn, 1) := by decide +kernel
theorem dJ2_getChar_3b067_0 : decode cJ2_getChar_3b067 0 = .ok (.getstatic 44, 3) := by decide +kernel
theorem dJ2_getChar_3b067_3 : decode cJ2_getChar_3b067 3 = .ok (.ifCond .ne 25, 3) := by decide +kernel
theorem dJ2_getChar_3b067_6 : decode cJ2_getChar_3b067 6 = .ok (.iload_n 1, 1) := by decide +kernel
theorem dJ2_getChar_3b067_7 : decode cJ2_getChar_3b067 7 = .ok (.ifCond .lt 11, 3) := by decide +kernel
theorem dJ2_getChar_3b067_10 : decode cJ2_getChar_3b067 10 = .ok (.iload_n 1, 1) := by decide +kernel
theorem dJ2_getChar_3b067_11 : decode cJ2_getChar_3b067 11 = .ok (.aload_n 0, 1) := by decide +kernel
theorem dJ2_getChar_3b067_12 : decode cJ2_getChar_3b067 12 = .ok (.invokestatic 48, 3) := by decide +kernel
theorem dJ2_getChar_3b067_15 : decode cJ2_getChar_3b067 15 = .ok (.if_icmp .lt 13, 3) := by decide +kernel
theorem dJ2_getChar_3b067_18 : decode cJ2_getChar_3b067 18 = .ok (.new 52, 3) := by decide +kernel
theorem dJ2_getChar_3b067_21 : decode cJ2_getChar_3b067 21 = .ok (.dup, 1) := by decide +kernel
theorem dJ2_getChar_3b067_22 : decode cJ2_getChar_3b067 22 = .ok (.ldc 54, 2) := by decide +kernel
theorem dJ2_getChar_3b067_24 : decode cJ2_getChar_3b067 24 = .ok (.invokespecial 56, 3) := by decide +kernel
theorem dJ2_getChar_3b067_27 : decode cJ2_getChar_3b067 27 = .ok (.athrow, 1) := by decide +kernel
theorem dJ2_getChar_3b067_28 : decode cJ2_getChar_3b067 28 = .ok (.iload_n 1, 1) := by decide +kernel
theorem dJ2_getChar_3b067_29 : decode cJ2_getChar_3b067 29 = .ok (.iconst 1, 1) := by decide +kernel
theorem dJ2_getChar_3b067_30 : decode cJ2_getChar_3b067 30 = .ok (.ishl, 1) := by decide +kernel
theorem dJ2_getChar_3b067_31 : decode cJ2_getChar_3b067 31 = .ok (.istore_n 1, 1) := by decide +kernel
theorem dJ2_getChar_3b067_32 : decode cJ2_getChar_3b067 32 = .ok (.aload_n 0, 1) := by decide +kernel
theorem dJ2_getChar_3b067_33 : decode cJ2_getChar_3b067 33 = .ok (.iload_n 1, 1) := by decide +kernel
theorem dJ2_getChar_3b067_34 : decode cJ2_getChar_3b067 34 = .ok (.iinc 1 1, 3) := by decide +kernel
theorem dJ2_getChar_3b067_37 : decode cJ2_getChar_3b067 37 = .ok (.baload, 1) := by decide +kernel
theorem dJ2_getChar_3b067_38 : decode cJ2_getChar_3b067 38 = .ok (.sipush 255, 3) := by decide +kernel
theorem dJ2_getChar_3b067_41 : decode cJ2_getChar_3b067 41 = .ok (.iand, 1) := by decide +kernel
theorem dJ2_getChar_3b067_42 : decode cJ2_getChar_3b067 42 = .ok (.getstatic 59, 3) := by decide +kernel
theorem dJ2_getChar_3b067_45 : decode cJ2_getChar_3b067 45 = .ok (.ishl, 1) := by decide +kernel
theorem dJ2_getChar_3b067_46 : decode cJ2_getChar_3b067 46 = .ok (.aload_n 0, 1) := by decide +kernel
theorem dJ2_getChar_3b067_47 : decode cJ2_getChar_3b067 47 = .ok (.iload_n 1, 1) := by decide +kernel
theorem dJ2_getChar_3b067_48 : decode cJ2_getChar_3b067 48 = .ok (.baload, 1) := by decide +kernel
theorem dJ2_getChar_3b067_49 : decode cJ2_getChar_3b067 49 = .ok (.sipush 255, 3) := by decide +kernel
theorem dJ2_getChar_3b067_52 : decode cJ2_getChar_3b067 52 = .ok (.iand, 1) := by decide +kernel
theorem dJ2_getChar_3b067_53 : decode cJ2_getChar_3b067 53 = .ok (.getstatic 63, 3) := by decide +kernel
theorem dJ2_getChar_3b067_56 : decode cJ2_getChar_3b067 56 = .ok (.ishl, 1) := by decide +kernel
theorem dJ2_getChar_3b067_57 : decode cJ2_getChar_3b067 57 = .ok (.ior, 1) := by decide +kernel
theorem dJ2_getChar_3b067_58 : decode cJ2_getChar_3b067 58 = .ok (.i2c, 1) := by decide +kernel
theorem dJ2_getChar_3b067_59 : decode cJ2_getChar_3b067 59 = .ok (.ireturn, 1) := by decide +kernel
theorem dJ2_length_9d52b_0 : decode cJ2_length_9d52b 0 = .ok (.aload_n 0, 1) := by decide +kernel
theorem dJ2_length_9d52b_1 : decode cJ2_length_9d52b 1 = .ok (.arraylength, 1) := by decide +kernel
theorem dJ2_length_9d52b_2 : decode cJ2_length_9d52b 2 = .ok (.iconst 1, 1) := by decide +kernel
theorem dJ2_length_9d52b_3 : decode cJ2_length_9d52b 3 = .ok (.ishr, 1) := by decide +kernel
theorem dJ2_length_9d52b_4 : decode cJ2_length_9d52b 4 = .ok (.ireturn, 1) := by decide +kernel
theorem dJ2_charAt_3b067_0 : decode cJ2_charAt_3b067 0 = .ok (.iload_n 1, 1) := by decide +kernel
theorem dJ2_charAt_3b067_1 : decode cJ2_charAt_3b067 1 = .ok (.aload_n 0, 1) := by decide +kernel
theorem dJ2_charAt_3b067_2 : decode cJ2_charAt_3b067 2 = .ok (.invokestatic 67, 3) := by decide +kernel
theorem dJ2_charAt_3b067_5 : decode cJ2_charAt_3b067 5 = .ok (.aload_n 0, 1) := by decide +kernel
theorem dJ2_charAt_3b067_6 : decode cJ2_charAt_3b067 6 = .ok (.iload_n 1, 1) := by decide +kernel
theorem dJ2_charAt_3b067_7 : decode cJ2_charAt_3b067 7 = .ok (.invokestatic 71, 3) := by decide +kernel
theorem dJ2_charAt_3b067_10 : decode cJ2_charAt_3b067 10 = .ok (.ireturn, 1) := by decide +kernel
theorem dJ2_checkIndex_2214a_0 : decode cJ2_checkIndex_2214a 0 = .ok (.iload_n 0, 1) := by decide +kernel
theorem dJ2_checkIndex_2214a_1 : decode cJ2_checkIndex_2214a 1 = .ok (.aload_n 1, 1) := by decide +kernel
theorem dJ2_checkIndex_2214a_2 : decode cJ2_checkIndex_2214a 2 = .ok (.invokestatic 48, 3) := by decide +kernel
theorem dJ2_checkIndex_2214a_5 : decode cJ2_checkIndex_2214a 5 = .ok (.invokestatic 414, 3) := by decide +kernel
theorem dJ2_checkIndex_2214a_8 : decode cJ2_checkIndex_2214a 8 = .ok (.return_, 1) := by decide +kernel
theorem dJ3_checkIndex_8e157_0 : decode cJ3_checkIndex_8e157 0 = .ok (.iload_n 0, 1) := by decide +kernel
theorem dJ3_checkIndex_8e157_1 : decode cJ3_checkIndex_8e157 1 = .ok (.ifCond .lt 8, 3) := by decide +kernel
theorem dJ3_checkIndex_8e157_4 : decode cJ3_checkIndex_8e157 4 = .ok (.iload_n 0, 1) := by decide +kernel
theorem dJ3_checkIndex_8e157_5 : decode cJ3_checkIndex_8e157 5 = .ok (.iload_n 1, 1) := by decide +kernel
theorem dJ3_checkIndex_8e157_6 : decode cJ3_checkIndex_8e157 6 = .ok (.if_icmp .lt 10, 3) := by decide +kernel
theorem dJ3_checkIndex_8e157_9 : decode cJ3_checkIndex_8e157 9 = .ok (.aload_n 2, 1) := by decide +kernel
theorem dJ3_checkIndex_8e157_10 : decode cJ3_checkIndex_8e157 10 = .ok (.iload_n 0, 1) := by decide +kernel
theorem dJ3_checkIndex_8e157_11 : decode cJ3_checkIndex_8e157 11 = .ok (.iload_n 1, 1) := by decide +kernel
theorem dJ3_checkIndex_8e157_12 : decode cJ3_checkIndex_8e157 12 = .ok (.invokestatic 95, 3) := by decide +kernel
theorem dJ3_checkIndex_8e157_15 : decode cJ3_checkIndex_8e157 15 = .ok (.athrow, 1) := by decide +kernel
theorem dJ3_checkIndex_8e157_16 : decode cJ3_checkIndex_8e157 16 = .ok (.iload_n 0, 1) := by decide +kernel
theorem dJ3_checkIndex_8e157_17 : decode cJ3_checkIndex_8e157 17 = .ok (.ireturn, 1) := by decide +kernel
theorem dL_law_0 : decode cL_law 0 = .ok (.new 7, 3) := by decide +kernel
theorem dL_law_3 : decode cL_law 3 = .ok (.dup, 1) := by decide +kernel
theorem dL_law_4 : decode cL_law 4 = .ok (.invokespecial 9, 3) := by decide +kernel
theorem dL_law_7 : decode cL_law 7 = .ok (.astore_n 1, 1) := by decide +kernel
theorem dL_law_8 : decode cL_law 8 = .ok (.new 10, 3) := by decide +kernel
theorem dL_law_11 : decode cL_law 11 = .ok (.dup, 1) := by decide +kernel
theorem dL_law_12 : decode cL_law 12 = .ok (.invokespecial 12, 3) := by decide +kernel
theorem dL_law_15 : decode cL_law 15 = .ok (.astore_n 2, 1) := by decide +kernel
theorem dL_law_16 : decode cL_law 16 = .ok (.iconst 0, 1) := by decide +kernel
theorem dL_law_17 : decode cL_law 17 = .ok (.istore_n 3, 1) := by decide +kernel
theorem dL_law_18 : decode cL_law 18 = .ok (.iload_n 3, 1) := by decide +kernel
theorem dL_law_19 : decode cL_law 19 = .ok (.aload_n 0, 1) := by decide +kernel
theorem dL_law_20 : decode cL_law 20 = .ok (.arraylength, 1) := by decide +kernel
theorem dL_law_21 : decode cL_law 21 = .ok (.bipush 6, 2) := by decide +kernel
theorem dL_law_23 : decode cL_law 23 = .ok (.isub, 1) := by decide +kernel
theorem dL_law_24 : decode cL_law 24 = .ok (.if_icmp .gt 955, 3) := by decide +kernel
theorem dL_law_27 : decode cL_law 27 = .ok (.aload_n 0, 1) := by decide +kernel
theorem dL_law_28 : decode cL_law 28 = .ok (.iload_n 3, 1) := by decide +kernel
theorem dL_law_29 : decode cL_law 29 = .ok (.iaload, 1) := by decide +kernel
theorem dL_law_30 : decode cL_law 30 = .ok (.bipush 31, 2) := by decide +kernel
theorem dL_law_32 : decode cL_law 32 = .ok (.iand, 1) := by decide +kernel
theorem dL_law_33 : decode cL_law 33 = .ok (.tableswitch 940 0 27 #[127, 150, 163, 176, 189, 222, 255, 268, 301, 350, 373, 386, 419, 442, 455, 478, 491, 554, 587, 600, 623, 672, 715, 794, 848, 871, 894, 917], 127) := by decide +kernel
theorem dL_law_160 : decode cL_law 160 = .ok (.aload_n 1, 1) := by decide +kernel
theorem dL_law_161 : decode cL_law 161 = .ok (.aload_n 0, 1) := by decide +kernel
theorem dL_law_162 : decode cL_law 162 = .ok (.iload_n 3, 1) := by decide +kernel
theorem dL_law_163 : decode cL_law 163 = .ok (.iconst 1, 1) := by decide +kernel
theorem dL_law_164 : decode cL_law 164 = .ok (.iadd, 1) := by decide +kernel
theorem dL_law_165 : decode cL_law 165 = .ok (.iaload, 1) := by decide +kernel
theorem dL_law_166 : decode cL_law 166 = .ok (.invokevirtual 13, 3) := by decide +kernel
theorem dL_law_169 : decode cL_law 169 = .ok (.aload_n 2, 1) := by decide +kernel
theorem dL_law_170 : decode cL_law 170 = .ok (.aload_n 0, 1) := by decide +kernel
theorem dL_law_171 : decode cL_law 171 = .ok (.iload_n 3, 1) := by decide +kernel
theorem dL_law_172 : decode cL_law 172 = .ok (.iconst 1, 1) := by decide +kernel
theorem dL_law_173 : decode cL_law 173 = .ok (.iadd, 1) := by decide +kernel
theorem dL_law_174 : decode cL_law 174 = .ok (.iaload, 1) := by decide +kernel
theorem dL_law_175 : decode cL_law 175 = .ok (.invokevirtual 17, 3) := by decide +kernel
theorem dL_law_178 : decode cL_law 178 = .ok (.if_icmp .eq 795, 3) := by decide +kernel
theorem dL_law_181 : decode cL_law 181 = .ok (.iconst 0, 1) := by decide +kernel
theorem dL_law_182 : decode cL_law 182 = .ok (.ireturn, 1) := by decide +kernel
theorem dL_law_183 : decode cL_law 183 = .ok (.aload_n 1, 1) := by decide +kernel
theorem dL_law_184 : decode cL_law 184 = .ok (.invokevirtual 18, 3) := by decide +kernel
theorem dL_law_187 : decode cL_law 187 = .ok (.aload_n 2, 1) := by decide +kernel
theorem dL_law_188 : decode cL_law 188 = .ok (.invokevirtual 22, 3) := by decide +kernel
theorem dL_law_191 : decode cL_law 191 = .ok (.if_icmp .eq 782, 3) := by decide +kernel
theorem dL_law_194 : decode cL_law 194 = .ok (.iconst 0, 1) := by decide +kernel
theorem dL_law_195 : decode cL_law 195 = .ok (.ireturn, 1) := by decide +kernel
theorem dL_law_196 : decode cL_law 196 = .ok (.aload_n 1, 1) := by decide +kernel
theorem dL_law_197 : decode cL_law 197 = .ok (.invokevirtual 23, 3) := by decide +kernel
theorem dL_law_200 : decode cL_law 200 = .ok (.aload_n 2, 1) := by decide +kernel
theorem dL_law_201 : decode cL_law 201 = .ok (.invokevirtual 26, 3) := by decide +kernel
theorem dL_law_204 : decode cL_law 204 = .ok (.if_icmp .eq 769, 3) := by decide +kernel
theorem dL_law_207 : decode cL_law 207 = .ok (.iconst 0, 1) := by decide +kernel
theorem dL_law_208 : decode cL_law 208 = .ok (.ireturn, 1) := by decide +kernel
theorem dL_law_209 : decode cL_law 209 = .ok (.aload_n 1, 1) := by decide +kernel
theorem dL_law_210 : decode cL_law 210 = .ok (.invokevirtual 27, 3) := by decide +kernel
theorem dL_law_213 : decode cL_law 213 = .ok (.aload_n 2, 1) := by decide +kernel
theorem dL_law_214 : decode cL_law 214 = .ok (.invokevirtual 30, 3) := by decide +kernel
theorem dL_law_217 : decode cL_law 217 = .ok (.if_icmp .eq 756, 3) := by decide +kernel
theorem dL_law_220 : decode cL_law 220 = .ok (.iconst 0, 1) := by decide +kernel
theorem dL_law_221 : decode cL_law 221 = .ok (.ireturn, 1) := by decide +kernel
theorem dL_law_222 : decode cL_law 222 = .ok (.aload_n 1, 1) := by decide +kernel
theorem dL_law_223 : decode cL_law 223 = .ok (.aload_n 0, 1) := by decide +kernel
theorem dL_law_224 : decode cL_law 224 = .ok (.iload_n 3, 1) := by decide +kernel
theorem dL_law_225 : decode cL_law 225 = .ok (.iconst 1, 1) := by decide +kernel
theorem dL_law_226 : decode cL_law 226 = .ok (.iadd, 1) := by decide +kernel
theorem dL_law_227 : decode cL_law 227 = .ok (.iaload, 1) := by decide +kernel
theorem dL_law_228 : decode cL_law 228 = .ok (.aload_n 0, 1) := by decide +kernel
theorem dL_law_229 : decode cL_law 229 = .ok (.iload_n 3, 1) := by decide +kernel
theorem dL_law_230 : decode cL_law 230 = .ok (.iconst 2, 1) := by decide +kernel
theorem dL_law_231 : decode cL_law 231 = .ok (.iadd, 1) := by decide +kernel
theorem dL_law_232 : decode cL_law 232 = .ok (.iaload, 1) := by decide +kernel
theorem dL_law_233 : decode cL_law 233 = .ok (.invokevirtual 31, 3) := by decide +kernel
theorem dL_law_236 : decode cL_law 236 = .ok (.aload_n 2, 1) := by decide +kernel
theorem dL_law_237 : decode cL_law 237 = .ok (.aload_n 0, 1) := by decide +kernel
theorem dL_law_238 : decode cL_law 238 = .ok (.iload_n 3, 1) := by decide +kernel
theorem dL_law_239 : decode cL_law 239 = .ok (.iconst 1, 1) := by decide +kernel
theorem dL_law_240 : decode cL_law 240 = .ok (.iadd, 1) := by decide +kernel
theorem dL_law_241 : decode cL_law 241 = .ok (.iaload, 1) := by decide +kernel
theorem dL_law_242 : decode cL_law 242 = .ok (.aload_n 0, 1) := by decide +kernel
theorem dL_law_243 : decode cL_law 243 = .ok (.iload_n 3, 1) := by decide +kernel
theorem dL_law_244 : decode cL_law 244 = .ok (.iconst 2, 1) := by decide +kernel
theorem dL_law_245 : decode cL_law 245 = .ok (.iadd, 1) := by decide +kernel
theorem dL_law_246 : decode cL_law 246 = .ok (.iaload, 1) := by decide +kernel
theorem dL_law_247 : decode cL_law 247 = .ok (.invokevirtual 35, 3) := by decide +kernel
theorem dL_law_250 : decode cL_law 250 = .ok (.if_icmp .eq 723, 3) := by decide +kernel
theorem dL_law_253 : decode cL_law 253 = .ok (.iconst 0, 1) := by decide +kernel
theorem dL_law_254 : decode cL_law 254 = .ok (.ireturn, 1) := by decide +kernel
theorem dL_law_255 : decode cL_law 255 = .ok (.aload_n 1, 1) := by decide +kernel
theorem dL_law_256 : decode cL_law 256 = .ok (.aload_n 0, 1) := by decide +kernel
theorem dL_law_257 : decode cL_law 257 = .ok (.iload_n 3, 1) := by decide +kernel
theorem dL_law_258 : decode cL_law 258 = .ok (.iconst 1, 1) := by decide +kernel
theorem dL_law_259 : decode cL_law 259 = .ok (.iadd, 1) := by decide +kernel
theorem dL_law_260 : decode cL_law 260 = .ok (.iaload, 1) := by decide +kernel
theorem dL_law_261 : decode cL_law 261 = .ok (.aload_n 0, 1) := by decide +kernel
theorem dL_law_262 : decode cL_law 262 = .ok (.iload_n 3, 1) := by decide +kernel
theorem dL_law_263 : decode cL_law 263 = .ok (.iconst 2, 1) := by decide +kernel
theorem dL_law_264 : decode cL_law 264 = .ok (.iadd, 1) := by decide +kernel
theorem dL_law_265 : decode cL_law 265 = .ok (.iaload, 1) := by decide +kernel
theorem dL_law_266 : decode cL_law 266 = .ok (.invokevirtual 36, 3) := by decide +kernel
theorem dL_law_269 : decode cL_law 269 = .ok (.aload_n 2, 1) := by decide +kernel
theorem dL_law_270 : decode cL_law 270 = .ok (.aload_n 0, 1) := by decide +kernel
theorem dL_law_271 : decode cL_law 271 = .ok (.iload_n 3, 1) := by decide +kernel
theorem dL_law_272 : decode cL_law 272 = .ok (.iconst 1, 1) := by decide +kernel
theorem dL_law_273 : decode cL_law 273 = .ok (.iadd, 1) := by decide +kernel
theorem dL_law_274 : decode cL_law 274 = .ok (.iaload, 1) := by decide +kernel
theorem dL_law_275 : decode cL_law 275 = .ok (.aload_n 0, 1) := by decide +kernel
theorem dL_law_276 : decode cL_law 276 = .ok (.iload_n 3, 1) := by decide +kernel
theorem dL_law_277 : decode cL_law 277 = .ok (.iconst 2, 1) := by decide +kernel
theorem dL_law_278 : decode cL_law 278 = .ok (.iadd, 1) := by decide +kernel
theorem dL_law_279 : decode cL_law 279 = .ok (.iaload, 1) := by decide +kernel
theorem dL_law_280 : decode cL_law 280 = .ok (.invokevirtual 39, 3) := by decide +kernel
theorem dL_law_283 : decode cL_law 283 = .ok (.if_icmp .eq 690, 3) := by decide +kernel
theorem dL_law_286 : decode cL_law 286 = .ok (.iconst 0, 1) := by decide +kernel
theorem dL_law_287 : decode cL_law 287 = .ok (.ireturn, 1) := by decide +kernel
theorem dL_law_288 : decode cL_law 288 = .ok (.aload_n 1, 1) := by decide +kernel
theorem dL_law_289 : decode cL_law 289 = .ok (.invokevirtual 40, 3) := by decide +kernel
theorem dL_law_292 : decode cL_law 292 = .ok (.aload_n 2, 1) := by decide +kernel
theorem dL_law_293 : decode cL_law 293 = .ok (.invokevirtual 43, 3) := by decide +kernel
theorem dL_law_296 : decode cL_law 296 = .ok (.if_icmp .eq 677, 3) := by decide +kernel
theorem dL_law_299 : decode cL_law 299 = .ok (.iconst 0, 1) := by decide +kernel
theorem dL_law_300 : decode cL_law 300 = .ok (.ireturn, 1) := by decide +kernel
theorem dL_law_301 : decode cL_law 301 = .ok (.aload_n 1, 1) := by decide +kernel
theorem dL_law_302 : decode cL_law 302 = .ok (.aload_n 0, 1) := by decide +kernel
theorem dL_law_303 : decode cL_law 303 = .ok (.iload_n 3, 1) := by decide +kernel
theorem dL_law_304 : decode cL_law 304 = .ok (.iconst 1, 1) := by decide +kernel
theorem dL_law_305 : decode cL_law 305 = .ok (.iadd, 1) := by decide +kernel
theorem dL_law_306 : decode cL_law 306 = .ok (.iaload, 1) := by decide +kernel
theorem dL_law_307 : decode cL_law 307 = .ok (.aload_n 0, 1) := by decide +kernel
theorem dL_law_308 : decode cL_law 308 = .ok (.iload_n 3, 1) := by decide +kernel
theorem dL_law_309 : decode cL_law 309 = .ok (.iconst 2, 1) := by decide +kernel
theorem dL_law_310 : decode cL_law 310 = .ok (.iadd, 1) := by decide +kernel
theorem dL_law_311 : decode cL_law 311 = .ok (.iaload, 1) := by decide +kernel
theorem dL_law_312 : decode cL_law 312 = .ok (.invokevirtual 44, 3) := by decide +kernel
theorem dL_law_315 : decode cL_law 315 = .ok (.aload_n 2, 1) := by decide +kernel
theorem dL_law_316 : decode cL_law 316 = .ok (.aload_n 0, 1) := by decide +kernel
theorem dL_law_317 : decode cL_law 317 = .ok (.iload_n 3, 1) := by decide +kernel
theorem dL_law_318 : decode cL_law 318 = .ok (.iconst 1, 1) := by decide +kernel
theorem dL_law_319 : decode cL_law 319 = .ok (.iadd, 1) := by decide +kernel
theorem dL_law_320 : decode cL_law 320 = .ok (.iaload, 1) := by decide +kernel
theorem dL_law_321 : decode cL_law 321 = .ok (.aload_n 0, 1) := by decide +kernel
theorem dL_law_322 : decode cL_law 322 = .ok (.iload_n 3, 1) := by decide +kernel
theorem dL_law_323 : decode cL_law 323 = .ok (.iconst 2, 1) := by decide +kernel
theorem dL_law_324 : decode cL_law 324 = .ok (.iadd, 1) := by decide +kernel
theorem dL_law_325 : decode cL_law 325 = .ok (.iaload, 1) := by decide +kernel
theorem dL_law_326 : decode cL_law 326 = .ok (.invokevirtual 47, 3) := by decide +kernel
theorem dL_law_329 : decode cL_law 329 = .ok (.if_icmp .eq 644, 3) := by decide +kernel
theorem dL_law_332 : decode cL_law 332 = .ok (.iconst 0, 1) := by decide +kernel
theorem dL_law_333 : decode cL_law 333 = .ok (.ireturn, 1) := by decide +kernel
theorem dL_law_334 : decode cL_law 334 = .ok (.aload_n 1, 1) := by decide +kernel
theorem dL_law_335 : decode cL_law 335 = .ok (.aload_n 0, 1) := by decide +kernel
theorem dL_law_336 : decode cL_law 336 = .ok (.iload_n 3, 1) := by decide +kernel
theorem dL_law_337 : decode cL_law 337 = .ok (.iconst 1, 1) := by decide +kernel
theorem dL_law_338 : decode cL_law 338 = .ok (.iadd, 1) := by decide +kernel
theorem dL_law_339 : decode cL_law 339 = .ok (.iaload, 1) := by decide +kernel
theorem dL_law_340 : decode cL_law 340 = .ok (.aload_n 0, 1) := by decide +kernel
theorem dL_law_341 : decode cL_law 341 = .ok (.iload_n 3, 1) := by decide +kernel
theorem dL_law_342 : decode cL_law 342 = .ok (.iconst 2, 1) := by decide +kernel
theorem dL_law_343 : decode cL_law 343 = .ok (.iadd, 1) := by decide +kernel
theorem dL_law_344 : decode cL_law 344 = .ok (.iaload, 1) := by decide +kernel
theorem dL_law_345 : decode cL_law 345 = .ok (.ifCond .eq 7, 3) := by decide +kernel
theorem dL_law_348 : decode cL_law 348 = .ok (.iconst 1, 1) := by decide +kernel
theorem dL_law_349 : decode cL_law 349 = .ok (.goto 4, 3) := by decide +kernel
theorem dL_law_352 : decode cL_law 352 = .ok (.iconst 0, 1) := by decide +kernel
theorem dL_law_353 : decode cL_law 353 = .ok (.invokevirtual 48, 3) := by decide +kernel
theorem dL_law_356 : decode cL_law 356 = .ok (.aload_n 2, 1) := by decide +kernel
theorem dL_law_357 : decode cL_law 357 = .ok (.aload_n 0, 1) := by decide +kernel
theorem dL_law_358 : decode cL_law 358 = .ok (.iload_n 3, 1) := by decide +kernel
theorem dL_law_359 : decode cL_law 359 = .ok (.iconst 1, 1) := by decide +kernel
theorem dL_law_360 : decode cL_law 360 = .ok (.iadd, 1) := by decide +kernel
theorem dL_law_361 : decode cL_law 361 = .ok (.iaload, 1) := by decide +kernel
theorem dL_law_362 : decode cL_law 362 = .ok (.aload_n 0, 1) := by decide +kernel
theorem dL_law_363 : decode cL_law 363 = .ok (.iload_n 3, 1) := by decide +kernel
theorem dL_law_364 : decode cL_law 364 = .ok (.iconst 2, 1) := by decide +kernel
theorem dL_law_365 : decode cL_law 365 = .ok (.iadd, 1) := by decide +kernel
theorem dL_law_366 : decode cL_law 366 = .ok (.iaload, 1) := by decide +kernel
theorem dL_law_367 : decode cL_law 367 = .ok (.ifCond .eq 7, 3) := by decide +kernel
theorem dL_law_370 : decode cL_law 370 = .ok (.iconst 1, 1) := by decide +kernel
theorem dL_law_371 : decode cL_law 371 = .ok (.goto 4, 3) := by decide +kernel
theorem dL_law_374 : decode cL_law 374 = .ok (.iconst 0, 1) := by decide +kernel
theorem dL_law_375 : decode cL_law 375 = .ok (.invokevirtual 52, 3) := by decide +kernel
theorem dL_law_378 : decode cL_law 378 = .ok (.if_icmp .eq 595, 3) := by decide +kernel
theorem dL_law_381 : decode cL_law 381 = .ok (.iconst 0, 1) := by decide +kernel
theorem dL_law_382 : decode cL_law 382 = .ok (.ireturn, 1) := by decide +kernel
theorem dL_law_383 : decode cL_law 383 = .ok (.aload_n 1, 1) := by decide +kernel
theorem dL_law_384 : decode cL_law 384 = .ok (.aload_n 0, 1) := by decide +kernel
theorem dL_law_385 : decode cL_law 385 = .ok (.iload_n 3, 1) := by decide +kernel
theorem dL_law_386 : decode cL_law 386 = .ok (.iconst 1, 1) := by decide +kernel
theorem dL_law_387 : decode cL_law 387 = .ok (.iadd, 1) := by decide +kernel
theorem dL_law_388 : decode cL_law 388 = .ok (.iaload, 1) := by decide +kernel
theorem dL_law_389 : decode cL_law 389 = .ok (.invokevirtual 53, 3) := by decide +kernel
theorem dL_law_392 : decode cL_law 392 = .ok (.aload_n 2, 1) := by decide +kernel
theorem dL_law_393 : decode cL_law 393 = .ok (.aload_n 0, 1) := by decide +kernel
theorem dL_law_394 : decode cL_law 394 = .ok (.iload_n 3, 1) := by decide +kernel
theorem dL_law_395 : decode cL_law 395 = .ok (.iconst 1, 1) := by decide +kernel
theorem dL_law_396 : decode cL_law 396 = .ok (.iadd, 1) := by decide +kernel
theorem dL_law_397 : decode cL_law 397 = .ok (.iaload, 1) := by decide +kernel
theorem dL_law_398 : decode cL_law 398 = .ok (.invokevirtual 56, 3) := by decide +kernel
theorem dL_law_401 : decode cL_law 401 = .ok (.if_icmp .eq 572, 3) := by decide +kernel
theorem dL_law_404 : decode cL_law 404 = .ok (.iconst 0, 1) := by decide +kernel
theorem dL_law_405 : decode cL_law 405 = .ok (.ireturn, 1) := by decide +kernel
theorem dL_law_406 : decode cL_law 406 = .ok (.aload_n 1, 1) := by decide +kernel
theorem dL_law_407 : decode cL_law 407 = .ok (.invokevirtual 57, 3) := by decide +kernel
theorem dL_law_410 : decode cL_law 410 = .ok (.aload_n 2, 1) := by decide +kernel
theorem dL_law_411 : decode cL_law 411 = .ok (.invokevirtual 60, 3) := by decide +kernel
theorem dL_law_414 : decode cL_law 414 = .ok (.if_icmp .eq 559, 3) := by decide +kernel
theorem dL_law_417 : decode cL_law 417 = .ok (.iconst 0, 1) := by decide +kernel
theorem dL_law_418 : decode cL_law 418 = .ok (.ireturn, 1) := by decide +kernel
theorem dL_law_419 : decode cL_law 419 = .ok (.aload_n 1, 1) := by decide +kernel
theorem dL_law_420 : decode cL_law 420 = .ok (.aload_n 0, 1) := by decide +kernel
theorem dL_law_421 : decode cL_law 421 = .ok (.iload_n 3, 1) := by decide +kernel
theorem dL_law_422 : decode cL_law 422 = .ok (.iconst 1, 1) := by decide +kernel
theorem dL_law_423 : decode cL_law 423 = .ok (.iadd, 1) := by decide +kernel
theorem dL_law_424 : decode cL_law 424 = .ok (.iaload, 1) := by decide +kernel
theorem dL_law_425 : decode cL_law 425 = .ok (.aload_n 0, 1) := by decide +kernel
theorem dL_law_426 : decode cL_law 426 = .ok (.iload_n 3, 1) := by decide +kernel
theorem dL_law_427 : decode cL_law 427 = .ok (.iconst 2, 1) := by decide +kernel
theorem dL_law_428 : decode cL_law 428 = .ok (.iadd, 1) := by decide +kernel
theorem dL_law_429 : decode cL_law 429 = .ok (.iaload, 1) := by decide +kernel
theorem dL_law_430 : decode cL_law 430 = .ok (.invokevirtual 61, 3) := by decide +kernel
theorem dL_law_433 : decode cL_law 433 = .ok (.aload_n 2, 1) := by decide +kernel
theorem dL_law_434 : decode cL_law 434 = .ok (.aload_n 0, 1) := by decide +kernel
theorem dL_law_435 : decode cL_law 435 = .ok (.iload_n 3, 1) := by decide +kernel
theorem dL_law_436 : decode cL_law 436 = .ok (.iconst 1, 1) := by decide +kernel
theorem dL_law_437 : decode cL_law 437 = .ok (.iadd, 1) := by decide +kernel
theorem dL_law_438 : decode cL_law 438 = .ok (.iaload, 1) := by decide +kernel
theorem dL_law_439 : decode cL_law 439 = .ok (.aload_n 0, 1) := by decide +kernel
theorem dL_law_440 : decode cL_law 440 = .ok (.iload_n 3, 1) := by decide +kernel
theorem dL_law_441 : decode cL_law 441 = .ok (.iconst 2, 1) := by decide +kernel
theorem dL_law_442 : decode cL_law 442 = .ok (.iadd, 1) := by decide +kernel
theorem dL_law_443 : decode cL_law 443 = .ok (.iaload, 1) := by decide +kernel
theorem dL_law_444 : decode cL_law 444 = .ok (.invokevirtual 64, 3) := by decide +kernel
theorem dL_law_447 : decode cL_law 447 = .ok (.if_icmp .eq 526, 3) := by decide +kernel
theorem dL_law_450 : decode cL_law 450 = .ok (.iconst 0, 1) := by decide +kernel
theorem dL_law_451 : decode cL_law 451 = .ok (.ireturn, 1) := by decide +kernel
theorem dL_law_452 : decode cL_law 452 = .ok (.aload_n 1, 1) := by decide +kernel
theorem dL_law_453 : decode cL_law 453 = .ok (.aload_n 0, 1) := by decide +kernel
theorem dL_law_454 : decode cL_law 454 = .ok (.iload_n 3, 1) := by decide +kernel
theorem dL_law_455 : decode cL_law 455 = .ok (.iconst 1, 1) := by decide +kernel
theorem dL_law_456 : decode cL_law 456 = .ok (.iadd, 1) := by decide +kernel
theorem dL_law_457 : decode cL_law 457 = .ok (.iaload, 1) := by decide +kernel
theorem dL_law_458 : decode cL_law 458 = .ok (.invokevirtual 65, 3) := by decide +kernel
theorem dL_law_461 : decode cL_law 461 = .ok (.aload_n 2, 1) := by decide +kernel
theorem dL_law_462 : decode cL_law 462 = .ok (.aload_n 0, 1) := by decide +kernel
theorem dL_law_463 : decode cL_law 463 = .ok (.iload_n 3, 1) := by decide +kernel
theorem dL_law_464 : decode cL_law 464 = .ok (.iconst 1, 1) := by decide +kernel
theorem dL_law_465 : decode cL_law 465 = .ok (.iadd, 1) := by decide +kernel
theorem dL_law_466 : decode cL_law 466 = .ok (.iaload, 1) := by decide +kernel
theorem dL_law_467 : decode cL_law 467 = .ok (.invokevirtual 68, 3) := by decide +kernel
theorem dL_law_470 : decode cL_law 470 = .ok (.if_icmp .eq 503, 3) := by decide +kernel
theorem dL_law_473 : decode cL_law 473 = .ok (.iconst 0, 1) := by decide +kernel
theorem dL_law_474 : decode cL_law 474 = .ok (.ireturn, 1) := by decide +kernel
theorem dL_law_475 : decode cL_law 475 = .ok (.aload_n 1, 1) := by decide +kernel
theorem dL_law_476 : decode cL_law 476 = .ok (.invokevirtual 69, 3) := by decide +kernel
theorem dL_law_479 : decode cL_law 479 = .ok (.aload_n 2, 1) := by decide +kernel
theorem dL_law_480 : decode cL_law 480 = .ok (.invokevirtual 72, 3) := by decide +kernel
theorem dL_law_483 : decode cL_law 483 = .ok (.if_icmp .eq 490, 3) := by decide +kernel
theorem dL_law_486 : decode cL_law 486 = .ok (.iconst 0, 1) := by decide +kernel
theorem dL_law_487 : decode cL_law 487 = .ok (.ireturn, 1) := by decide +kernel
theorem dL_law_488 : decode cL_law 488 = .ok (.aload_n 1, 1) := by decide +kernel
theorem dL_law_489 : decode cL_law 489 = .ok (.aload_n 0, 1) := by decide +kernel
theorem dL_law_490 : decode cL_law 490 = .ok (.iload_n 3, 1) := by decide +kernel
theorem dL_law_491 : decode cL_law 491 = .ok (.iconst 1, 1) := by decide +kernel
theorem dL_law_492 : decode cL_law 492 = .ok (.iadd, 1) := by decide +kernel
theorem dL_law_493 : decode cL_law 493 = .ok (.iaload, 1) := by decide +kernel
theorem dL_law_494 : decode cL_law 494 = .ok (.invokevirtual 73, 3) := by decide +kernel
theorem dL_law_497 : decode cL_law 497 = .ok (.aload_n 2, 1) := by decide +kernel
theorem dL_law_498 : decode cL_law 498 = .ok (.aload_n 0, 1) := by decide +kernel
theorem dL_law_499 : decode cL_law 499 = .ok (.iload_n 3, 1) := by decide +kernel
theorem dL_law_500 : decode cL_law 500 = .ok (.iconst 1, 1) := by decide +kernel
theorem dL_law_501 : decode cL_law 501 = .ok (.iadd, 1) := by decide +kernel
theorem dL_law_502 : decode cL_law 502 = .ok (.iaload, 1) := by decide +kernel
theorem dL_law_503 : decode cL_law 503 = .ok (.invokevirtual 76, 3) := by decide +kernel
theorem dL_law_506 : decode cL_law 506 = .ok (.if_icmp .eq 467, 3) := by decide +kernel
theorem dL_law_509 : decode cL_law 509 = .ok (.iconst 0, 1) := by decide +kernel
theorem dL_law_510 : decode cL_law 510 = .ok (.ireturn, 1) := by decide +kernel
theorem dL_law_511 : decode cL_law 511 = .ok (.aload_n 1, 1) := by decide +kernel
theorem dL_law_512 : decode cL_law 512 = .ok (.invokevirtual 77, 3) := by decide +kernel
theorem dL_law_515 : decode cL_law 515 = .ok (.aload_n 2, 1) := by decide +kernel
theorem dL_law_516 : decode cL_law 516 = .ok (.invokevirtual 80, 3) := by decide +kernel
theorem dL_law_519 : decode cL_law 519 = .ok (.if_icmp .eq 454, 3) := by decide +kernel
theorem dL_law_522 : decode cL_law 522 = .ok (.iconst 0, 1) := by decide +kernel
theorem dL_law_523 : decode cL_law 523 = .ok (.ireturn, 1) := by decide +kernel
theorem dL_law_524 : decode cL_law 524 = .ok (.aload_n 1, 1) := by decide +kernel
theorem dL_law_525 : decode cL_law 525 = .ok (.aload_n 0, 1) := by decide +kernel
theorem dL_law_526 : decode cL_law 526 = .ok (.iload_n 3, 1) := by decide +kernel
theorem dL_law_527 : decode cL_law 527 = .ok (.iconst 1, 1) := by decide +kernel
theorem dL_law_528 : decode cL_law 528 = .ok (.iadd, 1) := by decide +kernel
theorem dL_law_529 : decode cL_law 529 = .ok (.iaload, 1) := by decide +kernel
theorem dL_law_530 : decode cL_law 530 = .ok (.aload_n 0, 1) := by decide +kernel
theorem dL_law_531 : decode cL_law 531 = .ok (.iload_n 3, 1) := by decide +kernel
theorem dL_law_532 : decode cL_law 532 = .ok (.iconst 2, 1) := by decide +kernel
theorem dL_law_533 : decode cL_law 533 = .ok (.iadd, 1) := by decide +kernel
theorem dL_law_534 : decode cL_law 534 = .ok (.iaload, 1) := by decide +kernel
theorem dL_law_535 : decode cL_law 535 = .ok (.i2l, 1) := by decide +kernel
theorem dL_law_536 : decode cL_law 536 = .ok (.bipush 32, 2) := by decide +kernel
theorem dL_law_538 : decode cL_law 538 = .ok (.lshl, 1) := by decide +kernel
theorem dL_law_539 : decode cL_law 539 = .ok (.aload_n 0, 1) := by decide +kernel
theorem dL_law_540 : decode cL_law 540 = .ok (.iload_n 3, 1) := by decide +kernel
theorem dL_law_541 : decode cL_law 541 = .ok (.iconst 3, 1) := by decide +kernel
theorem dL_law_542 : decode cL_law 542 = .ok (.iadd, 1) := by decide +kernel
theorem dL_law_543 : decode cL_law 543 = .ok (.iaload, 1) := by decide +kernel
theorem dL_law_544 : decode cL_law 544 = .ok (.i2l, 1) := by decide +kernel
theorem dL_law_545 : decode cL_law 545 = .ok (.ldc2_w 81, 3) := by decide +kernel
theorem dL_law_548 : decode cL_law 548 = .ok (.land, 1) := by decide +kernel
theorem dL_law_549 : decode cL_law 549 = .ok (.lor, 1) := by decide +kernel
theorem dL_law_550 : decode cL_law 550 = .ok (.invokevirtual 83, 3) := by decide +kernel
theorem dL_law_553 : decode cL_law 553 = .ok (.aload_n 2, 1) := by decide +kernel
theorem dL_law_554 : decode cL_law 554 = .ok (.aload_n 0, 1) := by decide +kernel
theorem dL_law_555 : decode cL_law 555 = .ok (.iload_n 3, 1) := by decide +kernel
theorem dL_law_556 : decode cL_law 556 = .ok (.iconst 1, 1) := by decide +kernel
theorem dL_law_557 : decode cL_law 557 = .ok (.iadd, 1) := by decide +kernel
theorem dL_law_558 : decode cL_law 558 = .ok (.iaload, 1) := by decide +kernel
theorem dL_law_559 : decode cL_law 559 = .ok (.aload_n 0, 1) := by decide +kernel
theorem dL_law_560 : decode cL_law 560 = .ok (.iload_n 3, 1) := by decide +kernel
theorem dL_law_561 : decode cL_law 561 = .ok (.iconst 2, 1) := by decide +kernel
theorem dL_law_562 : decode cL_law 562 = .ok (.iadd, 1) := by decide +kernel
theorem dL_law_563 : decode cL_law 563 = .ok (.iaload, 1) := by decide +kernel
theorem dL_law_564 : decode cL_law 564 = .ok (.i2l, 1) := by decide +kernel
theorem dL_law_565 : decode cL_law 565 = .ok (.bipush 32, 2) := by decide +kernel
theorem dL_law_567 : decode cL_law 567 = .ok (.lshl, 1) := by decide +kernel
theorem dL_law_568 : decode cL_law 568 = .ok (.aload_n 0, 1) := by decide +kernel
theorem dL_law_569 : decode cL_law 569 = .ok (.iload_n 3, 1) := by decide +kernel
theorem dL_law_570 : decode cL_law 570 = .ok (.iconst 3, 1) := by decide +kernel
theorem dL_law_571 : decode cL_law 571 = .ok (.iadd, 1) := by decide +kernel
theorem dL_law_572 : decode cL_law 572 = .ok (.iaload, 1) := by decide +kernel
theorem dL_law_573 : decode cL_law 573 = .ok (.i2l, 1) := by decide +kernel
theorem dL_law_574 : decode cL_law 574 = .ok (.ldc2_w 81, 3) := by decide +kernel
theorem dL_law_577 : decode cL_law 577 = .ok (.land, 1) := by decide +kernel
theorem dL_law_578 : decode cL_law 578 = .ok (.lor, 1) := by decide +kernel
theorem dL_law_579 : decode cL_law 579 = .ok (.invokevirtual 87, 3) := by decide +kernel
theorem dL_law_582 : decode cL_law 582 = .ok (.if_icmp .eq 391, 3) := by decide +kernel
theorem dL_law_585 : decode cL_law 585 = .ok (.iconst 0, 1) := by decide +kernel
theorem dL_law_586 : decode cL_law 586 = .ok (.ireturn, 1) := by decide +kernel
theorem dL_law_587 : decode cL_law 587 = .ok (.aload_n 1, 1) := by decide +kernel
theorem dL_law_588 : decode cL_law 588 = .ok (.aload_n 0, 1) := by decide +kernel
theorem dL_law_589 : decode cL_law 589 = .ok (.iload_n 3, 1) := by decide +kernel
theorem dL_law_590 : decode cL_law 590 = .ok (.iconst 1, 1) := by decide +kernel
theorem dL_law_591 : decode cL_law 591 = .ok (.iadd, 1) := by decide +kernel
theorem dL_law_592 : decode cL_law 592 = .ok (.iaload, 1) := by decide +kernel
theorem dL_law_593 : decode cL_law 593 = .ok (.aload_n 0, 1) := by decide +kernel
theorem dL_law_594 : decode cL_law 594 = .ok (.iload_n 3, 1) := by decide +kernel
theorem dL_law_595 : decode cL_law 595 = .ok (.iconst 2, 1) := by decide +kernel
theorem dL_law_596 : decode cL_law 596 = .ok (.iadd, 1) := by decide +kernel
theorem dL_law_597 : decode cL_law 597 = .ok (.iaload, 1) := by decide +kernel
theorem dL_law_598 : decode cL_law 598 = .ok (.invokevirtual 88, 3) := by decide +kernel
theorem dL_law_601 : decode cL_law 601 = .ok (.aload_n 2, 1) := by decide +kernel
theorem dL_law_602 : decode cL_law 602 = .ok (.aload_n 0, 1) := by decide +kernel
theorem dL_law_603 : decode cL_law 603 = .ok (.iload_n 3, 1) := by decide +kernel
theorem dL_law_604 : decode cL_law 604 = .ok (.iconst 1, 1) := by decide +kernel
theorem dL_law_605 : decode cL_law 605 = .ok (.iadd, 1) := by decide +kernel
theorem dL_law_606 : decode cL_law 606 = .ok (.iaload, 1) := by decide +kernel
theorem dL_law_607 : decode cL_law 607 = .ok (.aload_n 0, 1) := by decide +kernel
theorem dL_law_608 : decode cL_law 608 = .ok (.iload_n 3, 1) := by decide +kernel
theorem dL_law_609 : decode cL_law 609 = .ok (.iconst 2, 1) := by decide +kernel
theorem dL_law_610 : decode cL_law 610 = .ok (.iadd, 1) := by decide +kernel
theorem dL_law_611 : decode cL_law 611 = .ok (.iaload, 1) := by decide +kernel
theorem dL_law_612 : decode cL_law 612 = .ok (.invokevirtual 91, 3) := by decide +kernel
theorem dL_law_615 : decode cL_law 615 = .ok (.if_icmp .eq 358, 3) := by decide +kernel
theorem dL_law_618 : decode cL_law 618 = .ok (.iconst 0, 1) := by decide +kernel
theorem dL_law_619 : decode cL_law 619 = .ok (.ireturn, 1) := by decide +kernel
theorem dL_law_620 : decode cL_law 620 = .ok (.aload_n 1, 1) := by decide +kernel
theorem dL_law_621 : decode cL_law 621 = .ok (.invokevirtual 92, 3) := by decide +kernel
theorem dL_law_624 : decode cL_law 624 = .ok (.aload_n 2, 1) := by decide +kernel
theorem dL_law_625 : decode cL_law 625 = .ok (.invokevirtual 95, 3) := by decide +kernel
theorem dL_law_628 : decode cL_law 628 = .ok (.if_icmp .eq 345, 3) := by decide +kernel
theorem dL_law_631 : decode cL_law 631 = .ok (.iconst 0, 1) := by decide +kernel
theorem dL_law_632 : decode cL_law 632 = .ok (.ireturn, 1) := by decide +kernel
theorem dL_law_633 : decode cL_law 633 = .ok (.aload_n 1, 1) := by decide +kernel
theorem dL_law_634 : decode cL_law 634 = .ok (.aload_n 0, 1) := by decide +kernel
theorem dL_law_635 : decode cL_law 635 = .ok (.iload_n 3, 1) := by decide +kernel
theorem dL_law_636 : decode cL_law 636 = .ok (.iconst 1, 1) := by decide +kernel
theorem dL_law_637 : decode cL_law 637 = .ok (.iadd, 1) := by decide +kernel
theorem dL_law_638 : decode cL_law 638 = .ok (.iaload, 1) := by decide +kernel
theorem dL_law_639 : decode cL_law 639 = .ok (.invokevirtual 96, 3) := by decide +kernel
theorem dL_law_642 : decode cL_law 642 = .ok (.aload_n 2, 1) := by decide +kernel
theorem dL_law_643 : decode cL_law 643 = .ok (.aload_n 0, 1) := by decide +kernel
theorem dL_law_644 : decode cL_law 644 = .ok (.iload_n 3, 1) := by decide +kernel
theorem dL_law_645 : decode cL_law 645 = .ok (.iconst 1, 1) := by decide +kernel
theorem dL_law_646 : decode cL_law 646 = .ok (.iadd, 1) := by decide +kernel
theorem dL_law_647 : decode cL_law 647 = .ok (.iaload, 1) := by decide +kernel
theorem dL_law_648 : decode cL_law 648 = .ok (.invokevirtual 99, 3) := by decide +kernel
theorem dL_law_651 : decode cL_law 651 = .ok (.if_icmp .eq 322, 3) := by decide +kernel
theorem dL_law_654 : decode cL_law 654 = .ok (.iconst 0, 1) := by decide +kernel
theorem dL_law_655 : decode cL_law 655 = .ok (.ireturn, 1) := by decide +kernel
theorem dL_law_656 : decode cL_law 656 = .ok (.aload_n 1, 1) := by decide +kernel
theorem dL_law_657 : decode cL_law 657 = .ok (.aload_n 0, 1) := by decide +kernel
theorem dL_law_658 : decode cL_law 658 = .ok (.iload_n 3, 1) := by decide +kernel
theorem dL_law_659 : decode cL_law 659 = .ok (.iconst 1, 1) := by decide +kernel
theorem dL_law_660 : decode cL_law 660 = .ok (.iadd, 1) := by decide +kernel
theorem dL_law_661 : decode cL_law 661 = .ok (.iaload, 1) := by decide +kernel
theorem dL_law_662 : decode cL_law 662 = .ok (.aload_n 0, 1) := by decide +kernel
theorem dL_law_663 : decode cL_law 663 = .ok (.iload_n 3, 1) := by decide +kernel
theorem dL_law_664 : decode cL_law 664 = .ok (.iconst 2, 1) := by decide +kernel
theorem dL_law_665 : decode cL_law 665 = .ok (.iadd, 1) := by decide +kernel
theorem dL_law_666 : decode cL_law 666 = .ok (.iaload, 1) := by decide +kernel
theorem dL_law_667 : decode cL_law 667 = .ok (.ifCond .eq 7, 3) := by decide +kernel
theorem dL_law_670 : decode cL_law 670 = .ok (.iconst 1, 1) := by decide +kernel
theorem dL_law_671 : decode cL_law 671 = .ok (.goto 4, 3) := by decide +kernel
theorem dL_law_674 : decode cL_law 674 = .ok (.iconst 0, 1) := by decide +kernel
theorem dL_law_675 : decode cL_law 675 = .ok (.invokevirtual 100, 3) := by decide +kernel
theorem dL_law_678 : decode cL_law 678 = .ok (.aload_n 2, 1) := by decide +kernel
theorem dL_law_679 : decode cL_law 679 = .ok (.aload_n 0, 1) := by decide +kernel
theorem dL_law_680 : decode cL_law 680 = .ok (.iload_n 3, 1) := by decide +kernel
theorem dL_law_681 : decode cL_law 681 = .ok (.iconst 1, 1) := by decide +kernel
theorem dL_law_682 : decode cL_law 682 = .ok (.iadd, 1) := by decide +kernel
theorem dL_law_683 : decode cL_law 683 = .ok (.iaload, 1) := by decide +kernel
theorem dL_law_684 : decode cL_law 684 = .ok (.aload_n 0, 1) := by decide +kernel
theorem dL_law_685 : decode cL_law 685 = .ok (.iload_n 3, 1) := by decide +kernel
theorem dL_law_686 : decode cL_law 686 = .ok (.iconst 2, 1) := by decide +kernel
theorem dL_law_687 : decode cL_law 687 = .ok (.iadd, 1) := by decide +kernel
theorem dL_law_688 : decode cL_law 688 = .ok (.iaload, 1) := by decide +kernel
theorem dL_law_689 : decode cL_law 689 = .ok (.ifCond .eq 7, 3) := by decide +kernel
theorem dL_law_692 : decode cL_law 692 = .ok (.iconst 1, 1) := by decide +kernel
theorem dL_law_693 : decode cL_law 693 = .ok (.goto 4, 3) := by decide +kernel
theorem dL_law_696 : decode cL_law 696 = .ok (.iconst 0, 1) := by decide +kernel
theorem dL_law_697 : decode cL_law 697 = .ok (.invokevirtual 103, 3) := by decide +kernel
theorem dL_law_700 : decode cL_law 700 = .ok (.if_icmp .eq 273, 3) := by decide +kernel
theorem dL_law_703 : decode cL_law 703 = .ok (.iconst 0, 1) := by decide +kernel
theorem dL_law_704 : decode cL_law 704 = .ok (.ireturn, 1) := by decide +kernel
theorem dL_law_705 : decode cL_law 705 = .ok (.aload_n 1, 1) := by decide +kernel
theorem dL_law_706 : decode cL_law 706 = .ok (.aload_n 0, 1) := by decide +kernel
theorem dL_law_707 : decode cL_law 707 = .ok (.iload_n 3, 1) := by decide +kernel
theorem dL_law_708 : decode cL_law 708 = .ok (.iconst 1, 1) := by decide +kernel
theorem dL_law_709 : decode cL_law 709 = .ok (.iadd, 1) := by decide +kernel
theorem dL_law_710 : decode cL_law 710 = .ok (.iaload, 1) := by decide +kernel
theorem dL_law_711 : decode cL_law 711 = .ok (.aload_n 0, 1) := by decide +kernel
theorem dL_law_712 : decode cL_law 712 = .ok (.iload_n 3, 1) := by decide +kernel
theorem dL_law_713 : decode cL_law 713 = .ok (.iconst 2, 1) := by decide +kernel
theorem dL_law_714 : decode cL_law 714 = .ok (.iadd, 1) := by decide +kernel
theorem dL_law_715 : decode cL_law 715 = .ok (.iaload, 1) := by decide +kernel
theorem dL_law_716 : decode cL_law 716 = .ok (.aload_n 0, 1) := by decide +kernel
theorem dL_law_717 : decode cL_law 717 = .ok (.iload_n 3, 1) := by decide +kernel
theorem dL_law_718 : decode cL_law 718 = .ok (.iconst 3, 1) := by decide +kernel
theorem dL_law_719 : decode cL_law 719 = .ok (.iadd, 1) := by decide +kernel
theorem dL_law_720 : decode cL_law 720 = .ok (.iaload, 1) := by decide +kernel
theorem dL_law_721 : decode cL_law 721 = .ok (.invokevirtual 104, 3) := by decide +kernel
theorem dL_law_724 : decode cL_law 724 = .ok (.aload_n 2, 1) := by decide +kernel
theorem dL_law_725 : decode cL_law 725 = .ok (.aload_n 0, 1) := by decide +kernel
theorem dL_law_726 : decode cL_law 726 = .ok (.iload_n 3, 1) := by decide +kernel
theorem dL_law_727 : decode cL_law 727 = .ok (.iconst 1, 1) := by decide +kernel
theorem dL_law_728 : decode cL_law 728 = .ok (.iadd, 1) := by decide +kernel
theorem dL_law_729 : decode cL_law 729 = .ok (.iaload, 1) := by decide +kernel
theorem dL_law_730 : decode cL_law 730 = .ok (.aload_n 0, 1) := by decide +kernel
theorem dL_law_731 : decode cL_law 731 = .ok (.iload_n 3, 1) := by decide +kernel
theorem dL_law_732 : decode cL_law 732 = .ok (.iconst 2, 1) := by decide +kernel
theorem dL_law_733 : decode cL_law 733 = .ok (.iadd, 1) := by decide +kernel
theorem dL_law_734 : decode cL_law 734 = .ok (.iaload, 1) := by decide +kernel
theorem dL_law_735 : decode cL_law 735 = .ok (.aload_n 0, 1) := by decide +kernel
theorem dL_law_736 : decode cL_law 736 = .ok (.iload_n 3, 1) := by decide +kernel
theorem dL_law_737 : decode cL_law 737 = .ok (.iconst 3, 1) := by decide +kernel
theorem dL_law_738 : decode cL_law 738 = .ok (.iadd, 1) := by decide +kernel
theorem dL_law_739 : decode cL_law 739 = .ok (.iaload, 1) := by decide +kernel
theorem dL_law_740 : decode cL_law 740 = .ok (.invokevirtual 108, 3) := by decide +kernel
theorem dL_law_743 : decode cL_law 743 = .ok (.if_icmp .eq 230, 3) := by decide +kernel
theorem dL_law_746 : decode cL_law 746 = .ok (.iconst 0, 1) := by decide +kernel
theorem dL_law_747 : decode cL_law 747 = .ok (.ireturn, 1) := by decide +kernel
theorem dL_law_748 : decode cL_law 748 = .ok (.aload_n 1, 1) := by decide +kernel
theorem dL_law_749 : decode cL_law 749 = .ok (.aload_n 0, 1) := by decide +kernel
theorem dL_law_750 : decode cL_law 750 = .ok (.iload_n 3, 1) := by decide +kernel
theorem dL_law_751 : decode cL_law 751 = .ok (.iconst 1, 1) := by decide +kernel
theorem dL_law_752 : decode cL_law 752 = .ok (.iadd, 1) := by decide +kernel
theorem dL_law_753 : decode cL_law 753 = .ok (.iaload, 1) := by decide +kernel
theorem dL_law_754 : decode cL_law 754 = .ok (.aload_n 0, 1) := by decide +kernel
theorem dL_law_755 : decode cL_law 755 = .ok (.iload_n 3, 1) := by decide +kernel
theorem dL_law_756 : decode cL_law 756 = .ok (.iconst 2, 1) := by decide +kernel
theorem dL_law_757 : decode cL_law 757 = .ok (.iadd, 1) := by decide +kernel
theorem dL_law_758 : decode cL_law 758 = .ok (.iaload, 1) := by decide +kernel
theorem dL_law_759 : decode cL_law 759 = .ok (.aload_n 0, 1) := by decide +kernel
theorem dL_law_760 : decode cL_law 760 = .ok (.iload_n 3, 1) := by decide +kernel
theorem dL_law_761 : decode cL_law 761 = .ok (.iconst 3, 1) := by decide +kernel
theorem dL_law_762 : decode cL_law 762 = .ok (.iadd, 1) := by decide +kernel
theorem dL_law_763 : decode cL_law 763 = .ok (.iaload, 1) := by decide +kernel
theorem dL_law_764 : decode cL_law 764 = .ok (.aload_n 0, 1) := by decide +kernel
theorem dL_law_765 : decode cL_law 765 = .ok (.iload_n 3, 1) := by decide +kernel
theorem dL_law_766 : decode cL_law 766 = .ok (.iconst 4, 1) := by decide +kernel
theorem dL_law_767 : decode cL_law 767 = .ok (.iadd, 1) := by decide +kernel
theorem dL_law_768 : decode cL_law 768 = .ok (.iaload, 1) := by decide +kernel
theorem dL_law_769 : decode cL_law 769 = .ok (.aload_n 0, 1) := by decide +kernel
theorem dL_law_770 : decode cL_law 770 = .ok (.iload_n 3, 1) := by decide +kernel
theorem dL_law_771 : decode cL_law 771 = .ok (.iconst 5, 1) := by decide +kernel
theorem dL_law_772 : decode cL_law 772 = .ok (.iadd, 1) := by decide +kernel
theorem dL_law_773 : decode cL_law 773 = .ok (.iaload, 1) := by decide +kernel
theorem dL_law_774 : decode cL_law 774 = .ok (.ifCond .eq 7, 3) := by decide +kernel
theorem dL_law_777 : decode cL_law 777 = .ok (.iconst 1, 1) := by decide +kernel
theorem dL_law_778 : decode cL_law 778 = .ok (.goto 4, 3) := by decide +kernel
theorem dL_law_781 : decode cL_law 781 = .ok (.iconst 0, 1) := by decide +kernel
theorem dL_law_782 : decode cL_law 782 = .ok (.invokevirtual 109, 3) := by decide +kernel
theorem dL_law_785 : decode cL_law 785 = .ok (.aload_n 2, 1) := by decide +kernel
theorem dL_law_786 : decode cL_law 786 = .ok (.aload_n 0, 1) := by decide +kernel
theorem dL_law_787 : decode cL_law 787 = .ok (.iload_n 3, 1) := by decide +kernel
theorem dL_law_788 : decode cL_law 788 = .ok (.iconst 1, 1) := by decide +kernel
theorem dL_law_789 : decode cL_law 789 = .ok (.iadd, 1) := by decide +kernel
theorem dL_law_790 : decode cL_law 790 = .ok (.iaload, 1) := by decide +kernel
theorem dL_law_791 : decode cL_law 791 = .ok (.aload_n 0, 1) := by decide +kernel
theorem dL_law_792 : decode cL_law 792 = .ok (.iload_n 3, 1) := by decide +kernel
theorem dL_law_793 : decode cL_law 793 = .ok (.iconst 2, 1) := by decide +kernel
theorem dL_law_794 : decode cL_law 794 = .ok (.iadd, 1) := by decide +kernel
theorem dL_law_795 : decode cL_law 795 = .ok (.iaload, 1) := by decide +kernel
theorem dL_law_796 : decode cL_law 796 = .ok (.aload_n 0, 1) := by decide +kernel
theorem dL_law_797 : decode cL_law 797 = .ok (.iload_n 3, 1) := by decide +kernel
theorem dL_law_798 : decode cL_law 798 = .ok (.iconst 3, 1) := by decide +kernel
theorem dL_law_799 : decode cL_law 799 = .ok (.iadd, 1) := by decide +kernel
theorem dL_law_800 : decode cL_law 800 = .ok (.iaload, 1) := by decide +kernel
theorem dL_law_801 : decode cL_law 801 = .ok (.aload_n 0, 1) := by decide +kernel
theorem dL_law_802 : decode cL_law 802 = .ok (.iload_n 3, 1) := by decide +kernel
theorem dL_law_803 : decode cL_law 803 = .ok (.iconst 4, 1) := by decide +kernel
theorem dL_law_804 : decode cL_law 804 = .ok (.iadd, 1) := by decide +kernel
theorem dL_law_805 : decode cL_law 805 = .ok (.iaload, 1) := by decide +kernel
theorem dL_law_806 : decode cL_law 806 = .ok (.aload_n 0, 1) := by decide +kernel
theorem dL_law_807 : decode cL_law 807 = .ok (.iload_n 3, 1) := by decide +kernel
theorem dL_law_808 : decode cL_law 808 = .ok (.iconst 5, 1) := by decide +kernel
theorem dL_law_809 : decode cL_law 809 = .ok (.iadd, 1) := by decide +kernel
theorem dL_law_810 : decode cL_law 810 = .ok (.iaload, 1) := by decide +kernel
theorem dL_law_811 : decode cL_law 811 = .ok (.ifCond .eq 7, 3) := by decide +kernel
theorem dL_law_814 : decode cL_law 814 = .ok (.iconst 1, 1) := by decide +kernel
theorem dL_law_815 : decode cL_law 815 = .ok (.goto 4, 3) := by decide +kernel
theorem dL_law_818 : decode cL_law 818 = .ok (.iconst 0, 1) := by decide +kernel
theorem dL_law_819 : decode cL_law 819 = .ok (.invokevirtual 113, 3) := by decide +kernel
theorem dL_law_822 : decode cL_law 822 = .ok (.if_icmp .eq 151, 3) := by decide +kernel
theorem dL_law_825 : decode cL_law 825 = .ok (.iconst 0, 1) := by decide +kernel
theorem dL_law_826 : decode cL_law 826 = .ok (.ireturn, 1) := by decide +kernel
theorem dL_law_827 : decode cL_law 827 = .ok (.aload_n 1, 1) := by decide +kernel
theorem dL_law_828 : decode cL_law 828 = .ok (.aload_n 0, 1) := by decide +kernel
theorem dL_law_829 : decode cL_law 829 = .ok (.iload_n 3, 1) := by decide +kernel
theorem dL_law_830 : decode cL_law 830 = .ok (.iconst 1, 1) := by decide +kernel
theorem dL_law_831 : decode cL_law 831 = .ok (.iadd, 1) := by decide +kernel
theorem dL_law_832 : decode cL_law 832 = .ok (.iaload, 1) := by decide +kernel
theorem dL_law_833 : decode cL_law 833 = .ok (.i2l, 1) := by decide +kernel
theorem dL_law_834 : decode cL_law 834 = .ok (.bipush 32, 2) := by decide +kernel
theorem dL_law_836 : decode cL_law 836 = .ok (.lshl, 1) := by decide +kernel
theorem dL_law_837 : decode cL_law 837 = .ok (.aload_n 0, 1) := by decide +kernel
theorem dL_law_838 : decode cL_law 838 = .ok (.iload_n 3, 1) := by decide +kernel
theorem dL_law_839 : decode cL_law 839 = .ok (.iconst 2, 1) := by decide +kernel
theorem dL_law_840 : decode cL_law 840 = .ok (.iadd, 1) := by decide +kernel
theorem dL_law_841 : decode cL_law 841 = .ok (.iaload, 1) := by decide +kernel
theorem dL_law_842 : decode cL_law 842 = .ok (.i2l, 1) := by decide +kernel
theorem dL_law_843 : decode cL_law 843 = .ok (.ldc2_w 81, 3) := by decide +kernel
theorem dL_law_846 : decode cL_law 846 = .ok (.land, 1) := by decide +kernel
theorem dL_law_847 : decode cL_law 847 = .ok (.lor, 1) := by decide +kernel
theorem dL_law_848 : decode cL_law 848 = .ok (.invokevirtual 114, 3) := by decide +kernel
theorem dL_law_851 : decode cL_law 851 = .ok (.aload_n 2, 1) := by decide +kernel
theorem dL_law_852 : decode cL_law 852 = .ok (.aload_n 0, 1) := by decide +kernel
theorem dL_law_853 : decode cL_law 853 = .ok (.iload_n 3, 1) := by decide +kernel
theorem dL_law_854 : decode cL_law 854 = .ok (.iconst 1, 1) := by decide +kernel
theorem dL_law_855 : decode cL_law 855 = .ok (.iadd, 1) := by decide +kernel
theorem dL_law_856 : decode cL_law 856 = .ok (.iaload, 1) := by decide +kernel
theorem dL_law_857 : decode cL_law 857 = .ok (.i2l, 1) := by decide +kernel
theorem dL_law_858 : decode cL_law 858 = .ok (.bipush 32, 2) := by decide +kernel
theorem dL_law_860 : decode cL_law 860 = .ok (.lshl, 1) := by decide +kernel
theorem dL_law_861 : decode cL_law 861 = .ok (.aload_n 0, 1) := by decide +kernel
theorem dL_law_862 : decode cL_law 862 = .ok (.iload_n 3, 1) := by decide +kernel
theorem dL_law_863 : decode cL_law 863 = .ok (.iconst 2, 1) := by decide +kernel
theorem dL_law_864 : decode cL_law 864 = .ok (.iadd, 1) := by decide +kernel
theorem dL_law_865 : decode cL_law 865 = .ok (.iaload, 1) := by decide +kernel
theorem dL_law_866 : decode cL_law 866 = .ok (.i2l, 1) := by decide +kernel
theorem dL_law_867 : decode cL_law 867 = .ok (.ldc2_w 81, 3) := by decide +kernel
theorem dL_law_870 : decode cL_law 870 = .ok (.land, 1) := by decide +kernel
theorem dL_law_871 : decode cL_law 871 = .ok (.lor, 1) := by decide +kernel
theorem dL_law_872 : decode cL_law 872 = .ok (.invokevirtual 118, 3) := by decide +kernel
theorem dL_law_875 : decode cL_law 875 = .ok (.lcmp, 1) := by decide +kernel
theorem dL_law_876 : decode cL_law 876 = .ok (.ifCond .eq 97, 3) := by decide +kernel
theorem dL_law_879 : decode cL_law 879 = .ok (.iconst 0, 1) := by decide +kernel
theorem dL_law_880 : decode cL_law 880 = .ok (.ireturn, 1) := by decide +kernel
theorem dL_law_881 : decode cL_law 881 = .ok (.aload_n 1, 1) := by decide +kernel
theorem dL_law_882 : decode cL_law 882 = .ok (.aload_n 0, 1) := by decide +kernel
theorem dL_law_883 : decode cL_law 883 = .ok (.iload_n 3, 1) := by decide +kernel
theorem dL_law_884 : decode cL_law 884 = .ok (.iconst 1, 1) := by decide +kernel
theorem dL_law_885 : decode cL_law 885 = .ok (.iadd, 1) := by decide +kernel
theorem dL_law_886 : decode cL_law 886 = .ok (.iaload, 1) := by decide +kernel
theorem dL_law_887 : decode cL_law 887 = .ok (.invokevirtual 119, 3) := by decide +kernel
theorem dL_law_890 : decode cL_law 890 = .ok (.aload_n 2, 1) := by decide +kernel
theorem dL_law_891 : decode cL_law 891 = .ok (.aload_n 0, 1) := by decide +kernel
theorem dL_law_892 : decode cL_law 892 = .ok (.iload_n 3, 1) := by decide +kernel
theorem dL_law_893 : decode cL_law 893 = .ok (.iconst 1, 1) := by decide +kernel
theorem dL_law_894 : decode cL_law 894 = .ok (.iadd, 1) := by decide +kernel
theorem dL_law_895 : decode cL_law 895 = .ok (.iaload, 1) := by decide +kernel
theorem dL_law_896 : decode cL_law 896 = .ok (.invokevirtual 122, 3) := by decide +kernel
theorem dL_law_899 : decode cL_law 899 = .ok (.if_icmp .eq 74, 3) := by decide +kernel
theorem dL_law_902 : decode cL_law 902 = .ok (.iconst 0, 1) := by decide +kernel
theorem dL_law_903 : decode cL_law 903 = .ok (.ireturn, 1) := by decide +kernel
theorem dL_law_904 : decode cL_law 904 = .ok (.aload_n 1, 1) := by decide +kernel
theorem dL_law_905 : decode cL_law 905 = .ok (.aload_n 0, 1) := by decide +kernel
theorem dL_law_906 : decode cL_law 906 = .ok (.iload_n 3, 1) := by decide +kernel
theorem dL_law_907 : decode cL_law 907 = .ok (.iconst 1, 1) := by decide +kernel
theorem dL_law_908 : decode cL_law 908 = .ok (.iadd, 1) := by decide +kernel
theorem dL_law_909 : decode cL_law 909 = .ok (.iaload, 1) := by decide +kernel
theorem dL_law_910 : decode cL_law 910 = .ok (.invokevirtual 123, 3) := by decide +kernel
theorem dL_law_913 : decode cL_law 913 = .ok (.aload_n 2, 1) := by decide +kernel
theorem dL_law_914 : decode cL_law 914 = .ok (.aload_n 0, 1) := by decide +kernel
theorem dL_law_915 : decode cL_law 915 = .ok (.iload_n 3, 1) := by decide +kernel
theorem dL_law_916 : decode cL_law 916 = .ok (.iconst 1, 1) := by decide +kernel
theorem dL_law_917 : decode cL_law 917 = .ok (.iadd, 1) := by decide +kernel
theorem dL_law_918 : decode cL_law 918 = .ok (.iaload, 1) := by decide +kernel
theorem dL_law_919 : decode cL_law 919 = .ok (.invokevirtual 126, 3) := by decide +kernel
theorem dL_law_922 : decode cL_law 922 = .ok (.if_icmp .eq 51, 3) := by decide +kernel
theorem dL_law_925 : decode cL_law 925 = .ok (.iconst 0, 1) := by decide +kernel
theorem dL_law_926 : decode cL_law 926 = .ok (.ireturn, 1) := by decide +kernel
theorem dL_law_927 : decode cL_law 927 = .ok (.aload_n 1, 1) := by decide +kernel
theorem dL_law_928 : decode cL_law 928 = .ok (.aload_n 0, 1) := by decide +kernel
theorem dL_law_929 : decode cL_law 929 = .ok (.iload_n 3, 1) := by decide +kernel
theorem dL_law_930 : decode cL_law 930 = .ok (.iconst 1, 1) := by decide +kernel
theorem dL_law_931 : decode cL_law 931 = .ok (.iadd, 1) := by decide +kernel
theorem dL_law_932 : decode cL_law 932 = .ok (.iaload, 1) := by decide +kernel
theorem dL_law_933 : decode cL_law 933 = .ok (.invokevirtual 127, 3) := by decide +kernel
theorem dL_law_936 : decode cL_law 936 = .ok (.aload_n 2, 1) := by decide +kernel
theorem dL_law_937 : decode cL_law 937 = .ok (.aload_n 0, 1) := by decide +kernel
theorem dL_law_938 : decode cL_law 938 = .ok (.iload_n 3, 1) := by decide +kernel
theorem dL_law_939 : decode cL_law 939 = .ok (.iconst 1, 1) := by decide +kernel
theorem dL_law_940 : decode cL_law 940 = .ok (.iadd, 1) := by decide +kernel
theorem dL_law_941 : decode cL_law 941 = .ok (.iaload, 1) := by decide +kernel
theorem dL_law_942 : decode cL_law 942 = .ok (.invokevirtual 130, 3) := by decide +kernel
theorem dL_law_945 : decode cL_law 945 = .ok (.if_icmp .eq 28, 3) := by decide +kernel
theorem dL_law_948 : decode cL_law 948 = .ok (.iconst 0, 1) := by decide +kernel
theorem dL_law_949 : decode cL_law 949 = .ok (.ireturn, 1) := by decide +kernel
theorem dL_law_950 : decode cL_law 950 = .ok (.aload_n 1, 1) := by decide +kernel
theorem dL_law_951 : decode cL_law 951 = .ok (.aload_n 0, 1) := by decide +kernel
theorem dL_law_952 : decode cL_law 952 = .ok (.iload_n 3, 1) := by decide +kernel
theorem dL_law_953 : decode cL_law 953 = .ok (.iconst 1, 1) := by decide +kernel
theorem dL_law_954 : decode cL_law 954 = .ok (.iadd, 1) := by decide +kernel
theorem dL_law_955 : decode cL_law 955 = .ok (.iaload, 1) := by decide +kernel
theorem dL_law_956 : decode cL_law 956 = .ok (.invokevirtual 131, 3) := by decide +kernel
theorem dL_law_959 : decode cL_law 959 = .ok (.aload_n 2, 1) := by decide +kernel
theorem dL_law_960 : decode cL_law 960 = .ok (.aload_n 0, 1) := by decide +kernel
theorem dL_law_961 : decode cL_law 961 = .ok (.iload_n 3, 1) := by decide +kernel
theorem dL_law_962 : decode cL_law 962 = .ok (.iconst 1, 1) := by decide +kernel
theorem dL_law_963 : decode cL_law 963 = .ok (.iadd, 1) := by decide +kernel
theorem dL_law_964 : decode cL_law 964 = .ok (.iaload, 1) := by decide +kernel
theorem dL_law_965 : decode cL_law 965 = .ok (.invokevirtual 134, 3) := by decide +kernel
theorem dL_law_968 : decode cL_law 968 = .ok (.if_icmp .eq 5, 3) := by decide +kernel
theorem dL_law_971 : decode cL_law 971 = .ok (.iconst 0, 1) := by decide +kernel
theorem dL_law_972 : decode cL_law 972 = .ok (.ireturn, 1) := by decide +kernel
theorem dL_law_973 : decode cL_law 973 = .ok (.iinc 3 6, 3) := by decide +kernel
theorem dL_law_976 : decode cL_law 976 = .ok (.goto (-958), 3) := by decide +kernel
theorem dL_law_979 : decode cL_law 979 = .ok (.iconst 1, 1) := by decide +kernel
theorem dL_law_980 : decode cL_law 980 = .ok (.ireturn, 1) := by decide +kernel
end
section
/-! THE ABSTRACT LAYER. One world of fixed shape for class and reference: cell k stands at G.1 k; what it holds is read off Z (ints, by cell and place) and Y (the one long of a cell). -/
abbrev aG : Type := (Nat → Nat) × (Nat → ClassId) × va_G × (Nat → Nat) × (Nat → Nat)
abbrev aZ : Type := Nat → Int → Int
abbrev aY : Type := Nat → Int64
def aI (z : Int) : Int32 := Int32.ofInt z
def aJ (z : Int) : Int64 := Int64.ofInt z
/-- the shape of a cell: (0, class, fields: 0 int, 1 long, k+2 the cell k), (1, t, [length]) an array (t: 0 int, 1 boolean), (2, b, [length]) an array of the arrays b, b+1 .. -/
abbrev aSt : Type := Nat × Nat × List Nat

def aShL : List aSt := [(0, 8, [3, 5, 14, 18, 22, 38, 41, 50, 53, 58, 61, 62, 63, 1]), (0, 4, [4, 0]), (1, 0, [52]), (0, 2, [6, 7, 8, 9, 10, 11, 12, 13, 0, 0, 0]), (1, 0, [4]), (1, 0, [4]), (1, 0, [4]), (1, 0, [4]), (1, 0, [5]), (1, 0, [5]), (1, 0, [5]), (1, 0, [5]), (0, 7, [5, 15, 16, 17, 0, 0, 0]), (1, 0, [4]), (1, 0, [4]), (1, 0, [5]), (0, 7, [5, 19, 20, 21, 0, 0, 0]), (1, 0, [4]), (1, 0, [4]), (1, 0, [5]), (0, 0, [23, 0, 0]), (2, 22, [14]), (1, 0, [16]), (1, 0, [16]), (1, 0, [16]), (1, 0, [16]), (1, 0, [16]), (1, 0, [16]), (1, 0, [16]), (1, 0, [16]), (1, 0, [16]), (1, 0, [16]), (1, 0, [16]), (1, 0, [16]), (1, 0, [16]), (1, 0, [16]), (0, 6, [39, 40, 0]), (1, 0, [6]), (1, 0, [6]), (0, 5, [42, 43, 44, 45, 0, 0]), (1, 0, [4]), (1, 0, [4]), (1, 0, [5]), (2, 44, [4]), (1, 0, [6]), (1, 0, [6]), (1, 0, [6]), (1, 0, [6]), (0, 1, [51, 52, 0]), (1, 0, [6]), (1, 0, [6]), (0, 3, [54, 55, 56, 57]), (1, 0, [3]), (1, 0, [3]), (1, 0, [3]), (1, 0, [3]), (2, 57, [2]), (1, 0, [16]), (1, 0, [16]), (1, 1, [2]), (1, 0, [16]), (1, 0, [4]), (0, 9, [0, 0, 0, 65, 66, 67, 68, 69, 70, 71, 72, 73, 74, 0, 0, 0, 75, 0, 0, 0, 0, 76, 0, 0, 77, 0, 78, 79, 1, 80, 81]), (1, 0, [4]), (1, 0, [4]), (1, 0, [5]), (1, 0, [5]), (1, 0, [5]), (1, 0, [5]), (1, 0, [32]), (1, 0, [4]), (1, 0, [12]), (1, 0, [20]), (1, 0, [52]), (1, 0, [4]), (1, 0, [224]), (1, 0, [6]), (1, 0, [6]), (1, 1, [2]), (1, 0, [32])]
def aSh (k : Nat) : aSt := aShL.getD k (9, 0, [])
def aFv (G : aG) (f : Int → Int) (x : Int64) (j : Nat) : Nat → Value
  | 0 => .int (aI (f j))
  | 1 => .long x
  | k + 2 => .ref (G.1 k)
def aFs (G : aG) (f : Int → Int) (x : Int64) : List Nat → Nat → List Value
  | [], _ => []
  | kd :: t, j => aFv G f x j kd :: aFs G f x t (j + 1)
def aMk (G : aG) (f : Int → Int) (x : Int64) : aSt → va_E
  | (0, ci, ks) => .inr (ci, aFs G f x ks 0)
  | (1, t, ks) => .inl (G.2.1 t, ks.headD 0, .inl (fun j => aI (f (j : Int))))
  | (_, b, ks) => .inl (G.2.1 2, ks.headD 0, .inr (.inr (.inr (.inr (fun j => if j < ks.headD 0 then some (G.1 (b + j)) else none)))))
def aW (G : aG) (Z : aZ) (Y : aY) : va_W := (List.range 80).map (fun k => (G.1 k, aMk G (Z k) (Y k) (aSh k)))
theorem aW_get {G : aG} {Z : aZ} {Y : aY} {k : Nat} (h : k < 80) : (aW G Z Y)[k]? = some (G.1 k, aMk G (Z k) (Y k) (aSh k)) := by
  unfold aW
  rw [List.getElem?_map, List.getElem?_range h]
  rfl
def aUp (Z : aZ) (k : Nat) (g : Int → Int) : aZ := fun a => if a = k then g else Z a
def aUy (Y : aY) (k : Nat) (x : Int64) : aY := fun a => if a = k then x else Y a
theorem aW_set {G : aG} {Z : aZ} {Y : aY} {k : Nat} {g : Int → Int} {x : Int64} (_h : k < 80) : (aW G Z Y).set k (G.1 k, aMk G g x (aSh k)) = aW G (aUp Z k g) (aUy Y k x) := by
  apply List.ext_getElem?
  intro i
  by_cases hi : i < 80
  · rw [aW_get hi]
    by_cases hk : i = k
    · subst hk
      rw [List.getElem?_set_self (by simp [aW]; omega)]
      simp [aUp, aUy]
    · rw [List.getElem?_set_ne (Ne.symm hk), aW_get hi]
      simp [aUp, aUy, hk]
  · rw [List.getElem?_eq_none (by simp [aW]; omega), List.getElem?_eq_none (by simp [aW]; omega)]
theorem aUy_self {Y : aY} {k : Nat} : aUy Y k (Y k) = Y := by
  funext a
  unfold aUy
  split
  · rename_i h; rw [h]
  · rfl
theorem aW_setZ {G : aG} {Z : aZ} {Y : aY} {k : Nat} {g : Int → Int} (h : k < 80) : (aW G Z Y).set k (G.1 k, aMk G g (Y k) (aSh k)) = aW G (aUp Z k g) Y := by
  rw [aW_set h, aUy_self]
theorem aUp_self {Z : aZ} {k : Nat} : aUp Z k (Z k) = Z := by
  funext a
  unfold aUp
  split
  · rename_i h; rw [h]
  · rfl
theorem aW_setY {G : aG} {Z : aZ} {Y : aY} {k : Nat} {x : Int64} (h : k < 80) : (aW G Z Y).set k (G.1 k, aMk G (Z k) x (aSh k)) = aW G Z (aUy Y k x) := by
  rw [aW_set h, aUp_self]
/-- one place of one cell -/
def aU (Z : aZ) (k : Nat) (j : Int) (v : Int) : aZ := fun a b => if a = k then (if b = j then v else Z a b) else Z a b
theorem aU_up {Z : aZ} {k : Nat} {j v : Int} : aUp Z k (fun b => if b = j then v else Z k b) = aU Z k j v := by
  funext a b
  unfold aUp aU
  by_cases h : a = k
  · subst h; simp
  · simp [h]
theorem aU_eq {Z : aZ} {k : Nat} {j v : Int} : aU Z k j v k j = v := by simp [aU]
theorem aU_ne {Z : aZ} {k a : Nat} {j v b : Int} (h : a ≠ k) : aU Z k j v a b = Z a b := by simp [aU, h]
theorem aU_nj {Z : aZ} {k a : Nat} {j v b : Int} (h : b ≠ j) : aU Z k j v a b = Z a b := by
  unfold aU; split <;> simp [h]
theorem aU_at {Z : aZ} {k : Nat} {j v b : Int} : aU Z k j v k b = if b = j then v else Z k b := by simp [aU]
theorem aU_row {Z : aZ} {k a : Nat} {j v : Int} (h : a ≠ k) : aU Z k j v a = Z a := by funext b; simp [aU, h]
/-- every int of the heap is small -/
def aB (Z : aZ) : Prop := ∀ (k : Nat) (j : Int), -100000000 ≤ Z k j ∧ Z k j ≤ 100000000
theorem aB_u {Z : aZ} {k : Nat} {j v : Int} (h : aB Z) (hv : -100000000 ≤ v ∧ v ≤ 100000000) : aB (aU Z k j v) := by
  intro a b
  unfold aU
  split
  · split
    · exact hv
    · exact h a b
  · exact h a b
/-! numbers -/
theorem aI_toInt {z : Int} (h : -2147483648 ≤ z ∧ z < 2147483648) : (aI z).toInt = z := Int32.toInt_ofInt_of_le (by omega) (by omega)
theorem aI_of (x : Int32) : aI x.toInt = x := Int32.ofInt_toInt x
theorem aI_rng (x : Int32) : -2147483648 ≤ x.toInt ∧ x.toInt < 2147483648 := ⟨x.le_toInt, x.toInt_lt⟩
theorem aI_lt {x y : Int} (hx : -2147483648 ≤ x ∧ x < 2147483648) (hy : -2147483648 ≤ y ∧ y < 2147483648) : aI x < aI y ↔ x < y := by
  rw [Int32.lt_iff_toInt_lt, aI_toInt hx, aI_toInt hy]
theorem aI_le {x y : Int} (hx : -2147483648 ≤ x ∧ x < 2147483648) (hy : -2147483648 ≤ y ∧ y < 2147483648) : aI x ≤ aI y ↔ x ≤ y := by
  rw [Int32.le_iff_toInt_le, aI_toInt hx, aI_toInt hy]
theorem aI_inj {x y : Int} (hx : -2147483648 ≤ x ∧ x < 2147483648) (hy : -2147483648 ≤ y ∧ y < 2147483648) : aI x = aI y ↔ x = y := by
  rw [← Int32.toInt_inj, aI_toInt hx, aI_toInt hy]
theorem aI_add {x y : Int} : aI x + aI y = aI (x + y) := (Int32.ofInt_add x y).symm
theorem aI_sub {x y : Int} : aI x - aI y = aI (x - y) := (Int32.ofInt_sub x y).symm
theorem aI_mul {x y : Int} : aI x * aI y = aI (x * y) := (Int32.ofInt_mul x y).symm
theorem aI_neg {x : Int} : -aI x = aI (-x) := (Int32.ofInt_neg x).symm
theorem aI_nat (n : Nat) : aI (n : Int) = nI n := by
  apply Int32.toBitVec_inj.mp
  show BitVec.ofInt 32 (n : Int) = BitVec.ofNat 32 n
  simp
theorem aI_eqN {x : Int} (h : 0 ≤ x) : aI x = nI x.toNat := by rw [← aI_nat, Int.toNat_of_nonneg h]
theorem aI_div {x y : Int} (hx : 0 ≤ x ∧ x < 2147483648) (hy : 0 < y ∧ y < 2147483648) : aI x / aI y = aI (x / y) := by
  obtain ⟨n, rfl⟩ := Int.eq_ofNat_of_zero_le hx.1
  obtain ⟨d, rfl⟩ := Int.eq_ofNat_of_zero_le (Int.le_of_lt hy.1)
  rw [show ((n : Int) / (d : Int)) = ((n / d : Nat) : Int) from (Int.natCast_ediv n d).symm, aI_nat, aI_nat, aI_nat]
  exact pk_div (by omega) (by omega) (by omega)
theorem aI_rem {x y : Int} (hx : 0 ≤ x ∧ x < 2147483648) (hy : 0 < y ∧ y < 2147483648) : aI x - aI x / aI y * aI y = aI (x % y) := by
  rw [aI_div hx hy, aI_mul, aI_sub]
  congr 1
  have := Int.mul_ediv_add_emod x y
  rw [Int.mul_comm] at this
  omega
theorem aI_ne0 {y : Int} (hy : y ≠ 0 ∧ -2147483648 ≤ y ∧ y < 2147483648) : ¬ aI y = 0 := by
  intro h
  have h2 : aI y = aI 0 := h
  rw [aI_inj hy.2 (by omega)] at h2
  exact hy.1 h2
theorem aI_idx {z : Int} {n : Nat} (h : 0 ≤ z ∧ z < (n : Int)) (hn : n < 2147483648) : vp_in (aI z) n := by
  rw [vp_in_iff, aI_toInt (by omega)]
  exact h
theorem aI_clamp {z : Int} (h : 0 ≤ z ∧ z < 2147483648) : (aI z).toNatClampNeg = z.toNat := by
  rw [aI_eqN h.1]
  exact nI_clamp (by omega)
theorem aI_sm {y : Nat} (hy : y < 32) : ((aI (y : Int) &&& 31).toBitVec.smod 32).toNat = y := by
  rw [aI_nat]
  have : ∀ n, n < 32 → ((nI n &&& 31).toBitVec.smod 32).toNat = n := by decide +kernel
  exact this y hy
theorem aI_shl {x : Int} {y : Int} (hx : 0 ≤ x) (hy : 0 ≤ y ∧ y < 31) (h : x * 2 ^ y.toNat < 2147483648) : aI x <<< (aI y &&& 31) = aI (x * 2 ^ y.toNat) := by
  obtain ⟨n, rfl⟩ := Int.eq_ofNat_of_zero_le hx
  obtain ⟨d, rfl⟩ := Int.eq_ofNat_of_zero_le hy.1
  have h2 : n * 2 ^ d < 2 ^ 31 := by
    have : ((n * 2 ^ d : Nat) : Int) < 2147483648 := by simpa using h
    omega
  rw [show ((n : Int) * 2 ^ (d : Int).toNat) = ((n * 2 ^ d : Nat) : Int) by simp, aI_nat, aI_nat (n * 2 ^ d)]
  exact pk_shlN _ d (aI_sm (by omega)) (by omega)
theorem aI_shr {x : Int} {y : Int} (hx : 0 ≤ x ∧ x < 2147483648) (hy : 0 ≤ y ∧ y < 32) : aI x >>> (aI y &&& 31) = aI (x / 2 ^ y.toNat) := by
  obtain ⟨n, rfl⟩ := Int.eq_ofNat_of_zero_le hx.1
  obtain ⟨d, rfl⟩ := Int.eq_ofNat_of_zero_le hy.1
  rw [show ((n : Int) / 2 ^ (d : Int).toNat) = ((n / 2 ^ d : Nat) : Int) by simp, aI_nat, aI_nat (n / 2 ^ d)]
  exact pk_shrN (by omega) _ d (aI_sm (by omega))
theorem nI_andA (a b : Nat) : nI a &&& nI b = nI (a &&& b) := by
  apply Int32.toBitVec_inj.mp
  show BitVec.ofNat 32 a &&& BitVec.ofNat 32 b = BitVec.ofNat 32 (a &&& b)
  apply BitVec.eq_of_toNat_eq
  rw [BitVec.toNat_and]
  simp only [BitVec.toNat_ofNat]
  exact (Nat.and_mod_two_pow (n := 32)).symm
theorem nI_orA (a b : Nat) : nI a ||| nI b = nI (a ||| b) := by
  apply Int32.toBitVec_inj.mp
  show BitVec.ofNat 32 a ||| BitVec.ofNat 32 b = BitVec.ofNat 32 (a ||| b)
  apply BitVec.eq_of_toNat_eq
  rw [BitVec.toNat_or]
  simp only [BitVec.toNat_ofNat]
  exact (Nat.or_mod_two_pow (n := 32)).symm
/-- bitwise and, or of numbers that aren't negative -/
def aAnd (x y : Int) : Int := ((x.toNat &&& y.toNat : Nat) : Int)
def aOr (x y : Int) : Int := ((x.toNat ||| y.toNat : Nat) : Int)
theorem aI_and {x y : Int} (hx : 0 ≤ x) (hy : 0 ≤ y) : aI x &&& aI y = aI (aAnd x y) := by
  rw [aAnd, aI_nat, aI_eqN hx, aI_eqN hy]
  exact nI_andA _ _
theorem aI_or {x y : Int} (hx : 0 ≤ x) (hy : 0 ≤ y) : aI x ||| aI y = aI (aOr x y) := by
  rw [aOr, aI_nat, aI_eqN hx, aI_eqN hy]
  exact nI_orA _ _
theorem aAnd_1 (x : Int) (h : 0 ≤ x) : aAnd x 1 = x % 2 := by
  unfold aAnd
  rw [show (1 : Int).toNat = 1 from rfl, Nat.and_one_is_mod]
  omega

/-! the words that every method may use: those of the tables that keep, whatever the state -/
def aT : List Cond := lw_tbl.filter goodWord
theorem aT_mem {w : Cond} (h : w ∈ lw_tbl) (g : goodWord w = true) : w ∈ aT := List.mem_filter.mpr ⟨h, g⟩
theorem aT_in {w : Cond} (h : w ∈ aT) : w ∈ lw_tbl := (List.mem_filter.mp h).1
theorem aT_at {i : Nat} {w : Cond} (h : lw_tbl[i]? = some w) (g : goodWord w = true) : w ∈ aT := aT_mem (List.mem_of_getElem? h) g
theorem aT_good {y : MethodName} {b : ByteArray} {n : Nat} {r : Option FieldType} {y2 : MethodName} {b2 : ByteArray} {n2 : Nat} {r2 : Option FieldType} (h : Cond.code y b n r ∈ aT) : GoodIn (Cond.code y2 b2 n2 r2 :: aT) (Cond.code y b n r :: aT) := by
  intro w hw
  rcases List.mem_cons.mp hw with rfl | h2
  · exact ⟨List.mem_cons_of_mem _ h, good_of_word (List.mem_filter.mp h).2⟩
  · exact ⟨List.mem_cons_of_mem _ h2, good_of_word (List.mem_filter.mp h2).2⟩
theorem aT_goodT {y : MethodName} {b : ByteArray} {n : Nat} {r : Option FieldType} (h : Cond.code y b n r ∈ aT) : GoodIn aT (Cond.code y b n r :: aT) := by
  intro w hw
  rcases List.mem_cons.mp hw with rfl | h2
  · exact ⟨h, good_of_word (List.mem_filter.mp h).2⟩
  · exact ⟨h2, good_of_word (List.mem_filter.mp h2).2⟩
/-! the String constants of the class: place in its pool, text, bytes -/
def aSx : List Nat := [47, 49, 51, 53, 55, 57, 59]
def aSt7 : List String := ["0", "010", "0110", "", "2", "593", "5993"]
def aSl : List Nat := [1, 3, 4, 0, 1, 3, 4]
def aSb : List (List Int32) := [[48], [48, 49, 48], [48, 49, 49, 48], [], [50], [53, 57, 51], [53, 57, 57, 51]]
def aStr (G : aG) (A : Nat → Prop) (U : State) : Prop := vk_S 7 aSl aSb G.2.2.2.1 G.2.2.2.2 A U U.heap ∧ ∀ i, i < 7 → vk_R "PromisedSnow$Script" (aSx.getD i 0) (aSt7.getD i "") (G.2.2.2.1 i) U
def aTys (G : aG) : List (ClassId × FieldType) := [(G.2.1 0, .int), (G.2.1 1, .boolean), (G.2.1 2, .array .int)]
/-- what a method finds at its start -/
def aWorld (G : aG) (Z : aZ) (Y : aY) (sz : Nat) (U : State) : Prop := U.heap.size = sz ∧ va_P G.2.2.1 vwCl (aW G Z Y) U.heap ∧ va_K G.2.2.1 vwCl (aTys G) U ∧ va_D (fun _ => True) (aW G Z Y) ∧ aStr G (va_A (aW G Z Y) sz) U
/-- what it leaves -/
def aQ (G : aG) (A : Nat → Prop) (Post : Option Value → aZ → aY → Prop) : Array Value → State → Outcome → State → Prop := fun _ st oc t => (∃ (r : Option Value) (Z' : aZ) (Y' : aY), oc = .returned r ∧ Post r Z' Y' ∧ va_P G.2.2.1 vwCl (aW G Z' Y') t.heap) ∧ va_F A st t
/-- A CONTRACT: from the arguments av and the world Z, Y the method returns, with Post of the answer and the world behind it; no cell is made, no other cell changes -/
def aS (G : aG) (y : MethodName) (cc : ByteArray) (nL : Nat) (ret : Option FieldType) (fr lo : Nat) (av : List Value) (Z : aZ) (Y : aY) (Post : Option Value → aZ → aY → Prop) : Prop :=
  ∀ (l : Launch) (sz : Nat), Met l y (Cond.code y cc nL ret :: aT) { frames := fr, cells := 0, slots := 0, locals := lo } (va_Pc av (aWorld G Z Y sz)) (aQ G (va_A (aW G Z Y) sz) Post) 0 0 (va_A (aW G Z Y) sz)
theorem aW_addr {G : aG} {Z Z' : aZ} {Y Y' : aY} {k : Nat} {q : Nat × va_E} (h : (aW G Z Y)[k]? = some q) : ∃ e, (aW G Z' Y')[k]? = some (q.1, e) := by
  have hk : k < 80 := by
    have := (List.getElem?_eq_some_iff.mp h).1
    simpa [aW] using this
  rw [aW_get hk] at h
  cases h
  exact ⟨_, aW_get hk⟩
theorem aW_D {G : aG} {Z Z' : aZ} {Y Y' : aY} {A : Nat → Prop} (h : va_D A (aW G Z Y)) : va_D A (aW G Z' Y') := by
  refine ⟨fun i j p q hi hj e => ?_, fun k q hk => ?_⟩
  · obtain ⟨e1, h1⟩ := aW_addr (Z' := Z) (Y' := Y) hi
    obtain ⟨e2, h2⟩ := aW_addr (Z' := Z) (Y' := Y) hj
    exact h.1 i j _ _ h1 h2 e
  · obtain ⟨e1, h1⟩ := aW_addr (Z' := Z) (Y' := Y) hk
    exact h.2 k (q.1, e1) h1
theorem aW_A {G : aG} {Z Z' : aZ} {Y Y' : aY} {sz : Nat} {q : Nat} (h : va_A (aW G Z Y) sz q) : va_A (aW G Z' Y') sz q := by
  rcases h with ⟨k, e, h⟩ | h
  · obtain ⟨e1, h1⟩ := aW_addr (Z' := Z') (Y' := Y') h
    exact Or.inl ⟨k, e1, h1⟩
  · exact Or.inr h
/-! the frame -/
def aLoc (ls : Array Slot) (n : Nat) (lv : List (Option Value)) : Prop := ls.size = n ∧ lv_wf ls ∧ ∀ (i : Nat) (v : Value), lv[i]? = some (some v) → ls[i]? = some (.val v)
abbrev aX : Type := Program × Launch × Env × Room × State × MethodId × Array Value × List Frame × Method × Code × (Nat → Prop) × Nat × Nat × (State → Prop)
/-- W at a frame, over the world: from every heap that holds it -/
def AW (X : aX) (G : aG) (pc : Nat) (lv : List (Option Value)) (st : List Value) (Z : aZ) (Y : aY) : Prop :=
  match X with
  | (p, l, e, R, s, m, args, below, meth, c, A, cs, sl, Q) => ∀ (H : Heap) (locs : List Loc) (ls : Array Slot), aLoc ls c.maxLocals lv → va_P G.2.2.1 vwCl (aW G Z Y) H → va_D A (aW G Z Y) → va_S A s.heap H locs → W p l e R s m args below meth c H locs cs sl Q (F0 m pc ls st)
/-- what stands fast in a method's walk -/
def aOK (X : aX) (G : aG) (own : String) (cc : ByteArray) (nL : Nat) (ret : Option FieldType) (fr lo : Nat) : Prop :=
  match X with
  | (p, _, _, R, s, m, args, _, meth, c, A, cs, sl, _) => p.tables.exec = Jvm.exec ∧ c.code = cc ∧ c.maxLocals = nL ∧ s.vm.findClass own = some m.cls ∧ (∀ w ∈ aT, w.before args s = true) ∧ va_K G.2.2.1 vwCl (aTys G) s ∧ (∀ q, s.heap.size ≤ q → A q) ∧ meth.locks = false ∧ meth.sig.returnType = ret ∧ (fr ≤ R.frames ∧ lo ≤ R.locals ∧ cs ≤ R.cells ∧ sl ≤ R.slots) ∧ aStr G A s
/-- returning r with the world Z, Y is what was asked -/
def aRet (X : aX) (G : aG) (r : Option Value) (Z : aZ) (Y : aY) : Prop :=
  match X with
  | (_, _, _, _, s, _, args, below, _, _, A, cs, sl, Q) => ∃ (Qc : Array Value → State → Outcome → State → Prop) (free : Addr → Prop), Q = MQ below Qc args s cs sl free ∧ ∀ (H : Heap) (locs : List Loc), va_P G.2.2.1 vwCl (aW G Z Y) H → va_S A s.heap H locs → (∀ t : State, t.heap = H → s.WarmedH t.vm → Qc args s (.returned r) t) ∧ ∀ q ∈ locs, free q.base
def aEnt : List Value → List (Option Value)
  | [] => []
  | v :: t => if v.category = 2 then some v :: none :: aEnt t else some v :: aEnt t
theorem aEnt_args : ∀ (vs : List Value) (i0 i : Nat) (v : Value), (aEnt vs)[i]? = some (some v) → (i0 + i, v) ∈ lv_args i0 vs
  | [], i0, i, v, h => by simp [aEnt] at h
  | w :: t, i0, i, v, h => by
    unfold aEnt at h
    unfold lv_args
    by_cases hc : w.category = 2
    · rw [if_pos hc] at h
      rw [if_pos hc]
      match i, h with
      | 0, h => simp at h; subst h; simp
      | 1, h => simp at h
      | i + 2, h =>
        simp at h
        have := aEnt_args t (i0 + 2) i v h
        rw [show i0 + (i + 2) = i0 + 2 + i by omega]
        exact List.mem_cons_of_mem _ this
    · rw [if_neg hc] at h
      rw [if_neg hc]
      match i, h with
      | 0, h => simp at h; subst h; simp
      | i + 1, h =>
        simp at h
        have := aEnt_args t (i0 + 1) i v h
        rw [show i0 + (i + 1) = i0 + 1 + i by omega]
        exact List.mem_cons_of_mem _ this
theorem aLoc_entry (vs : List Value) {n : Nat} (h : (lg_sl vs).length ≤ n) (k : Nat) : aLoc ((lg_sl vs ++ List.replicate (n - (lg_sl vs).length) Slot.unset).toArray) n (aEnt vs ++ List.replicate k none) := by
  obtain ⟨h1, h2, h3⟩ := lv_entry vs h
  refine ⟨h1, h2, fun i v hv => ?_⟩
  have hv2 : (aEnt vs)[i]? = some (some v) := by
    by_cases hi : i < (aEnt vs).length
    · rwa [List.getElem?_append_left hi] at hv
    · rw [List.getElem?_append_right (by omega)] at hv
      rw [List.getElem?_replicate] at hv
      split at hv <;> simp at hv
  have := aEnt_args vs 0 i v hv2
  rw [Nat.zero_add] at this
  exact h3 _ this
set_option maxHeartbeats 1000000 in
theorem aS.of {G : aG} {y : MethodName} {cc : ByteArray} {nL : Nat} {ret : Option FieldType} {fr lo : Nat} {av : List Value} {Z : aZ} {Y : aY} {Post : Option Value → aZ → aY → Prop} {own : String} (hy : plainName y.cls = true) (ho : y.cls = own) (k : Nat) (hn : (lg_sl av).length ≤ nL)
    (h : ∀ X : aX, aOK X G own cc nL ret fr lo → (∀ r Z' Y', Post r Z' Y' → aRet X G r Z' Y') → AW X G 0 (aEnt av ++ List.replicate k none) [] Z Y) : aS G y cc nL ret fr lo av Z Y Post := by
  intro l sz
  refine Met.ofW (cc := cc) (maxL := nL) (ret := ret) hy rfl ?_
  intro p e s m args below meth c s₁ B hml hv
  obtain ⟨rfl, hsz, hP, hK, hD0, hSt⟩ := hv
  have hts := atoms_spec (ws := Cond.code y cc nL ret :: aT) B.pre
  have hown : s.vm.findClass own = some m.cls := by rw [← ho]; exact findClass_of_methodNamed B.named
  subst hsz
  have hD := hD0.self (sz := s.heap.size)
  have hS : va_S (va_A (aW G Z Y) s.heap.size) s.heap s.heap [] := va_S.rf
  have hl := aLoc_entry av hn k
  rw [lg_entry_eq]
  exact h (p, l, e, (headSpec (Cond.code y cc nL ret :: aT) { frames := fr, cells := 0, slots := 0, locals := lo }).room, s, m, av.toArray, below, meth, c, va_A (aW G Z Y) s.heap.size, 0, 0, MQ below (aQ G (va_A (aW G Z Y) s.heap.size) Post) av.toArray s 0 0 (va_A (aW G Z Y) s.heap.size))
    ⟨B.exec, B.bytes, hml, hown, fun w hw => hts w (List.mem_cons_of_mem _ hw), hK, fun q hq => Or.inr hq, B.notSynchronized, B.returns, ⟨Nat.le_refl _, Nat.le_refl _, Nat.le_refl _, Nat.le_refl _⟩, hSt⟩
    (fun r Z' Y' hp => ⟨_, _, rfl, fun H locs hP' hS' => ⟨fun t ht hW => ⟨⟨r, Z', Y', rfl, hp, by rw [ht]; exact hP'⟩, hS'.F ht⟩, hS'.2.2⟩⟩)
    s.heap [] _ (by rw [hml]; exact hl) hP hD hS
end
section
theorem aLoc_mono {ls : Array Slot} {n : Nat} {lv lv' : List (Option Value)} (h : aLoc ls n lv) (hs : ∀ (i : Nat) (v : Value), lv'[i]? = some (some v) → lv[i]? = some (some v)) : aLoc ls n lv' := ⟨h.1, h.2.1, fun i v hv => h.2.2 i v (hs i v hv)⟩
/-- lv' knows no more than lv -/
def aLe : List (Option Value) → List (Option Value) → Prop
  | [], _ => True
  | none :: t, [] => aLe t []
  | none :: t, _ :: u => aLe t u
  | some _ :: _, [] => False
  | some v :: t, x :: u => x = some v ∧ aLe t u
theorem aLe_at : ∀ (a b : List (Option Value)), aLe a b → ∀ (i : Nat) (v : Value), a[i]? = some (some v) → b[i]? = some (some v)
  | [], _, _, i, v, h => by simp at h
  | none :: t, [], hl, i, v, h => by
    match i, h with
    | 0, h => simp at h
    | i + 1, h =>
      have := aLe_at t [] hl i v (by simpa using h)
      simp at this
  | none :: t, _ :: u, hl, i, v, h => by
    match i, h with
    | 0, h => simp at h
    | i + 1, h =>
      have := aLe_at t u hl i v (by simpa using h)
      simpa using this
  | some _ :: _, [], hl, _, _, _ => hl.elim
  | some x :: t, y :: u, hl, i, v, h => by
    match i, h with
    | 0, h =>
      simp at h
      subst h
      simpa using hl.1
    | i + 1, h =>
      have := aLe_at t u hl.2 i v (by simpa using h)
      simpa using this
theorem AW.le {X : aX} {G : aG} {pc : Nat} {lv lv' : List (Option Value)} {st : List Value} {Z : aZ} {Y : aY} (hl : aLe lv' lv) (k : AW X G pc lv' st Z Y) : AW X G pc lv st Z Y := by
  obtain ⟨p, l, e, R, s, m, args, below, meth, c, A, cs, sl, Q⟩ := X
  intro H locs ls hL hP hD hS
  exact k H locs ls (aLoc_mono hL (aLe_at _ _ hl)) hP hD hS
def aPr (lv : List (Option Value)) : List (Nat × Value) := (List.range lv.length).filterMap (fun i => match lv[i]? with | some (some v) => some (i, v) | _ => none)
theorem aPr_mem {lv : List (Option Value)} {i : Nat} {v : Value} : (i, v) ∈ aPr lv ↔ lv[i]? = some (some v) := by
  unfold aPr
  rw [List.mem_filterMap]
  constructor
  · rintro ⟨a, -, h⟩
    split at h
    · rename_i w hw
      simp at h
      rw [← h.1, hw, h.2]
    · simp at h
  · intro h
    refine ⟨i, List.mem_range.mpr (List.getElem?_eq_some_iff.mp h).1, ?_⟩
    rw [h]
theorem aLoc_has {ls : Array Slot} {n : Nat} {lv : List (Option Value)} (h : aLoc ls n lv) : lv_has ls n (aPr lv) := ⟨h.1, h.2.1, fun q hq => h.2.2 q.1 q.2 (aPr_mem.mp hq)⟩
def aC1 : Option Value → Bool
  | none => true
  | some v => v.category == 1
theorem aLoc_put {ls' : Array Slot} {n i : Nat} {lv : List (Option Value)} {v : Value} (h : lv_has ls' n ((i, v) :: (aPr lv).filter (fun q => !(q.1 == i) && !(q.1 + 1 == i && q.2.category == 2)))) (hp : ∀ j w, i = j + 1 → lv[j]? = some (some w) → w.category = 1) : aLoc ls' n (lv.set i (some v)) := by
  refine ⟨h.1, h.2.1, fun j x hj => ?_⟩
  by_cases e : j = i
  · subst e
    by_cases hl : j < lv.length
    · rw [List.getElem?_set_self hl] at hj
      cases hj
      exact h.2.2 _ List.mem_cons_self
    · rw [List.getElem?_eq_none (by simp; omega)] at hj
      simp at hj
  · rw [List.getElem?_set_ne (fun q => e q.symm)] at hj
    refine h.2.2 (j, x) (List.mem_cons_of_mem _ (List.mem_filter.mpr ⟨aPr_mem.mpr hj, ?_⟩))
    by_cases e2 : j + 1 = i
    · have := hp j x e2.symm hj
      simp [e, this]
    · simp [e, e2]
theorem aLoc_put2 {ls' : Array Slot} {n i : Nat} {lv : List (Option Value)} {v : Value} (h : lv_has ls' n ((i, v) :: (aPr lv).filter (fun q => !(q.1 == i) && (!(q.1 == i + 1) && !(q.1 + 1 == i && q.2.category == 2))))) (hp : ∀ j w, i = j + 1 → lv[j]? = some (some w) → w.category = 1) : aLoc ls' n ((lv.set i (some v)).set (i + 1) none) := by
  refine ⟨h.1, h.2.1, fun j x hj => ?_⟩
  by_cases e1 : j = i + 1
  · subst e1
    by_cases hl : i + 1 < (lv.set i (some v)).length
    · rw [List.getElem?_set_self hl] at hj
      cases hj
    · rw [List.getElem?_eq_none (by simp at hl ⊢; omega)] at hj
      simp at hj
  rw [List.getElem?_set_ne (fun q => e1 q.symm)] at hj
  by_cases e : j = i
  · subst e
    by_cases hl : j < lv.length
    · rw [List.getElem?_set_self hl] at hj
      cases hj
      exact h.2.2 _ List.mem_cons_self
    · rw [List.getElem?_eq_none (by simp; omega)] at hj
      simp at hj
  · rw [List.getElem?_set_ne (fun q => e q.symm)] at hj
    refine h.2.2 (j, x) (List.mem_cons_of_mem _ (List.mem_filter.mpr ⟨aPr_mem.mpr hj, ?_⟩))
    by_cases e2 : j + 1 = i
    · have := hp j x e2.symm hj
      simp [e, e1, this]
    · simp [e, e1, e2]
theorem aC1_of {lv : List (Option Value)} {i : Nat} (h : ∀ j, i = j + 1 → aC1 (lv.getD j none) = true) : ∀ j w, i = j + 1 → lv[j]? = some (some w) → w.category = 1 := by
  intro j w e hw
  have := h j e
  rw [List.getD_eq_getElem?_getD, hw] at this
  simpa [aC1] using this
theorem a_iconst {X : aX} {G : aG} {own : String} {cc : ByteArray} {nL : Nat} {ret : Option FieldType} {fr lo : Nat} (hX : aOK X G own cc nL ret fr lo) {pc pc' : Nat} {lv : List (Option Value)} {st : List Value} {Z : aZ} {Y : aY} {n : Int} (hdg : decode cc pc = .ok (.iconst n, 1)) (hp : pc + 1 = pc') (k : AW X G pc' lv (.int (aI n) :: st) Z Y) : AW X G pc lv (st) Z Y := by
  obtain ⟨p, l, e, R, s, m, args, below, meth, c, A, cs, sl, Q⟩ := X
  obtain ⟨hx, hb, hml, hown, hts, hK, hA, hlk, hr, hR, hSt⟩ := hX
  subst hp
  intro H locs ls hL hP hD hS
  refine lv_iconst hx hb hdg rfl ?_
  exact k H locs ls hL hP hD hS

theorem a_bipush {X : aX} {G : aG} {own : String} {cc : ByteArray} {nL : Nat} {ret : Option FieldType} {fr lo : Nat} (hX : aOK X G own cc nL ret fr lo) {pc pc' : Nat} {lv : List (Option Value)} {st : List Value} {Z : aZ} {Y : aY} {n : Int} (hn : (Int8.ofInt n).toInt32 = aI n) (hdg : decode cc pc = .ok (.bipush n, 2)) (hp : pc + 2 = pc') (k : AW X G pc' lv (.int (aI n) :: st) Z Y) : AW X G pc lv (st) Z Y := by
  obtain ⟨p, l, e, R, s, m, args, below, meth, c, A, cs, sl, Q⟩ := X
  obtain ⟨hx, hb, hml, hown, hts, hK, hA, hlk, hr, hR, hSt⟩ := hX
  subst hp
  intro H locs ls hL hP hD hS
  refine lv_bipush hx hb hdg hn ?_
  exact k H locs ls hL hP hD hS

theorem a_sipush {X : aX} {G : aG} {own : String} {cc : ByteArray} {nL : Nat} {ret : Option FieldType} {fr lo : Nat} (hX : aOK X G own cc nL ret fr lo) {pc pc' : Nat} {lv : List (Option Value)} {st : List Value} {Z : aZ} {Y : aY} {n : Int} (hn : (Int16.ofInt n).toInt32 = aI n) (hdg : decode cc pc = .ok (.sipush n, 3)) (hp : pc + 3 = pc') (k : AW X G pc' lv (.int (aI n) :: st) Z Y) : AW X G pc lv (st) Z Y := by
  obtain ⟨p, l, e, R, s, m, args, below, meth, c, A, cs, sl, Q⟩ := X
  obtain ⟨hx, hb, hml, hown, hts, hK, hA, hlk, hr, hR, hSt⟩ := hX
  subst hp
  intro H locs ls hL hP hD hS
  refine lv_sipush hx hb hdg hn ?_
  exact k H locs ls hL hP hD hS

theorem a_lconst {X : aX} {G : aG} {own : String} {cc : ByteArray} {nL : Nat} {ret : Option FieldType} {fr lo : Nat} (hX : aOK X G own cc nL ret fr lo) {pc pc' : Nat} {lv : List (Option Value)} {st : List Value} {Z : aZ} {Y : aY} {n : Fin 2} {v : Int} (hv : ((n : Nat) : Int) = v) (hdg : decode cc pc = .ok (.lconst n, 1)) (hp : pc + 1 = pc') (k : AW X G pc' lv (.long (aJ v) :: st) Z Y) : AW X G pc lv (st) Z Y := by
  obtain ⟨p, l, e, R, s, m, args, below, meth, c, A, cs, sl, Q⟩ := X
  obtain ⟨hx, hb, hml, hown, hts, hK, hA, hlk, hr, hR, hSt⟩ := hX
  subst hp
  intro H locs ls hL hP hD hS
  refine lv_lconst hx hb hdg rfl ?_
  rw [show Int64.ofNat (n : Nat) = aJ v by rw [← hv]; rfl]
  exact k H locs ls hL hP hD hS

theorem a_ldc2 {X : aX} {G : aG} {own : String} {cc : ByteArray} {nL : Nat} {ret : Option FieldType} {fr lo : Nat} (hX : aOK X G own cc nL ret fr lo) {pc pc' : Nat} {lv : List (Option Value)} {st : List Value} {Z : aZ} {Y : aY} {idx : Nat} {v : Int64} (hw : Cond.constantLong own idx v ∈ aT) (hdg : decode cc pc = .ok (.ldc2_w idx, 3)) (hp : pc + 3 = pc') (k : AW X G pc' lv (.long v :: st) Z Y) : AW X G pc lv (st) Z Y := by
  obtain ⟨p, l, e, R, s, m, args, below, meth, c, A, cs, sl, Q⟩ := X
  obtain ⟨hx, hb, hml, hown, hts, hK, hA, hlk, hr, hR, hSt⟩ := hX
  subst hp
  intro H locs ls hL hP hD hS
  refine lv_ldc2 hx hb hown (hts _ hw) hdg ?_
  exact k H locs ls hL hP hD hS

theorem a_iload_n {X : aX} {G : aG} {own : String} {cc : ByteArray} {nL : Nat} {ret : Option FieldType} {fr lo : Nat} (hX : aOK X G own cc nL ret fr lo) {pc pc' : Nat} {lv : List (Option Value)} {st : List Value} {Z : aZ} {Y : aY} {q : Fin 4} {i : Nat} {x : Int32} (hi : (q : Nat) = i) (hl : lv[i]? = some (some (.int x))) (hdg : decode cc pc = .ok (.iload_n q, 1)) (hp : pc + 1 = pc') (k : AW X G pc' lv (.int x :: st) Z Y) : AW X G pc lv (st) Z Y := by
  obtain ⟨p, l, e, R, s, m, args, below, meth, c, A, cs, sl, Q⟩ := X
  obtain ⟨hx, hb, hml, hown, hts, hK, hA, hlk, hr, hR, hSt⟩ := hX
  subst hp
  intro H locs ls hL hP hD hS
  refine lv_iload_n hx hb hdg hi (hL.2.2 i _ hl) ?_
  exact k H locs ls hL hP hD hS

theorem a_iload {X : aX} {G : aG} {own : String} {cc : ByteArray} {nL : Nat} {ret : Option FieldType} {fr lo : Nat} (hX : aOK X G own cc nL ret fr lo) {pc pc' : Nat} {lv : List (Option Value)} {st : List Value} {Z : aZ} {Y : aY} {i : Nat} {x : Int32} (hl : lv[i]? = some (some (.int x))) (hdg : decode cc pc = .ok (.iload i, 2)) (hp : pc + 2 = pc') (k : AW X G pc' lv (.int x :: st) Z Y) : AW X G pc lv (st) Z Y := by
  obtain ⟨p, l, e, R, s, m, args, below, meth, c, A, cs, sl, Q⟩ := X
  obtain ⟨hx, hb, hml, hown, hts, hK, hA, hlk, hr, hR, hSt⟩ := hX
  subst hp
  intro H locs ls hL hP hD hS
  refine lv_iload hx hb hdg (hL.2.2 i _ hl) ?_
  exact k H locs ls hL hP hD hS

theorem a_lload_n {X : aX} {G : aG} {own : String} {cc : ByteArray} {nL : Nat} {ret : Option FieldType} {fr lo : Nat} (hX : aOK X G own cc nL ret fr lo) {pc pc' : Nat} {lv : List (Option Value)} {st : List Value} {Z : aZ} {Y : aY} {q : Fin 4} {i : Nat} {x : Int64} (hi : (q : Nat) = i) (hl : lv[i]? = some (some (.long x))) (hdg : decode cc pc = .ok (.lload_n q, 1)) (hp : pc + 1 = pc') (k : AW X G pc' lv (.long x :: st) Z Y) : AW X G pc lv (st) Z Y := by
  obtain ⟨p, l, e, R, s, m, args, below, meth, c, A, cs, sl, Q⟩ := X
  obtain ⟨hx, hb, hml, hown, hts, hK, hA, hlk, hr, hR, hSt⟩ := hX
  subst hp
  intro H locs ls hL hP hD hS
  refine lv_lload_n hx hb hdg hi (hL.2.2 i _ hl) ?_
  exact k H locs ls hL hP hD hS

theorem a_lload {X : aX} {G : aG} {own : String} {cc : ByteArray} {nL : Nat} {ret : Option FieldType} {fr lo : Nat} (hX : aOK X G own cc nL ret fr lo) {pc pc' : Nat} {lv : List (Option Value)} {st : List Value} {Z : aZ} {Y : aY} {i : Nat} {x : Int64} (hl : lv[i]? = some (some (.long x))) (hdg : decode cc pc = .ok (.lload i, 2)) (hp : pc + 2 = pc') (k : AW X G pc' lv (.long x :: st) Z Y) : AW X G pc lv (st) Z Y := by
  obtain ⟨p, l, e, R, s, m, args, below, meth, c, A, cs, sl, Q⟩ := X
  obtain ⟨hx, hb, hml, hown, hts, hK, hA, hlk, hr, hR, hSt⟩ := hX
  subst hp
  intro H locs ls hL hP hD hS
  refine lv_lload hx hb hdg (hL.2.2 i _ hl) ?_
  exact k H locs ls hL hP hD hS

theorem a_aload_n {X : aX} {G : aG} {own : String} {cc : ByteArray} {nL : Nat} {ret : Option FieldType} {fr lo : Nat} (hX : aOK X G own cc nL ret fr lo) {pc pc' : Nat} {lv : List (Option Value)} {st : List Value} {Z : aZ} {Y : aY} {q : Fin 4} {i : Nat} {x : Nat} (hi : (q : Nat) = i) (hl : lv[i]? = some (some (.ref x))) (hdg : decode cc pc = .ok (.aload_n q, 1)) (hp : pc + 1 = pc') (k : AW X G pc' lv (.ref x :: st) Z Y) : AW X G pc lv (st) Z Y := by
  obtain ⟨p, l, e, R, s, m, args, below, meth, c, A, cs, sl, Q⟩ := X
  obtain ⟨hx, hb, hml, hown, hts, hK, hA, hlk, hr, hR, hSt⟩ := hX
  subst hp
  intro H locs ls hL hP hD hS
  refine lv_aload_n hx hb hdg hi (hL.2.2 i _ hl) ?_
  exact k H locs ls hL hP hD hS

theorem a_aload {X : aX} {G : aG} {own : String} {cc : ByteArray} {nL : Nat} {ret : Option FieldType} {fr lo : Nat} (hX : aOK X G own cc nL ret fr lo) {pc pc' : Nat} {lv : List (Option Value)} {st : List Value} {Z : aZ} {Y : aY} {i : Nat} {x : Nat} (hl : lv[i]? = some (some (.ref x))) (hdg : decode cc pc = .ok (.aload i, 2)) (hp : pc + 2 = pc') (k : AW X G pc' lv (.ref x :: st) Z Y) : AW X G pc lv (st) Z Y := by
  obtain ⟨p, l, e, R, s, m, args, below, meth, c, A, cs, sl, Q⟩ := X
  obtain ⟨hx, hb, hml, hown, hts, hK, hA, hlk, hr, hR, hSt⟩ := hX
  subst hp
  intro H locs ls hL hP hD hS
  refine lv_aload hx hb hdg (hL.2.2 i _ hl) ?_
  exact k H locs ls hL hP hD hS

theorem a_istoreG_n {X : aX} {G : aG} {own : String} {cc : ByteArray} {nL : Nat} {ret : Option FieldType} {fr lo : Nat} (hX : aOK X G own cc nL ret fr lo) {pc pc' : Nat} {lv : List (Option Value)} {st : List Value} {Z : aZ} {Y : aY} {q : Fin 4} {i : Nat} (hi : (q : Nat) = i) {x : Int32} (hn : i < nL) (h1 : ∀ j, i = j + 1 → aC1 (lv.getD j none) = true) (hdg : decode cc pc = .ok (.istore_n q, 1)) (hp : pc + 1 = pc') (k : AW X G pc' (lv.set i (some (.int x))) st Z Y) : AW X G pc lv (.int x :: st) Z Y := by
  obtain ⟨p, l, e, R, s, m, args, below, meth, c, A, cs, sl, Q⟩ := X
  obtain ⟨hx, hb, hml, hown, hts, hK, hA, hlk, hr, hR, hSt⟩ := hX
  subst hp
  intro H locs ls hL hP hD hS
  refine lv_istore_n hx hb hdg hi (aLoc_has hL) (by rw [hml]; exact hn) rfl (fun ls' h' => ?_)
  exact k H locs ls' (aLoc_put h' (aC1_of h1)) hP hD hS
theorem a_istore0 {X : aX} {G : aG} {own : String} {cc : ByteArray} {nL : Nat} {ret : Option FieldType} {fr lo : Nat} (hX : aOK X G own cc nL ret fr lo) {pc pc' : Nat} {st : List Value} {Z : aZ} {Y : aY} {u : Option Value} {t : List (Option Value)} {q : Fin 4} (hi : (q : Nat) = 0) {x : Int32} (hn : 0 < nL)  (hdg : decode cc pc = .ok (.istore_n q, 1)) (hp : pc + 1 = pc') (k : AW X G pc' (some (.int x) :: t) st Z Y) : AW X G pc (u :: t) (.int x :: st) Z Y :=
  a_istoreG_n hX (lv := u :: t) hi hn (by intro j hj; omega) hdg hp k
theorem a_istore1 {X : aX} {G : aG} {own : String} {cc : ByteArray} {nL : Nat} {ret : Option FieldType} {fr lo : Nat} (hX : aOK X G own cc nL ret fr lo) {pc pc' : Nat} {st : List Value} {Z : aZ} {Y : aY} {v0 u : Option Value} {t : List (Option Value)} {q : Fin 4} (hi : (q : Nat) = 1) {x : Int32} (hn : 1 < nL) (hc : aC1 v0 = true) (hdg : decode cc pc = .ok (.istore_n q, 1)) (hp : pc + 1 = pc') (k : AW X G pc' (v0 :: some (.int x) :: t) st Z Y) : AW X G pc (v0 :: u :: t) (.int x :: st) Z Y :=
  a_istoreG_n hX (lv := v0 :: u :: t) hi hn (by intro j hj; have e : j = 0 := (by omega); subst e; exact hc) hdg hp k
theorem a_istore2 {X : aX} {G : aG} {own : String} {cc : ByteArray} {nL : Nat} {ret : Option FieldType} {fr lo : Nat} (hX : aOK X G own cc nL ret fr lo) {pc pc' : Nat} {st : List Value} {Z : aZ} {Y : aY} {v0 v1 u : Option Value} {t : List (Option Value)} {q : Fin 4} (hi : (q : Nat) = 2) {x : Int32} (hn : 2 < nL) (hc : aC1 v1 = true) (hdg : decode cc pc = .ok (.istore_n q, 1)) (hp : pc + 1 = pc') (k : AW X G pc' (v0 :: v1 :: some (.int x) :: t) st Z Y) : AW X G pc (v0 :: v1 :: u :: t) (.int x :: st) Z Y :=
  a_istoreG_n hX (lv := v0 :: v1 :: u :: t) hi hn (by intro j hj; have e : j = 1 := (by omega); subst e; exact hc) hdg hp k
theorem a_istore3 {X : aX} {G : aG} {own : String} {cc : ByteArray} {nL : Nat} {ret : Option FieldType} {fr lo : Nat} (hX : aOK X G own cc nL ret fr lo) {pc pc' : Nat} {st : List Value} {Z : aZ} {Y : aY} {v0 v1 v2 u : Option Value} {t : List (Option Value)} {q : Fin 4} (hi : (q : Nat) = 3) {x : Int32} (hn : 3 < nL) (hc : aC1 v2 = true) (hdg : decode cc pc = .ok (.istore_n q, 1)) (hp : pc + 1 = pc') (k : AW X G pc' (v0 :: v1 :: v2 :: some (.int x) :: t) st Z Y) : AW X G pc (v0 :: v1 :: v2 :: u :: t) (.int x :: st) Z Y :=
  a_istoreG_n hX (lv := v0 :: v1 :: v2 :: u :: t) hi hn (by intro j hj; have e : j = 2 := (by omega); subst e; exact hc) hdg hp k
theorem a_istoreG {X : aX} {G : aG} {own : String} {cc : ByteArray} {nL : Nat} {ret : Option FieldType} {fr lo : Nat} (hX : aOK X G own cc nL ret fr lo) {pc pc' : Nat} {lv : List (Option Value)} {st : List Value} {Z : aZ} {Y : aY} {i : Nat} {x : Int32} (hn : i < nL) (h1 : ∀ j, i = j + 1 → aC1 (lv.getD j none) = true) (hdg : decode cc pc = .ok (.istore i, 2)) (hp : pc + 2 = pc') (k : AW X G pc' (lv.set i (some (.int x))) st Z Y) : AW X G pc lv (.int x :: st) Z Y := by
  obtain ⟨p, l, e, R, s, m, args, below, meth, c, A, cs, sl, Q⟩ := X
  obtain ⟨hx, hb, hml, hown, hts, hK, hA, hlk, hr, hR, hSt⟩ := hX
  subst hp
  intro H locs ls hL hP hD hS
  refine lv_istore hx hb hdg (aLoc_has hL) (by rw [hml]; exact hn) rfl (fun ls' h' => ?_)
  exact k H locs ls' (aLoc_put h' (aC1_of h1)) hP hD hS
theorem a_istore4 {X : aX} {G : aG} {own : String} {cc : ByteArray} {nL : Nat} {ret : Option FieldType} {fr lo : Nat} (hX : aOK X G own cc nL ret fr lo) {pc pc' : Nat} {st : List Value} {Z : aZ} {Y : aY} {v0 v1 v2 v3 u : Option Value} {t : List (Option Value)}  {x : Int32} (hn : 4 < nL) (hc : aC1 v3 = true) (hdg : decode cc pc = .ok (.istore 4, 2)) (hp : pc + 2 = pc') (k : AW X G pc' (v0 :: v1 :: v2 :: v3 :: some (.int x) :: t) st Z Y) : AW X G pc (v0 :: v1 :: v2 :: v3 :: u :: t) (.int x :: st) Z Y :=
  a_istoreG hX (lv := v0 :: v1 :: v2 :: v3 :: u :: t)  hn (by intro j hj; have e : j = 3 := (by omega); subst e; exact hc) hdg hp k
theorem a_istore5 {X : aX} {G : aG} {own : String} {cc : ByteArray} {nL : Nat} {ret : Option FieldType} {fr lo : Nat} (hX : aOK X G own cc nL ret fr lo) {pc pc' : Nat} {st : List Value} {Z : aZ} {Y : aY} {v0 v1 v2 v3 v4 u : Option Value} {t : List (Option Value)}  {x : Int32} (hn : 5 < nL) (hc : aC1 v4 = true) (hdg : decode cc pc = .ok (.istore 5, 2)) (hp : pc + 2 = pc') (k : AW X G pc' (v0 :: v1 :: v2 :: v3 :: v4 :: some (.int x) :: t) st Z Y) : AW X G pc (v0 :: v1 :: v2 :: v3 :: v4 :: u :: t) (.int x :: st) Z Y :=
  a_istoreG hX (lv := v0 :: v1 :: v2 :: v3 :: v4 :: u :: t)  hn (by intro j hj; have e : j = 4 := (by omega); subst e; exact hc) hdg hp k
theorem a_istore6 {X : aX} {G : aG} {own : String} {cc : ByteArray} {nL : Nat} {ret : Option FieldType} {fr lo : Nat} (hX : aOK X G own cc nL ret fr lo) {pc pc' : Nat} {st : List Value} {Z : aZ} {Y : aY} {v0 v1 v2 v3 v4 v5 u : Option Value} {t : List (Option Value)}  {x : Int32} (hn : 6 < nL) (hc : aC1 v5 = true) (hdg : decode cc pc = .ok (.istore 6, 2)) (hp : pc + 2 = pc') (k : AW X G pc' (v0 :: v1 :: v2 :: v3 :: v4 :: v5 :: some (.int x) :: t) st Z Y) : AW X G pc (v0 :: v1 :: v2 :: v3 :: v4 :: v5 :: u :: t) (.int x :: st) Z Y :=
  a_istoreG hX (lv := v0 :: v1 :: v2 :: v3 :: v4 :: v5 :: u :: t)  hn (by intro j hj; have e : j = 5 := (by omega); subst e; exact hc) hdg hp k
theorem a_istore7 {X : aX} {G : aG} {own : String} {cc : ByteArray} {nL : Nat} {ret : Option FieldType} {fr lo : Nat} (hX : aOK X G own cc nL ret fr lo) {pc pc' : Nat} {st : List Value} {Z : aZ} {Y : aY} {v0 v1 v2 v3 v4 v5 v6 u : Option Value} {t : List (Option Value)}  {x : Int32} (hn : 7 < nL) (hc : aC1 v6 = true) (hdg : decode cc pc = .ok (.istore 7, 2)) (hp : pc + 2 = pc') (k : AW X G pc' (v0 :: v1 :: v2 :: v3 :: v4 :: v5 :: v6 :: some (.int x) :: t) st Z Y) : AW X G pc (v0 :: v1 :: v2 :: v3 :: v4 :: v5 :: v6 :: u :: t) (.int x :: st) Z Y :=
  a_istoreG hX (lv := v0 :: v1 :: v2 :: v3 :: v4 :: v5 :: v6 :: u :: t)  hn (by intro j hj; have e : j = 6 := (by omega); subst e; exact hc) hdg hp k
theorem a_istore8 {X : aX} {G : aG} {own : String} {cc : ByteArray} {nL : Nat} {ret : Option FieldType} {fr lo : Nat} (hX : aOK X G own cc nL ret fr lo) {pc pc' : Nat} {st : List Value} {Z : aZ} {Y : aY} {v0 v1 v2 v3 v4 v5 v6 v7 u : Option Value} {t : List (Option Value)}  {x : Int32} (hn : 8 < nL) (hc : aC1 v7 = true) (hdg : decode cc pc = .ok (.istore 8, 2)) (hp : pc + 2 = pc') (k : AW X G pc' (v0 :: v1 :: v2 :: v3 :: v4 :: v5 :: v6 :: v7 :: some (.int x) :: t) st Z Y) : AW X G pc (v0 :: v1 :: v2 :: v3 :: v4 :: v5 :: v6 :: v7 :: u :: t) (.int x :: st) Z Y :=
  a_istoreG hX (lv := v0 :: v1 :: v2 :: v3 :: v4 :: v5 :: v6 :: v7 :: u :: t)  hn (by intro j hj; have e : j = 7 := (by omega); subst e; exact hc) hdg hp k
theorem a_istore9 {X : aX} {G : aG} {own : String} {cc : ByteArray} {nL : Nat} {ret : Option FieldType} {fr lo : Nat} (hX : aOK X G own cc nL ret fr lo) {pc pc' : Nat} {st : List Value} {Z : aZ} {Y : aY} {v0 v1 v2 v3 v4 v5 v6 v7 v8 u : Option Value} {t : List (Option Value)}  {x : Int32} (hn : 9 < nL) (hc : aC1 v8 = true) (hdg : decode cc pc = .ok (.istore 9, 2)) (hp : pc + 2 = pc') (k : AW X G pc' (v0 :: v1 :: v2 :: v3 :: v4 :: v5 :: v6 :: v7 :: v8 :: some (.int x) :: t) st Z Y) : AW X G pc (v0 :: v1 :: v2 :: v3 :: v4 :: v5 :: v6 :: v7 :: v8 :: u :: t) (.int x :: st) Z Y :=
  a_istoreG hX (lv := v0 :: v1 :: v2 :: v3 :: v4 :: v5 :: v6 :: v7 :: v8 :: u :: t)  hn (by intro j hj; have e : j = 8 := (by omega); subst e; exact hc) hdg hp k
theorem a_istore10 {X : aX} {G : aG} {own : String} {cc : ByteArray} {nL : Nat} {ret : Option FieldType} {fr lo : Nat} (hX : aOK X G own cc nL ret fr lo) {pc pc' : Nat} {st : List Value} {Z : aZ} {Y : aY} {v0 v1 v2 v3 v4 v5 v6 v7 v8 v9 u : Option Value} {t : List (Option Value)}  {x : Int32} (hn : 10 < nL) (hc : aC1 v9 = true) (hdg : decode cc pc = .ok (.istore 10, 2)) (hp : pc + 2 = pc') (k : AW X G pc' (v0 :: v1 :: v2 :: v3 :: v4 :: v5 :: v6 :: v7 :: v8 :: v9 :: some (.int x) :: t) st Z Y) : AW X G pc (v0 :: v1 :: v2 :: v3 :: v4 :: v5 :: v6 :: v7 :: v8 :: v9 :: u :: t) (.int x :: st) Z Y :=
  a_istoreG hX (lv := v0 :: v1 :: v2 :: v3 :: v4 :: v5 :: v6 :: v7 :: v8 :: v9 :: u :: t)  hn (by intro j hj; have e : j = 9 := (by omega); subst e; exact hc) hdg hp k
theorem a_istore11 {X : aX} {G : aG} {own : String} {cc : ByteArray} {nL : Nat} {ret : Option FieldType} {fr lo : Nat} (hX : aOK X G own cc nL ret fr lo) {pc pc' : Nat} {st : List Value} {Z : aZ} {Y : aY} {v0 v1 v2 v3 v4 v5 v6 v7 v8 v9 v10 u : Option Value} {t : List (Option Value)}  {x : Int32} (hn : 11 < nL) (hc : aC1 v10 = true) (hdg : decode cc pc = .ok (.istore 11, 2)) (hp : pc + 2 = pc') (k : AW X G pc' (v0 :: v1 :: v2 :: v3 :: v4 :: v5 :: v6 :: v7 :: v8 :: v9 :: v10 :: some (.int x) :: t) st Z Y) : AW X G pc (v0 :: v1 :: v2 :: v3 :: v4 :: v5 :: v6 :: v7 :: v8 :: v9 :: v10 :: u :: t) (.int x :: st) Z Y :=
  a_istoreG hX (lv := v0 :: v1 :: v2 :: v3 :: v4 :: v5 :: v6 :: v7 :: v8 :: v9 :: v10 :: u :: t)  hn (by intro j hj; have e : j = 10 := (by omega); subst e; exact hc) hdg hp k
theorem a_istore12 {X : aX} {G : aG} {own : String} {cc : ByteArray} {nL : Nat} {ret : Option FieldType} {fr lo : Nat} (hX : aOK X G own cc nL ret fr lo) {pc pc' : Nat} {st : List Value} {Z : aZ} {Y : aY} {v0 v1 v2 v3 v4 v5 v6 v7 v8 v9 v10 v11 u : Option Value} {t : List (Option Value)}  {x : Int32} (hn : 12 < nL) (hc : aC1 v11 = true) (hdg : decode cc pc = .ok (.istore 12, 2)) (hp : pc + 2 = pc') (k : AW X G pc' (v0 :: v1 :: v2 :: v3 :: v4 :: v5 :: v6 :: v7 :: v8 :: v9 :: v10 :: v11 :: some (.int x) :: t) st Z Y) : AW X G pc (v0 :: v1 :: v2 :: v3 :: v4 :: v5 :: v6 :: v7 :: v8 :: v9 :: v10 :: v11 :: u :: t) (.int x :: st) Z Y :=
  a_istoreG hX (lv := v0 :: v1 :: v2 :: v3 :: v4 :: v5 :: v6 :: v7 :: v8 :: v9 :: v10 :: v11 :: u :: t)  hn (by intro j hj; have e : j = 11 := (by omega); subst e; exact hc) hdg hp k
theorem a_istore13 {X : aX} {G : aG} {own : String} {cc : ByteArray} {nL : Nat} {ret : Option FieldType} {fr lo : Nat} (hX : aOK X G own cc nL ret fr lo) {pc pc' : Nat} {st : List Value} {Z : aZ} {Y : aY} {v0 v1 v2 v3 v4 v5 v6 v7 v8 v9 v10 v11 v12 u : Option Value} {t : List (Option Value)}  {x : Int32} (hn : 13 < nL) (hc : aC1 v12 = true) (hdg : decode cc pc = .ok (.istore 13, 2)) (hp : pc + 2 = pc') (k : AW X G pc' (v0 :: v1 :: v2 :: v3 :: v4 :: v5 :: v6 :: v7 :: v8 :: v9 :: v10 :: v11 :: v12 :: some (.int x) :: t) st Z Y) : AW X G pc (v0 :: v1 :: v2 :: v3 :: v4 :: v5 :: v6 :: v7 :: v8 :: v9 :: v10 :: v11 :: v12 :: u :: t) (.int x :: st) Z Y :=
  a_istoreG hX (lv := v0 :: v1 :: v2 :: v3 :: v4 :: v5 :: v6 :: v7 :: v8 :: v9 :: v10 :: v11 :: v12 :: u :: t)  hn (by intro j hj; have e : j = 12 := (by omega); subst e; exact hc) hdg hp k
theorem a_astoreG_n {X : aX} {G : aG} {own : String} {cc : ByteArray} {nL : Nat} {ret : Option FieldType} {fr lo : Nat} (hX : aOK X G own cc nL ret fr lo) {pc pc' : Nat} {lv : List (Option Value)} {st : List Value} {Z : aZ} {Y : aY} {q : Fin 4} {i : Nat} (hi : (q : Nat) = i) {x : Nat} (hn : i < nL) (h1 : ∀ j, i = j + 1 → aC1 (lv.getD j none) = true) (hdg : decode cc pc = .ok (.astore_n q, 1)) (hp : pc + 1 = pc') (k : AW X G pc' (lv.set i (some (.ref x))) st Z Y) : AW X G pc lv (.ref x :: st) Z Y := by
  obtain ⟨p, l, e, R, s, m, args, below, meth, c, A, cs, sl, Q⟩ := X
  obtain ⟨hx, hb, hml, hown, hts, hK, hA, hlk, hr, hR, hSt⟩ := hX
  subst hp
  intro H locs ls hL hP hD hS
  refine lv_astore_n hx hb hdg hi (aLoc_has hL) (by rw [hml]; exact hn) rfl (fun ls' h' => ?_)
  exact k H locs ls' (aLoc_put h' (aC1_of h1)) hP hD hS
theorem a_astore0 {X : aX} {G : aG} {own : String} {cc : ByteArray} {nL : Nat} {ret : Option FieldType} {fr lo : Nat} (hX : aOK X G own cc nL ret fr lo) {pc pc' : Nat} {st : List Value} {Z : aZ} {Y : aY} {u : Option Value} {t : List (Option Value)} {q : Fin 4} (hi : (q : Nat) = 0) {x : Nat} (hn : 0 < nL)  (hdg : decode cc pc = .ok (.astore_n q, 1)) (hp : pc + 1 = pc') (k : AW X G pc' (some (.ref x) :: t) st Z Y) : AW X G pc (u :: t) (.ref x :: st) Z Y :=
  a_astoreG_n hX (lv := u :: t) hi hn (by intro j hj; omega) hdg hp k
theorem a_astore1 {X : aX} {G : aG} {own : String} {cc : ByteArray} {nL : Nat} {ret : Option FieldType} {fr lo : Nat} (hX : aOK X G own cc nL ret fr lo) {pc pc' : Nat} {st : List Value} {Z : aZ} {Y : aY} {v0 u : Option Value} {t : List (Option Value)} {q : Fin 4} (hi : (q : Nat) = 1) {x : Nat} (hn : 1 < nL) (hc : aC1 v0 = true) (hdg : decode cc pc = .ok (.astore_n q, 1)) (hp : pc + 1 = pc') (k : AW X G pc' (v0 :: some (.ref x) :: t) st Z Y) : AW X G pc (v0 :: u :: t) (.ref x :: st) Z Y :=
  a_astoreG_n hX (lv := v0 :: u :: t) hi hn (by intro j hj; have e : j = 0 := (by omega); subst e; exact hc) hdg hp k
theorem a_astore2 {X : aX} {G : aG} {own : String} {cc : ByteArray} {nL : Nat} {ret : Option FieldType} {fr lo : Nat} (hX : aOK X G own cc nL ret fr lo) {pc pc' : Nat} {st : List Value} {Z : aZ} {Y : aY} {v0 v1 u : Option Value} {t : List (Option Value)} {q : Fin 4} (hi : (q : Nat) = 2) {x : Nat} (hn : 2 < nL) (hc : aC1 v1 = true) (hdg : decode cc pc = .ok (.astore_n q, 1)) (hp : pc + 1 = pc') (k : AW X G pc' (v0 :: v1 :: some (.ref x) :: t) st Z Y) : AW X G pc (v0 :: v1 :: u :: t) (.ref x :: st) Z Y :=
  a_astoreG_n hX (lv := v0 :: v1 :: u :: t) hi hn (by intro j hj; have e : j = 1 := (by omega); subst e; exact hc) hdg hp k
theorem a_astore3 {X : aX} {G : aG} {own : String} {cc : ByteArray} {nL : Nat} {ret : Option FieldType} {fr lo : Nat} (hX : aOK X G own cc nL ret fr lo) {pc pc' : Nat} {st : List Value} {Z : aZ} {Y : aY} {v0 v1 v2 u : Option Value} {t : List (Option Value)} {q : Fin 4} (hi : (q : Nat) = 3) {x : Nat} (hn : 3 < nL) (hc : aC1 v2 = true) (hdg : decode cc pc = .ok (.astore_n q, 1)) (hp : pc + 1 = pc') (k : AW X G pc' (v0 :: v1 :: v2 :: some (.ref x) :: t) st Z Y) : AW X G pc (v0 :: v1 :: v2 :: u :: t) (.ref x :: st) Z Y :=
  a_astoreG_n hX (lv := v0 :: v1 :: v2 :: u :: t) hi hn (by intro j hj; have e : j = 2 := (by omega); subst e; exact hc) hdg hp k
theorem a_astoreG {X : aX} {G : aG} {own : String} {cc : ByteArray} {nL : Nat} {ret : Option FieldType} {fr lo : Nat} (hX : aOK X G own cc nL ret fr lo) {pc pc' : Nat} {lv : List (Option Value)} {st : List Value} {Z : aZ} {Y : aY} {i : Nat} {x : Nat} (hn : i < nL) (h1 : ∀ j, i = j + 1 → aC1 (lv.getD j none) = true) (hdg : decode cc pc = .ok (.astore i, 2)) (hp : pc + 2 = pc') (k : AW X G pc' (lv.set i (some (.ref x))) st Z Y) : AW X G pc lv (.ref x :: st) Z Y := by
  obtain ⟨p, l, e, R, s, m, args, below, meth, c, A, cs, sl, Q⟩ := X
  obtain ⟨hx, hb, hml, hown, hts, hK, hA, hlk, hr, hR, hSt⟩ := hX
  subst hp
  intro H locs ls hL hP hD hS
  refine lv_astore hx hb hdg (aLoc_has hL) (by rw [hml]; exact hn) rfl (fun ls' h' => ?_)
  exact k H locs ls' (aLoc_put h' (aC1_of h1)) hP hD hS
theorem a_astore4 {X : aX} {G : aG} {own : String} {cc : ByteArray} {nL : Nat} {ret : Option FieldType} {fr lo : Nat} (hX : aOK X G own cc nL ret fr lo) {pc pc' : Nat} {st : List Value} {Z : aZ} {Y : aY} {v0 v1 v2 v3 u : Option Value} {t : List (Option Value)}  {x : Nat} (hn : 4 < nL) (hc : aC1 v3 = true) (hdg : decode cc pc = .ok (.astore 4, 2)) (hp : pc + 2 = pc') (k : AW X G pc' (v0 :: v1 :: v2 :: v3 :: some (.ref x) :: t) st Z Y) : AW X G pc (v0 :: v1 :: v2 :: v3 :: u :: t) (.ref x :: st) Z Y :=
  a_astoreG hX (lv := v0 :: v1 :: v2 :: v3 :: u :: t)  hn (by intro j hj; have e : j = 3 := (by omega); subst e; exact hc) hdg hp k
theorem a_astore5 {X : aX} {G : aG} {own : String} {cc : ByteArray} {nL : Nat} {ret : Option FieldType} {fr lo : Nat} (hX : aOK X G own cc nL ret fr lo) {pc pc' : Nat} {st : List Value} {Z : aZ} {Y : aY} {v0 v1 v2 v3 v4 u : Option Value} {t : List (Option Value)}  {x : Nat} (hn : 5 < nL) (hc : aC1 v4 = true) (hdg : decode cc pc = .ok (.astore 5, 2)) (hp : pc + 2 = pc') (k : AW X G pc' (v0 :: v1 :: v2 :: v3 :: v4 :: some (.ref x) :: t) st Z Y) : AW X G pc (v0 :: v1 :: v2 :: v3 :: v4 :: u :: t) (.ref x :: st) Z Y :=
  a_astoreG hX (lv := v0 :: v1 :: v2 :: v3 :: v4 :: u :: t)  hn (by intro j hj; have e : j = 4 := (by omega); subst e; exact hc) hdg hp k
theorem a_astore6 {X : aX} {G : aG} {own : String} {cc : ByteArray} {nL : Nat} {ret : Option FieldType} {fr lo : Nat} (hX : aOK X G own cc nL ret fr lo) {pc pc' : Nat} {st : List Value} {Z : aZ} {Y : aY} {v0 v1 v2 v3 v4 v5 u : Option Value} {t : List (Option Value)}  {x : Nat} (hn : 6 < nL) (hc : aC1 v5 = true) (hdg : decode cc pc = .ok (.astore 6, 2)) (hp : pc + 2 = pc') (k : AW X G pc' (v0 :: v1 :: v2 :: v3 :: v4 :: v5 :: some (.ref x) :: t) st Z Y) : AW X G pc (v0 :: v1 :: v2 :: v3 :: v4 :: v5 :: u :: t) (.ref x :: st) Z Y :=
  a_astoreG hX (lv := v0 :: v1 :: v2 :: v3 :: v4 :: v5 :: u :: t)  hn (by intro j hj; have e : j = 5 := (by omega); subst e; exact hc) hdg hp k
theorem a_astore7 {X : aX} {G : aG} {own : String} {cc : ByteArray} {nL : Nat} {ret : Option FieldType} {fr lo : Nat} (hX : aOK X G own cc nL ret fr lo) {pc pc' : Nat} {st : List Value} {Z : aZ} {Y : aY} {v0 v1 v2 v3 v4 v5 v6 u : Option Value} {t : List (Option Value)}  {x : Nat} (hn : 7 < nL) (hc : aC1 v6 = true) (hdg : decode cc pc = .ok (.astore 7, 2)) (hp : pc + 2 = pc') (k : AW X G pc' (v0 :: v1 :: v2 :: v3 :: v4 :: v5 :: v6 :: some (.ref x) :: t) st Z Y) : AW X G pc (v0 :: v1 :: v2 :: v3 :: v4 :: v5 :: v6 :: u :: t) (.ref x :: st) Z Y :=
  a_astoreG hX (lv := v0 :: v1 :: v2 :: v3 :: v4 :: v5 :: v6 :: u :: t)  hn (by intro j hj; have e : j = 6 := (by omega); subst e; exact hc) hdg hp k
theorem a_astore8 {X : aX} {G : aG} {own : String} {cc : ByteArray} {nL : Nat} {ret : Option FieldType} {fr lo : Nat} (hX : aOK X G own cc nL ret fr lo) {pc pc' : Nat} {st : List Value} {Z : aZ} {Y : aY} {v0 v1 v2 v3 v4 v5 v6 v7 u : Option Value} {t : List (Option Value)}  {x : Nat} (hn : 8 < nL) (hc : aC1 v7 = true) (hdg : decode cc pc = .ok (.astore 8, 2)) (hp : pc + 2 = pc') (k : AW X G pc' (v0 :: v1 :: v2 :: v3 :: v4 :: v5 :: v6 :: v7 :: some (.ref x) :: t) st Z Y) : AW X G pc (v0 :: v1 :: v2 :: v3 :: v4 :: v5 :: v6 :: v7 :: u :: t) (.ref x :: st) Z Y :=
  a_astoreG hX (lv := v0 :: v1 :: v2 :: v3 :: v4 :: v5 :: v6 :: v7 :: u :: t)  hn (by intro j hj; have e : j = 7 := (by omega); subst e; exact hc) hdg hp k
theorem a_astore9 {X : aX} {G : aG} {own : String} {cc : ByteArray} {nL : Nat} {ret : Option FieldType} {fr lo : Nat} (hX : aOK X G own cc nL ret fr lo) {pc pc' : Nat} {st : List Value} {Z : aZ} {Y : aY} {v0 v1 v2 v3 v4 v5 v6 v7 v8 u : Option Value} {t : List (Option Value)}  {x : Nat} (hn : 9 < nL) (hc : aC1 v8 = true) (hdg : decode cc pc = .ok (.astore 9, 2)) (hp : pc + 2 = pc') (k : AW X G pc' (v0 :: v1 :: v2 :: v3 :: v4 :: v5 :: v6 :: v7 :: v8 :: some (.ref x) :: t) st Z Y) : AW X G pc (v0 :: v1 :: v2 :: v3 :: v4 :: v5 :: v6 :: v7 :: v8 :: u :: t) (.ref x :: st) Z Y :=
  a_astoreG hX (lv := v0 :: v1 :: v2 :: v3 :: v4 :: v5 :: v6 :: v7 :: v8 :: u :: t)  hn (by intro j hj; have e : j = 8 := (by omega); subst e; exact hc) hdg hp k
theorem a_astore10 {X : aX} {G : aG} {own : String} {cc : ByteArray} {nL : Nat} {ret : Option FieldType} {fr lo : Nat} (hX : aOK X G own cc nL ret fr lo) {pc pc' : Nat} {st : List Value} {Z : aZ} {Y : aY} {v0 v1 v2 v3 v4 v5 v6 v7 v8 v9 u : Option Value} {t : List (Option Value)}  {x : Nat} (hn : 10 < nL) (hc : aC1 v9 = true) (hdg : decode cc pc = .ok (.astore 10, 2)) (hp : pc + 2 = pc') (k : AW X G pc' (v0 :: v1 :: v2 :: v3 :: v4 :: v5 :: v6 :: v7 :: v8 :: v9 :: some (.ref x) :: t) st Z Y) : AW X G pc (v0 :: v1 :: v2 :: v3 :: v4 :: v5 :: v6 :: v7 :: v8 :: v9 :: u :: t) (.ref x :: st) Z Y :=
  a_astoreG hX (lv := v0 :: v1 :: v2 :: v3 :: v4 :: v5 :: v6 :: v7 :: v8 :: v9 :: u :: t)  hn (by intro j hj; have e : j = 9 := (by omega); subst e; exact hc) hdg hp k
theorem a_astore11 {X : aX} {G : aG} {own : String} {cc : ByteArray} {nL : Nat} {ret : Option FieldType} {fr lo : Nat} (hX : aOK X G own cc nL ret fr lo) {pc pc' : Nat} {st : List Value} {Z : aZ} {Y : aY} {v0 v1 v2 v3 v4 v5 v6 v7 v8 v9 v10 u : Option Value} {t : List (Option Value)}  {x : Nat} (hn : 11 < nL) (hc : aC1 v10 = true) (hdg : decode cc pc = .ok (.astore 11, 2)) (hp : pc + 2 = pc') (k : AW X G pc' (v0 :: v1 :: v2 :: v3 :: v4 :: v5 :: v6 :: v7 :: v8 :: v9 :: v10 :: some (.ref x) :: t) st Z Y) : AW X G pc (v0 :: v1 :: v2 :: v3 :: v4 :: v5 :: v6 :: v7 :: v8 :: v9 :: v10 :: u :: t) (.ref x :: st) Z Y :=
  a_astoreG hX (lv := v0 :: v1 :: v2 :: v3 :: v4 :: v5 :: v6 :: v7 :: v8 :: v9 :: v10 :: u :: t)  hn (by intro j hj; have e : j = 10 := (by omega); subst e; exact hc) hdg hp k
theorem a_astore12 {X : aX} {G : aG} {own : String} {cc : ByteArray} {nL : Nat} {ret : Option FieldType} {fr lo : Nat} (hX : aOK X G own cc nL ret fr lo) {pc pc' : Nat} {st : List Value} {Z : aZ} {Y : aY} {v0 v1 v2 v3 v4 v5 v6 v7 v8 v9 v10 v11 u : Option Value} {t : List (Option Value)}  {x : Nat} (hn : 12 < nL) (hc : aC1 v11 = true) (hdg : decode cc pc = .ok (.astore 12, 2)) (hp : pc + 2 = pc') (k : AW X G pc' (v0 :: v1 :: v2 :: v3 :: v4 :: v5 :: v6 :: v7 :: v8 :: v9 :: v10 :: v11 :: some (.ref x) :: t) st Z Y) : AW X G pc (v0 :: v1 :: v2 :: v3 :: v4 :: v5 :: v6 :: v7 :: v8 :: v9 :: v10 :: v11 :: u :: t) (.ref x :: st) Z Y :=
  a_astoreG hX (lv := v0 :: v1 :: v2 :: v3 :: v4 :: v5 :: v6 :: v7 :: v8 :: v9 :: v10 :: v11 :: u :: t)  hn (by intro j hj; have e : j = 11 := (by omega); subst e; exact hc) hdg hp k
theorem a_astore13 {X : aX} {G : aG} {own : String} {cc : ByteArray} {nL : Nat} {ret : Option FieldType} {fr lo : Nat} (hX : aOK X G own cc nL ret fr lo) {pc pc' : Nat} {st : List Value} {Z : aZ} {Y : aY} {v0 v1 v2 v3 v4 v5 v6 v7 v8 v9 v10 v11 v12 u : Option Value} {t : List (Option Value)}  {x : Nat} (hn : 13 < nL) (hc : aC1 v12 = true) (hdg : decode cc pc = .ok (.astore 13, 2)) (hp : pc + 2 = pc') (k : AW X G pc' (v0 :: v1 :: v2 :: v3 :: v4 :: v5 :: v6 :: v7 :: v8 :: v9 :: v10 :: v11 :: v12 :: some (.ref x) :: t) st Z Y) : AW X G pc (v0 :: v1 :: v2 :: v3 :: v4 :: v5 :: v6 :: v7 :: v8 :: v9 :: v10 :: v11 :: v12 :: u :: t) (.ref x :: st) Z Y :=
  a_astoreG hX (lv := v0 :: v1 :: v2 :: v3 :: v4 :: v5 :: v6 :: v7 :: v8 :: v9 :: v10 :: v11 :: v12 :: u :: t)  hn (by intro j hj; have e : j = 12 := (by omega); subst e; exact hc) hdg hp k
theorem a_lstoreG_n {X : aX} {G : aG} {own : String} {cc : ByteArray} {nL : Nat} {ret : Option FieldType} {fr lo : Nat} (hX : aOK X G own cc nL ret fr lo) {pc pc' : Nat} {lv : List (Option Value)} {st : List Value} {Z : aZ} {Y : aY} {q : Fin 4} {i : Nat} (hi : (q : Nat) = i) {x : Int64} (hn : i + 1 < nL) (h1 : ∀ j, i = j + 1 → aC1 (lv.getD j none) = true) (hdg : decode cc pc = .ok (.lstore_n q, 1)) (hp : pc + 1 = pc') (k : AW X G pc' ((lv.set i (some (.long x))).set (i + 1) none) st Z Y) : AW X G pc lv (.long x :: st) Z Y := by
  obtain ⟨p, l, e, R, s, m, args, below, meth, c, A, cs, sl, Q⟩ := X
  obtain ⟨hx, hb, hml, hown, hts, hK, hA, hlk, hr, hR, hSt⟩ := hX
  subst hp
  intro H locs ls hL hP hD hS
  refine lv_lstore_n hx hb hdg hi (aLoc_has hL) (by rw [hml]; exact hn) rfl (fun ls' h' => ?_)
  exact k H locs ls' (aLoc_put2 h' (aC1_of h1)) hP hD hS
theorem a_lstore0 {X : aX} {G : aG} {own : String} {cc : ByteArray} {nL : Nat} {ret : Option FieldType} {fr lo : Nat} (hX : aOK X G own cc nL ret fr lo) {pc pc' : Nat} {st : List Value} {Z : aZ} {Y : aY} {u u2 : Option Value} {t : List (Option Value)} {q : Fin 4} (hi : (q : Nat) = 0) {x : Int64} (hn : 0 + 1 < nL)  (hdg : decode cc pc = .ok (.lstore_n q, 1)) (hp : pc + 1 = pc') (k : AW X G pc' (some (.long x) :: none :: t) st Z Y) : AW X G pc (u :: u2 :: t) (.long x :: st) Z Y :=
  a_lstoreG_n hX (lv := u :: u2 :: t) hi hn (by intro j hj; omega) hdg hp k
theorem a_lstore1 {X : aX} {G : aG} {own : String} {cc : ByteArray} {nL : Nat} {ret : Option FieldType} {fr lo : Nat} (hX : aOK X G own cc nL ret fr lo) {pc pc' : Nat} {st : List Value} {Z : aZ} {Y : aY} {v0 u u2 : Option Value} {t : List (Option Value)} {q : Fin 4} (hi : (q : Nat) = 1) {x : Int64} (hn : 1 + 1 < nL) (hc : aC1 v0 = true) (hdg : decode cc pc = .ok (.lstore_n q, 1)) (hp : pc + 1 = pc') (k : AW X G pc' (v0 :: some (.long x) :: none :: t) st Z Y) : AW X G pc (v0 :: u :: u2 :: t) (.long x :: st) Z Y :=
  a_lstoreG_n hX (lv := v0 :: u :: u2 :: t) hi hn (by intro j hj; have e : j = 0 := (by omega); subst e; exact hc) hdg hp k
theorem a_lstore2 {X : aX} {G : aG} {own : String} {cc : ByteArray} {nL : Nat} {ret : Option FieldType} {fr lo : Nat} (hX : aOK X G own cc nL ret fr lo) {pc pc' : Nat} {st : List Value} {Z : aZ} {Y : aY} {v0 v1 u u2 : Option Value} {t : List (Option Value)} {q : Fin 4} (hi : (q : Nat) = 2) {x : Int64} (hn : 2 + 1 < nL) (hc : aC1 v1 = true) (hdg : decode cc pc = .ok (.lstore_n q, 1)) (hp : pc + 1 = pc') (k : AW X G pc' (v0 :: v1 :: some (.long x) :: none :: t) st Z Y) : AW X G pc (v0 :: v1 :: u :: u2 :: t) (.long x :: st) Z Y :=
  a_lstoreG_n hX (lv := v0 :: v1 :: u :: u2 :: t) hi hn (by intro j hj; have e : j = 1 := (by omega); subst e; exact hc) hdg hp k
theorem a_lstore3 {X : aX} {G : aG} {own : String} {cc : ByteArray} {nL : Nat} {ret : Option FieldType} {fr lo : Nat} (hX : aOK X G own cc nL ret fr lo) {pc pc' : Nat} {st : List Value} {Z : aZ} {Y : aY} {v0 v1 v2 u u2 : Option Value} {t : List (Option Value)} {q : Fin 4} (hi : (q : Nat) = 3) {x : Int64} (hn : 3 + 1 < nL) (hc : aC1 v2 = true) (hdg : decode cc pc = .ok (.lstore_n q, 1)) (hp : pc + 1 = pc') (k : AW X G pc' (v0 :: v1 :: v2 :: some (.long x) :: none :: t) st Z Y) : AW X G pc (v0 :: v1 :: v2 :: u :: u2 :: t) (.long x :: st) Z Y :=
  a_lstoreG_n hX (lv := v0 :: v1 :: v2 :: u :: u2 :: t) hi hn (by intro j hj; have e : j = 2 := (by omega); subst e; exact hc) hdg hp k
theorem a_lstoreG {X : aX} {G : aG} {own : String} {cc : ByteArray} {nL : Nat} {ret : Option FieldType} {fr lo : Nat} (hX : aOK X G own cc nL ret fr lo) {pc pc' : Nat} {lv : List (Option Value)} {st : List Value} {Z : aZ} {Y : aY} {i : Nat} {x : Int64} (hn : i + 1 < nL) (h1 : ∀ j, i = j + 1 → aC1 (lv.getD j none) = true) (hdg : decode cc pc = .ok (.lstore i, 2)) (hp : pc + 2 = pc') (k : AW X G pc' ((lv.set i (some (.long x))).set (i + 1) none) st Z Y) : AW X G pc lv (.long x :: st) Z Y := by
  obtain ⟨p, l, e, R, s, m, args, below, meth, c, A, cs, sl, Q⟩ := X
  obtain ⟨hx, hb, hml, hown, hts, hK, hA, hlk, hr, hR, hSt⟩ := hX
  subst hp
  intro H locs ls hL hP hD hS
  refine lv_lstore hx hb hdg (aLoc_has hL) (by rw [hml]; exact hn) rfl (fun ls' h' => ?_)
  exact k H locs ls' (aLoc_put2 h' (aC1_of h1)) hP hD hS
theorem a_lstore4 {X : aX} {G : aG} {own : String} {cc : ByteArray} {nL : Nat} {ret : Option FieldType} {fr lo : Nat} (hX : aOK X G own cc nL ret fr lo) {pc pc' : Nat} {st : List Value} {Z : aZ} {Y : aY} {v0 v1 v2 v3 u u2 : Option Value} {t : List (Option Value)}  {x : Int64} (hn : 4 + 1 < nL) (hc : aC1 v3 = true) (hdg : decode cc pc = .ok (.lstore 4, 2)) (hp : pc + 2 = pc') (k : AW X G pc' (v0 :: v1 :: v2 :: v3 :: some (.long x) :: none :: t) st Z Y) : AW X G pc (v0 :: v1 :: v2 :: v3 :: u :: u2 :: t) (.long x :: st) Z Y :=
  a_lstoreG hX (lv := v0 :: v1 :: v2 :: v3 :: u :: u2 :: t)  hn (by intro j hj; have e : j = 3 := (by omega); subst e; exact hc) hdg hp k
theorem a_lstore5 {X : aX} {G : aG} {own : String} {cc : ByteArray} {nL : Nat} {ret : Option FieldType} {fr lo : Nat} (hX : aOK X G own cc nL ret fr lo) {pc pc' : Nat} {st : List Value} {Z : aZ} {Y : aY} {v0 v1 v2 v3 v4 u u2 : Option Value} {t : List (Option Value)}  {x : Int64} (hn : 5 + 1 < nL) (hc : aC1 v4 = true) (hdg : decode cc pc = .ok (.lstore 5, 2)) (hp : pc + 2 = pc') (k : AW X G pc' (v0 :: v1 :: v2 :: v3 :: v4 :: some (.long x) :: none :: t) st Z Y) : AW X G pc (v0 :: v1 :: v2 :: v3 :: v4 :: u :: u2 :: t) (.long x :: st) Z Y :=
  a_lstoreG hX (lv := v0 :: v1 :: v2 :: v3 :: v4 :: u :: u2 :: t)  hn (by intro j hj; have e : j = 4 := (by omega); subst e; exact hc) hdg hp k
theorem a_lstore6 {X : aX} {G : aG} {own : String} {cc : ByteArray} {nL : Nat} {ret : Option FieldType} {fr lo : Nat} (hX : aOK X G own cc nL ret fr lo) {pc pc' : Nat} {st : List Value} {Z : aZ} {Y : aY} {v0 v1 v2 v3 v4 v5 u u2 : Option Value} {t : List (Option Value)}  {x : Int64} (hn : 6 + 1 < nL) (hc : aC1 v5 = true) (hdg : decode cc pc = .ok (.lstore 6, 2)) (hp : pc + 2 = pc') (k : AW X G pc' (v0 :: v1 :: v2 :: v3 :: v4 :: v5 :: some (.long x) :: none :: t) st Z Y) : AW X G pc (v0 :: v1 :: v2 :: v3 :: v4 :: v5 :: u :: u2 :: t) (.long x :: st) Z Y :=
  a_lstoreG hX (lv := v0 :: v1 :: v2 :: v3 :: v4 :: v5 :: u :: u2 :: t)  hn (by intro j hj; have e : j = 5 := (by omega); subst e; exact hc) hdg hp k
theorem a_lstore7 {X : aX} {G : aG} {own : String} {cc : ByteArray} {nL : Nat} {ret : Option FieldType} {fr lo : Nat} (hX : aOK X G own cc nL ret fr lo) {pc pc' : Nat} {st : List Value} {Z : aZ} {Y : aY} {v0 v1 v2 v3 v4 v5 v6 u u2 : Option Value} {t : List (Option Value)}  {x : Int64} (hn : 7 + 1 < nL) (hc : aC1 v6 = true) (hdg : decode cc pc = .ok (.lstore 7, 2)) (hp : pc + 2 = pc') (k : AW X G pc' (v0 :: v1 :: v2 :: v3 :: v4 :: v5 :: v6 :: some (.long x) :: none :: t) st Z Y) : AW X G pc (v0 :: v1 :: v2 :: v3 :: v4 :: v5 :: v6 :: u :: u2 :: t) (.long x :: st) Z Y :=
  a_lstoreG hX (lv := v0 :: v1 :: v2 :: v3 :: v4 :: v5 :: v6 :: u :: u2 :: t)  hn (by intro j hj; have e : j = 6 := (by omega); subst e; exact hc) hdg hp k
theorem a_lstore8 {X : aX} {G : aG} {own : String} {cc : ByteArray} {nL : Nat} {ret : Option FieldType} {fr lo : Nat} (hX : aOK X G own cc nL ret fr lo) {pc pc' : Nat} {st : List Value} {Z : aZ} {Y : aY} {v0 v1 v2 v3 v4 v5 v6 v7 u u2 : Option Value} {t : List (Option Value)}  {x : Int64} (hn : 8 + 1 < nL) (hc : aC1 v7 = true) (hdg : decode cc pc = .ok (.lstore 8, 2)) (hp : pc + 2 = pc') (k : AW X G pc' (v0 :: v1 :: v2 :: v3 :: v4 :: v5 :: v6 :: v7 :: some (.long x) :: none :: t) st Z Y) : AW X G pc (v0 :: v1 :: v2 :: v3 :: v4 :: v5 :: v6 :: v7 :: u :: u2 :: t) (.long x :: st) Z Y :=
  a_lstoreG hX (lv := v0 :: v1 :: v2 :: v3 :: v4 :: v5 :: v6 :: v7 :: u :: u2 :: t)  hn (by intro j hj; have e : j = 7 := (by omega); subst e; exact hc) hdg hp k
theorem a_lstore9 {X : aX} {G : aG} {own : String} {cc : ByteArray} {nL : Nat} {ret : Option FieldType} {fr lo : Nat} (hX : aOK X G own cc nL ret fr lo) {pc pc' : Nat} {st : List Value} {Z : aZ} {Y : aY} {v0 v1 v2 v3 v4 v5 v6 v7 v8 u u2 : Option Value} {t : List (Option Value)}  {x : Int64} (hn : 9 + 1 < nL) (hc : aC1 v8 = true) (hdg : decode cc pc = .ok (.lstore 9, 2)) (hp : pc + 2 = pc') (k : AW X G pc' (v0 :: v1 :: v2 :: v3 :: v4 :: v5 :: v6 :: v7 :: v8 :: some (.long x) :: none :: t) st Z Y) : AW X G pc (v0 :: v1 :: v2 :: v3 :: v4 :: v5 :: v6 :: v7 :: v8 :: u :: u2 :: t) (.long x :: st) Z Y :=
  a_lstoreG hX (lv := v0 :: v1 :: v2 :: v3 :: v4 :: v5 :: v6 :: v7 :: v8 :: u :: u2 :: t)  hn (by intro j hj; have e : j = 8 := (by omega); subst e; exact hc) hdg hp k
theorem a_lstore10 {X : aX} {G : aG} {own : String} {cc : ByteArray} {nL : Nat} {ret : Option FieldType} {fr lo : Nat} (hX : aOK X G own cc nL ret fr lo) {pc pc' : Nat} {st : List Value} {Z : aZ} {Y : aY} {v0 v1 v2 v3 v4 v5 v6 v7 v8 v9 u u2 : Option Value} {t : List (Option Value)}  {x : Int64} (hn : 10 + 1 < nL) (hc : aC1 v9 = true) (hdg : decode cc pc = .ok (.lstore 10, 2)) (hp : pc + 2 = pc') (k : AW X G pc' (v0 :: v1 :: v2 :: v3 :: v4 :: v5 :: v6 :: v7 :: v8 :: v9 :: some (.long x) :: none :: t) st Z Y) : AW X G pc (v0 :: v1 :: v2 :: v3 :: v4 :: v5 :: v6 :: v7 :: v8 :: v9 :: u :: u2 :: t) (.long x :: st) Z Y :=
  a_lstoreG hX (lv := v0 :: v1 :: v2 :: v3 :: v4 :: v5 :: v6 :: v7 :: v8 :: v9 :: u :: u2 :: t)  hn (by intro j hj; have e : j = 9 := (by omega); subst e; exact hc) hdg hp k
theorem a_lstore11 {X : aX} {G : aG} {own : String} {cc : ByteArray} {nL : Nat} {ret : Option FieldType} {fr lo : Nat} (hX : aOK X G own cc nL ret fr lo) {pc pc' : Nat} {st : List Value} {Z : aZ} {Y : aY} {v0 v1 v2 v3 v4 v5 v6 v7 v8 v9 v10 u u2 : Option Value} {t : List (Option Value)}  {x : Int64} (hn : 11 + 1 < nL) (hc : aC1 v10 = true) (hdg : decode cc pc = .ok (.lstore 11, 2)) (hp : pc + 2 = pc') (k : AW X G pc' (v0 :: v1 :: v2 :: v3 :: v4 :: v5 :: v6 :: v7 :: v8 :: v9 :: v10 :: some (.long x) :: none :: t) st Z Y) : AW X G pc (v0 :: v1 :: v2 :: v3 :: v4 :: v5 :: v6 :: v7 :: v8 :: v9 :: v10 :: u :: u2 :: t) (.long x :: st) Z Y :=
  a_lstoreG hX (lv := v0 :: v1 :: v2 :: v3 :: v4 :: v5 :: v6 :: v7 :: v8 :: v9 :: v10 :: u :: u2 :: t)  hn (by intro j hj; have e : j = 10 := (by omega); subst e; exact hc) hdg hp k
theorem a_lstore12 {X : aX} {G : aG} {own : String} {cc : ByteArray} {nL : Nat} {ret : Option FieldType} {fr lo : Nat} (hX : aOK X G own cc nL ret fr lo) {pc pc' : Nat} {st : List Value} {Z : aZ} {Y : aY} {v0 v1 v2 v3 v4 v5 v6 v7 v8 v9 v10 v11 u u2 : Option Value} {t : List (Option Value)}  {x : Int64} (hn : 12 + 1 < nL) (hc : aC1 v11 = true) (hdg : decode cc pc = .ok (.lstore 12, 2)) (hp : pc + 2 = pc') (k : AW X G pc' (v0 :: v1 :: v2 :: v3 :: v4 :: v5 :: v6 :: v7 :: v8 :: v9 :: v10 :: v11 :: some (.long x) :: none :: t) st Z Y) : AW X G pc (v0 :: v1 :: v2 :: v3 :: v4 :: v5 :: v6 :: v7 :: v8 :: v9 :: v10 :: v11 :: u :: u2 :: t) (.long x :: st) Z Y :=
  a_lstoreG hX (lv := v0 :: v1 :: v2 :: v3 :: v4 :: v5 :: v6 :: v7 :: v8 :: v9 :: v10 :: v11 :: u :: u2 :: t)  hn (by intro j hj; have e : j = 11 := (by omega); subst e; exact hc) hdg hp k
theorem a_lstore13 {X : aX} {G : aG} {own : String} {cc : ByteArray} {nL : Nat} {ret : Option FieldType} {fr lo : Nat} (hX : aOK X G own cc nL ret fr lo) {pc pc' : Nat} {st : List Value} {Z : aZ} {Y : aY} {v0 v1 v2 v3 v4 v5 v6 v7 v8 v9 v10 v11 v12 u u2 : Option Value} {t : List (Option Value)}  {x : Int64} (hn : 13 + 1 < nL) (hc : aC1 v12 = true) (hdg : decode cc pc = .ok (.lstore 13, 2)) (hp : pc + 2 = pc') (k : AW X G pc' (v0 :: v1 :: v2 :: v3 :: v4 :: v5 :: v6 :: v7 :: v8 :: v9 :: v10 :: v11 :: v12 :: some (.long x) :: none :: t) st Z Y) : AW X G pc (v0 :: v1 :: v2 :: v3 :: v4 :: v5 :: v6 :: v7 :: v8 :: v9 :: v10 :: v11 :: v12 :: u :: u2 :: t) (.long x :: st) Z Y :=
  a_lstoreG hX (lv := v0 :: v1 :: v2 :: v3 :: v4 :: v5 :: v6 :: v7 :: v8 :: v9 :: v10 :: v11 :: v12 :: u :: u2 :: t)  hn (by intro j hj; have e : j = 12 := (by omega); subst e; exact hc) hdg hp k
theorem a_iincG {X : aX} {G : aG} {own : String} {cc : ByteArray} {nL : Nat} {ret : Option FieldType} {fr lo : Nat} (hX : aOK X G own cc nL ret fr lo) {pc pc' : Nat} {lv : List (Option Value)} {st : List Value} {Z : aZ} {Y : aY} {i : Nat} {n x : Int} (hl : lv[i]? = some (some (.int (aI x)))) (hn : i < nL) (hdg : decode cc pc = .ok (.iinc i n, 3)) (hp : pc + 3 = pc') (h1 : ∀ j, i = j + 1 → aC1 (lv.getD j none) = true) (k : AW X G pc' (lv.set i (some (.int (aI (x + n))))) st Z Y) : AW X G pc lv st Z Y := by
  obtain ⟨p, l, e, R, s, m, args, below, meth, c, A, cs, sl, Q⟩ := X
  obtain ⟨hx, hb, hml, hown, hts, hK, hA, hlk, hr, hR, hSt⟩ := hX
  subst hp
  intro H locs ls hL hP hD hS
  have hh : lv_has ls c.maxLocals ((i, Value.int (aI x)) :: aPr lv) := ⟨hL.1, hL.2.1, fun q hq => by
    rcases List.mem_cons.mp hq with rfl | hq
    · exact hL.2.2 _ _ hl
    · exact hL.2.2 q.1 q.2 (aPr_mem.mp hq)⟩
  refine lv_iinc (v := aI (x + n)) hx hb hdg hh (k := 0) rfl (by rw [← aI_add]; rfl) (by rw [hml]; exact hn) rfl (fun ls' h' => ?_)
  refine k H locs ls' (aLoc_put (lv := lv) (lv_sub h' [0] rfl |> fun _ => ⟨h'.1, h'.2.1, fun q hq => h'.2.2 q ?_⟩) (aC1_of h1)) hP hD hS
  rcases List.mem_cons.mp hq with rfl | hq
  · exact List.mem_cons_self
  · exact List.mem_cons_of_mem _ (List.mem_filter.mpr ⟨List.mem_cons_of_mem _ (List.mem_filter.mp hq).1, (List.mem_filter.mp hq).2⟩)
theorem a_iinc0 {X : aX} {G : aG} {own : String} {cc : ByteArray} {nL : Nat} {ret : Option FieldType} {fr lo : Nat} (hX : aOK X G own cc nL ret fr lo) {pc pc' : Nat} {st : List Value} {Z : aZ} {Y : aY} {t : List (Option Value)} {n x : Int} (hn : 0 < nL)  (hdg : decode cc pc = .ok (.iinc 0 n, 3)) (hp : pc + 3 = pc') (k : AW X G pc' (some (.int (aI (x + n))) :: t) st Z Y) : AW X G pc (some (.int (aI x)) :: t) st Z Y :=
  a_iincG hX (lv := some (.int (aI x)) :: t) (x := x) rfl hn hdg hp (by intro j hj; omega) k
theorem a_iinc1 {X : aX} {G : aG} {own : String} {cc : ByteArray} {nL : Nat} {ret : Option FieldType} {fr lo : Nat} (hX : aOK X G own cc nL ret fr lo) {pc pc' : Nat} {st : List Value} {Z : aZ} {Y : aY} {v0 : Option Value} {t : List (Option Value)} {n x : Int} (hn : 1 < nL) (hc : aC1 v0 = true) (hdg : decode cc pc = .ok (.iinc 1 n, 3)) (hp : pc + 3 = pc') (k : AW X G pc' (v0 :: some (.int (aI (x + n))) :: t) st Z Y) : AW X G pc (v0 :: some (.int (aI x)) :: t) st Z Y :=
  a_iincG hX (lv := v0 :: some (.int (aI x)) :: t) (x := x) rfl hn hdg hp (by intro j hj; have e : j = 0 := (by omega); subst e; exact hc) k
theorem a_iinc2 {X : aX} {G : aG} {own : String} {cc : ByteArray} {nL : Nat} {ret : Option FieldType} {fr lo : Nat} (hX : aOK X G own cc nL ret fr lo) {pc pc' : Nat} {st : List Value} {Z : aZ} {Y : aY} {v0 v1 : Option Value} {t : List (Option Value)} {n x : Int} (hn : 2 < nL) (hc : aC1 v1 = true) (hdg : decode cc pc = .ok (.iinc 2 n, 3)) (hp : pc + 3 = pc') (k : AW X G pc' (v0 :: v1 :: some (.int (aI (x + n))) :: t) st Z Y) : AW X G pc (v0 :: v1 :: some (.int (aI x)) :: t) st Z Y :=
  a_iincG hX (lv := v0 :: v1 :: some (.int (aI x)) :: t) (x := x) rfl hn hdg hp (by intro j hj; have e : j = 1 := (by omega); subst e; exact hc) k
theorem a_iinc3 {X : aX} {G : aG} {own : String} {cc : ByteArray} {nL : Nat} {ret : Option FieldType} {fr lo : Nat} (hX : aOK X G own cc nL ret fr lo) {pc pc' : Nat} {st : List Value} {Z : aZ} {Y : aY} {v0 v1 v2 : Option Value} {t : List (Option Value)} {n x : Int} (hn : 3 < nL) (hc : aC1 v2 = true) (hdg : decode cc pc = .ok (.iinc 3 n, 3)) (hp : pc + 3 = pc') (k : AW X G pc' (v0 :: v1 :: v2 :: some (.int (aI (x + n))) :: t) st Z Y) : AW X G pc (v0 :: v1 :: v2 :: some (.int (aI x)) :: t) st Z Y :=
  a_iincG hX (lv := v0 :: v1 :: v2 :: some (.int (aI x)) :: t) (x := x) rfl hn hdg hp (by intro j hj; have e : j = 2 := (by omega); subst e; exact hc) k
theorem a_iinc4 {X : aX} {G : aG} {own : String} {cc : ByteArray} {nL : Nat} {ret : Option FieldType} {fr lo : Nat} (hX : aOK X G own cc nL ret fr lo) {pc pc' : Nat} {st : List Value} {Z : aZ} {Y : aY} {v0 v1 v2 v3 : Option Value} {t : List (Option Value)} {n x : Int} (hn : 4 < nL) (hc : aC1 v3 = true) (hdg : decode cc pc = .ok (.iinc 4 n, 3)) (hp : pc + 3 = pc') (k : AW X G pc' (v0 :: v1 :: v2 :: v3 :: some (.int (aI (x + n))) :: t) st Z Y) : AW X G pc (v0 :: v1 :: v2 :: v3 :: some (.int (aI x)) :: t) st Z Y :=
  a_iincG hX (lv := v0 :: v1 :: v2 :: v3 :: some (.int (aI x)) :: t) (x := x) rfl hn hdg hp (by intro j hj; have e : j = 3 := (by omega); subst e; exact hc) k
theorem a_iinc5 {X : aX} {G : aG} {own : String} {cc : ByteArray} {nL : Nat} {ret : Option FieldType} {fr lo : Nat} (hX : aOK X G own cc nL ret fr lo) {pc pc' : Nat} {st : List Value} {Z : aZ} {Y : aY} {v0 v1 v2 v3 v4 : Option Value} {t : List (Option Value)} {n x : Int} (hn : 5 < nL) (hc : aC1 v4 = true) (hdg : decode cc pc = .ok (.iinc 5 n, 3)) (hp : pc + 3 = pc') (k : AW X G pc' (v0 :: v1 :: v2 :: v3 :: v4 :: some (.int (aI (x + n))) :: t) st Z Y) : AW X G pc (v0 :: v1 :: v2 :: v3 :: v4 :: some (.int (aI x)) :: t) st Z Y :=
  a_iincG hX (lv := v0 :: v1 :: v2 :: v3 :: v4 :: some (.int (aI x)) :: t) (x := x) rfl hn hdg hp (by intro j hj; have e : j = 4 := (by omega); subst e; exact hc) k
theorem a_iinc6 {X : aX} {G : aG} {own : String} {cc : ByteArray} {nL : Nat} {ret : Option FieldType} {fr lo : Nat} (hX : aOK X G own cc nL ret fr lo) {pc pc' : Nat} {st : List Value} {Z : aZ} {Y : aY} {v0 v1 v2 v3 v4 v5 : Option Value} {t : List (Option Value)} {n x : Int} (hn : 6 < nL) (hc : aC1 v5 = true) (hdg : decode cc pc = .ok (.iinc 6 n, 3)) (hp : pc + 3 = pc') (k : AW X G pc' (v0 :: v1 :: v2 :: v3 :: v4 :: v5 :: some (.int (aI (x + n))) :: t) st Z Y) : AW X G pc (v0 :: v1 :: v2 :: v3 :: v4 :: v5 :: some (.int (aI x)) :: t) st Z Y :=
  a_iincG hX (lv := v0 :: v1 :: v2 :: v3 :: v4 :: v5 :: some (.int (aI x)) :: t) (x := x) rfl hn hdg hp (by intro j hj; have e : j = 5 := (by omega); subst e; exact hc) k
theorem a_iinc7 {X : aX} {G : aG} {own : String} {cc : ByteArray} {nL : Nat} {ret : Option FieldType} {fr lo : Nat} (hX : aOK X G own cc nL ret fr lo) {pc pc' : Nat} {st : List Value} {Z : aZ} {Y : aY} {v0 v1 v2 v3 v4 v5 v6 : Option Value} {t : List (Option Value)} {n x : Int} (hn : 7 < nL) (hc : aC1 v6 = true) (hdg : decode cc pc = .ok (.iinc 7 n, 3)) (hp : pc + 3 = pc') (k : AW X G pc' (v0 :: v1 :: v2 :: v3 :: v4 :: v5 :: v6 :: some (.int (aI (x + n))) :: t) st Z Y) : AW X G pc (v0 :: v1 :: v2 :: v3 :: v4 :: v5 :: v6 :: some (.int (aI x)) :: t) st Z Y :=
  a_iincG hX (lv := v0 :: v1 :: v2 :: v3 :: v4 :: v5 :: v6 :: some (.int (aI x)) :: t) (x := x) rfl hn hdg hp (by intro j hj; have e : j = 6 := (by omega); subst e; exact hc) k
theorem a_iinc8 {X : aX} {G : aG} {own : String} {cc : ByteArray} {nL : Nat} {ret : Option FieldType} {fr lo : Nat} (hX : aOK X G own cc nL ret fr lo) {pc pc' : Nat} {st : List Value} {Z : aZ} {Y : aY} {v0 v1 v2 v3 v4 v5 v6 v7 : Option Value} {t : List (Option Value)} {n x : Int} (hn : 8 < nL) (hc : aC1 v7 = true) (hdg : decode cc pc = .ok (.iinc 8 n, 3)) (hp : pc + 3 = pc') (k : AW X G pc' (v0 :: v1 :: v2 :: v3 :: v4 :: v5 :: v6 :: v7 :: some (.int (aI (x + n))) :: t) st Z Y) : AW X G pc (v0 :: v1 :: v2 :: v3 :: v4 :: v5 :: v6 :: v7 :: some (.int (aI x)) :: t) st Z Y :=
  a_iincG hX (lv := v0 :: v1 :: v2 :: v3 :: v4 :: v5 :: v6 :: v7 :: some (.int (aI x)) :: t) (x := x) rfl hn hdg hp (by intro j hj; have e : j = 7 := (by omega); subst e; exact hc) k
theorem a_iinc9 {X : aX} {G : aG} {own : String} {cc : ByteArray} {nL : Nat} {ret : Option FieldType} {fr lo : Nat} (hX : aOK X G own cc nL ret fr lo) {pc pc' : Nat} {st : List Value} {Z : aZ} {Y : aY} {v0 v1 v2 v3 v4 v5 v6 v7 v8 : Option Value} {t : List (Option Value)} {n x : Int} (hn : 9 < nL) (hc : aC1 v8 = true) (hdg : decode cc pc = .ok (.iinc 9 n, 3)) (hp : pc + 3 = pc') (k : AW X G pc' (v0 :: v1 :: v2 :: v3 :: v4 :: v5 :: v6 :: v7 :: v8 :: some (.int (aI (x + n))) :: t) st Z Y) : AW X G pc (v0 :: v1 :: v2 :: v3 :: v4 :: v5 :: v6 :: v7 :: v8 :: some (.int (aI x)) :: t) st Z Y :=
  a_iincG hX (lv := v0 :: v1 :: v2 :: v3 :: v4 :: v5 :: v6 :: v7 :: v8 :: some (.int (aI x)) :: t) (x := x) rfl hn hdg hp (by intro j hj; have e : j = 8 := (by omega); subst e; exact hc) k
theorem a_iinc10 {X : aX} {G : aG} {own : String} {cc : ByteArray} {nL : Nat} {ret : Option FieldType} {fr lo : Nat} (hX : aOK X G own cc nL ret fr lo) {pc pc' : Nat} {st : List Value} {Z : aZ} {Y : aY} {v0 v1 v2 v3 v4 v5 v6 v7 v8 v9 : Option Value} {t : List (Option Value)} {n x : Int} (hn : 10 < nL) (hc : aC1 v9 = true) (hdg : decode cc pc = .ok (.iinc 10 n, 3)) (hp : pc + 3 = pc') (k : AW X G pc' (v0 :: v1 :: v2 :: v3 :: v4 :: v5 :: v6 :: v7 :: v8 :: v9 :: some (.int (aI (x + n))) :: t) st Z Y) : AW X G pc (v0 :: v1 :: v2 :: v3 :: v4 :: v5 :: v6 :: v7 :: v8 :: v9 :: some (.int (aI x)) :: t) st Z Y :=
  a_iincG hX (lv := v0 :: v1 :: v2 :: v3 :: v4 :: v5 :: v6 :: v7 :: v8 :: v9 :: some (.int (aI x)) :: t) (x := x) rfl hn hdg hp (by intro j hj; have e : j = 9 := (by omega); subst e; exact hc) k
theorem a_iinc11 {X : aX} {G : aG} {own : String} {cc : ByteArray} {nL : Nat} {ret : Option FieldType} {fr lo : Nat} (hX : aOK X G own cc nL ret fr lo) {pc pc' : Nat} {st : List Value} {Z : aZ} {Y : aY} {v0 v1 v2 v3 v4 v5 v6 v7 v8 v9 v10 : Option Value} {t : List (Option Value)} {n x : Int} (hn : 11 < nL) (hc : aC1 v10 = true) (hdg : decode cc pc = .ok (.iinc 11 n, 3)) (hp : pc + 3 = pc') (k : AW X G pc' (v0 :: v1 :: v2 :: v3 :: v4 :: v5 :: v6 :: v7 :: v8 :: v9 :: v10 :: some (.int (aI (x + n))) :: t) st Z Y) : AW X G pc (v0 :: v1 :: v2 :: v3 :: v4 :: v5 :: v6 :: v7 :: v8 :: v9 :: v10 :: some (.int (aI x)) :: t) st Z Y :=
  a_iincG hX (lv := v0 :: v1 :: v2 :: v3 :: v4 :: v5 :: v6 :: v7 :: v8 :: v9 :: v10 :: some (.int (aI x)) :: t) (x := x) rfl hn hdg hp (by intro j hj; have e : j = 10 := (by omega); subst e; exact hc) k
theorem a_iinc12 {X : aX} {G : aG} {own : String} {cc : ByteArray} {nL : Nat} {ret : Option FieldType} {fr lo : Nat} (hX : aOK X G own cc nL ret fr lo) {pc pc' : Nat} {st : List Value} {Z : aZ} {Y : aY} {v0 v1 v2 v3 v4 v5 v6 v7 v8 v9 v10 v11 : Option Value} {t : List (Option Value)} {n x : Int} (hn : 12 < nL) (hc : aC1 v11 = true) (hdg : decode cc pc = .ok (.iinc 12 n, 3)) (hp : pc + 3 = pc') (k : AW X G pc' (v0 :: v1 :: v2 :: v3 :: v4 :: v5 :: v6 :: v7 :: v8 :: v9 :: v10 :: v11 :: some (.int (aI (x + n))) :: t) st Z Y) : AW X G pc (v0 :: v1 :: v2 :: v3 :: v4 :: v5 :: v6 :: v7 :: v8 :: v9 :: v10 :: v11 :: some (.int (aI x)) :: t) st Z Y :=
  a_iincG hX (lv := v0 :: v1 :: v2 :: v3 :: v4 :: v5 :: v6 :: v7 :: v8 :: v9 :: v10 :: v11 :: some (.int (aI x)) :: t) (x := x) rfl hn hdg hp (by intro j hj; have e : j = 11 := (by omega); subst e; exact hc) k
theorem a_iinc13 {X : aX} {G : aG} {own : String} {cc : ByteArray} {nL : Nat} {ret : Option FieldType} {fr lo : Nat} (hX : aOK X G own cc nL ret fr lo) {pc pc' : Nat} {st : List Value} {Z : aZ} {Y : aY} {v0 v1 v2 v3 v4 v5 v6 v7 v8 v9 v10 v11 v12 : Option Value} {t : List (Option Value)} {n x : Int} (hn : 13 < nL) (hc : aC1 v12 = true) (hdg : decode cc pc = .ok (.iinc 13 n, 3)) (hp : pc + 3 = pc') (k : AW X G pc' (v0 :: v1 :: v2 :: v3 :: v4 :: v5 :: v6 :: v7 :: v8 :: v9 :: v10 :: v11 :: v12 :: some (.int (aI (x + n))) :: t) st Z Y) : AW X G pc (v0 :: v1 :: v2 :: v3 :: v4 :: v5 :: v6 :: v7 :: v8 :: v9 :: v10 :: v11 :: v12 :: some (.int (aI x)) :: t) st Z Y :=
  a_iincG hX (lv := v0 :: v1 :: v2 :: v3 :: v4 :: v5 :: v6 :: v7 :: v8 :: v9 :: v10 :: v11 :: v12 :: some (.int (aI x)) :: t) (x := x) rfl hn hdg hp (by intro j hj; have e : j = 12 := (by omega); subst e; exact hc) k
theorem a_iadd {X : aX} {G : aG} {own : String} {cc : ByteArray} {nL : Nat} {ret : Option FieldType} {fr lo : Nat} (hX : aOK X G own cc nL ret fr lo) {pc pc' : Nat} {lv : List (Option Value)} {st : List Value} {Z : aZ} {Y : aY} {x y : Int} (hdg : decode cc pc = .ok (.iadd, 1)) (hp : pc + 1 = pc') (k : AW X G pc' lv (.int (aI (x + y)) :: st) Z Y) : AW X G pc lv (.int (aI y) :: .int (aI x) :: st) Z Y := by
  obtain ⟨p, l, e, R, s, m, args, below, meth, c, A, cs, sl, Q⟩ := X
  obtain ⟨hx, hb, hml, hown, hts, hK, hA, hlk, hr, hR, hSt⟩ := hX
  subst hp
  intro H locs ls hL hP hD hS
  refine lv_iadd hx hb hdg ?_
  rw [aI_add]
  exact k H locs ls hL hP hD hS

theorem a_isub {X : aX} {G : aG} {own : String} {cc : ByteArray} {nL : Nat} {ret : Option FieldType} {fr lo : Nat} (hX : aOK X G own cc nL ret fr lo) {pc pc' : Nat} {lv : List (Option Value)} {st : List Value} {Z : aZ} {Y : aY} {x y : Int} (hdg : decode cc pc = .ok (.isub, 1)) (hp : pc + 1 = pc') (k : AW X G pc' lv (.int (aI (x - y)) :: st) Z Y) : AW X G pc lv (.int (aI y) :: .int (aI x) :: st) Z Y := by
  obtain ⟨p, l, e, R, s, m, args, below, meth, c, A, cs, sl, Q⟩ := X
  obtain ⟨hx, hb, hml, hown, hts, hK, hA, hlk, hr, hR, hSt⟩ := hX
  subst hp
  intro H locs ls hL hP hD hS
  refine lv_isub hx hb hdg ?_
  rw [aI_sub]
  exact k H locs ls hL hP hD hS

theorem a_imul {X : aX} {G : aG} {own : String} {cc : ByteArray} {nL : Nat} {ret : Option FieldType} {fr lo : Nat} (hX : aOK X G own cc nL ret fr lo) {pc pc' : Nat} {lv : List (Option Value)} {st : List Value} {Z : aZ} {Y : aY} {x y : Int} (hdg : decode cc pc = .ok (.imul, 1)) (hp : pc + 1 = pc') (k : AW X G pc' lv (.int (aI (x * y)) :: st) Z Y) : AW X G pc lv (.int (aI y) :: .int (aI x) :: st) Z Y := by
  obtain ⟨p, l, e, R, s, m, args, below, meth, c, A, cs, sl, Q⟩ := X
  obtain ⟨hx, hb, hml, hown, hts, hK, hA, hlk, hr, hR, hSt⟩ := hX
  subst hp
  intro H locs ls hL hP hD hS
  refine lv_imul hx hb hdg ?_
  rw [aI_mul]
  exact k H locs ls hL hP hD hS

theorem a_ineg {X : aX} {G : aG} {own : String} {cc : ByteArray} {nL : Nat} {ret : Option FieldType} {fr lo : Nat} (hX : aOK X G own cc nL ret fr lo) {pc pc' : Nat} {lv : List (Option Value)} {st : List Value} {Z : aZ} {Y : aY} {x : Int} (hdg : decode cc pc = .ok (.ineg, 1)) (hp : pc + 1 = pc') (k : AW X G pc' lv (.int (aI (-x)) :: st) Z Y) : AW X G pc lv (.int (aI x) :: st) Z Y := by
  obtain ⟨p, l, e, R, s, m, args, below, meth, c, A, cs, sl, Q⟩ := X
  obtain ⟨hx, hb, hml, hown, hts, hK, hA, hlk, hr, hR, hSt⟩ := hX
  subst hp
  intro H locs ls hL hP hD hS
  refine lv_ineg hx hb hdg ?_
  rw [aI_neg]
  exact k H locs ls hL hP hD hS

theorem a_idiv {X : aX} {G : aG} {own : String} {cc : ByteArray} {nL : Nat} {ret : Option FieldType} {fr lo : Nat} (hX : aOK X G own cc nL ret fr lo) {pc pc' : Nat} {lv : List (Option Value)} {st : List Value} {Z : aZ} {Y : aY} {x y : Int} (h1 : 0 ≤ x ∧ x < 2147483648) (h2 : 0 < y ∧ y < 2147483648) (hdg : decode cc pc = .ok (.idiv, 1)) (hp : pc + 1 = pc') (k : AW X G pc' lv (.int (aI (x / y)) :: st) Z Y) : AW X G pc lv (.int (aI y) :: .int (aI x) :: st) Z Y := by
  obtain ⟨p, l, e, R, s, m, args, below, meth, c, A, cs, sl, Q⟩ := X
  obtain ⟨hx, hb, hml, hown, hts, hK, hA, hlk, hr, hR, hSt⟩ := hX
  subst hp
  intro H locs ls hL hP hD hS
  refine lv_idiv hx hb hdg (aI_ne0 (by omega)) ?_
  rw [aI_div h1 h2]
  exact k H locs ls hL hP hD hS

theorem a_irem {X : aX} {G : aG} {own : String} {cc : ByteArray} {nL : Nat} {ret : Option FieldType} {fr lo : Nat} (hX : aOK X G own cc nL ret fr lo) {pc pc' : Nat} {lv : List (Option Value)} {st : List Value} {Z : aZ} {Y : aY} {x y : Int} (h1 : 0 ≤ x ∧ x < 2147483648) (h2 : 0 < y ∧ y < 2147483648) (hdg : decode cc pc = .ok (.irem, 1)) (hp : pc + 1 = pc') (k : AW X G pc' lv (.int (aI (x % y)) :: st) Z Y) : AW X G pc lv (.int (aI y) :: .int (aI x) :: st) Z Y := by
  obtain ⟨p, l, e, R, s, m, args, below, meth, c, A, cs, sl, Q⟩ := X
  obtain ⟨hx, hb, hml, hown, hts, hK, hA, hlk, hr, hR, hSt⟩ := hX
  subst hp
  intro H locs ls hL hP hD hS
  refine lv_irem hx hb hdg (aI_ne0 (by omega)) ?_
  rw [aI_rem h1 h2]
  exact k H locs ls hL hP hD hS

theorem a_ishl {X : aX} {G : aG} {own : String} {cc : ByteArray} {nL : Nat} {ret : Option FieldType} {fr lo : Nat} (hX : aOK X G own cc nL ret fr lo) {pc pc' : Nat} {lv : List (Option Value)} {st : List Value} {Z : aZ} {Y : aY} {x y : Int} (h1 : 0 ≤ x) (h2 : 0 ≤ y ∧ y < 31) (h3 : x * 2 ^ y.toNat < 2147483648) (hdg : decode cc pc = .ok (.ishl, 1)) (hp : pc + 1 = pc') (k : AW X G pc' lv (.int (aI (x * 2 ^ y.toNat)) :: st) Z Y) : AW X G pc lv (.int (aI y) :: .int (aI x) :: st) Z Y := by
  obtain ⟨p, l, e, R, s, m, args, below, meth, c, A, cs, sl, Q⟩ := X
  obtain ⟨hx, hb, hml, hown, hts, hK, hA, hlk, hr, hR, hSt⟩ := hX
  subst hp
  intro H locs ls hL hP hD hS
  refine lv_ishl hx hb hdg ?_
  rw [aI_shl h1 h2 h3]
  exact k H locs ls hL hP hD hS

theorem a_ishr {X : aX} {G : aG} {own : String} {cc : ByteArray} {nL : Nat} {ret : Option FieldType} {fr lo : Nat} (hX : aOK X G own cc nL ret fr lo) {pc pc' : Nat} {lv : List (Option Value)} {st : List Value} {Z : aZ} {Y : aY} {x y : Int} (h1 : 0 ≤ x ∧ x < 2147483648) (h2 : 0 ≤ y ∧ y < 32) (hdg : decode cc pc = .ok (.ishr, 1)) (hp : pc + 1 = pc') (k : AW X G pc' lv (.int (aI (x / 2 ^ y.toNat)) :: st) Z Y) : AW X G pc lv (.int (aI y) :: .int (aI x) :: st) Z Y := by
  obtain ⟨p, l, e, R, s, m, args, below, meth, c, A, cs, sl, Q⟩ := X
  obtain ⟨hx, hb, hml, hown, hts, hK, hA, hlk, hr, hR, hSt⟩ := hX
  subst hp
  intro H locs ls hL hP hD hS
  refine lv_ishr hx hb hdg ?_
  rw [aI_shr h1 h2]
  exact k H locs ls hL hP hD hS

theorem a_iand {X : aX} {G : aG} {own : String} {cc : ByteArray} {nL : Nat} {ret : Option FieldType} {fr lo : Nat} (hX : aOK X G own cc nL ret fr lo) {pc pc' : Nat} {lv : List (Option Value)} {st : List Value} {Z : aZ} {Y : aY} {x y : Int} (h1 : 0 ≤ x) (h2 : 0 ≤ y) (hdg : decode cc pc = .ok (.iand, 1)) (hp : pc + 1 = pc') (k : AW X G pc' lv (.int (aI (aAnd x y)) :: st) Z Y) : AW X G pc lv (.int (aI y) :: .int (aI x) :: st) Z Y := by
  obtain ⟨p, l, e, R, s, m, args, below, meth, c, A, cs, sl, Q⟩ := X
  obtain ⟨hx, hb, hml, hown, hts, hK, hA, hlk, hr, hR, hSt⟩ := hX
  subst hp
  intro H locs ls hL hP hD hS
  refine lv_iand hx hb hdg ?_
  rw [aI_and h1 h2]
  exact k H locs ls hL hP hD hS

theorem a_ior {X : aX} {G : aG} {own : String} {cc : ByteArray} {nL : Nat} {ret : Option FieldType} {fr lo : Nat} (hX : aOK X G own cc nL ret fr lo) {pc pc' : Nat} {lv : List (Option Value)} {st : List Value} {Z : aZ} {Y : aY} {x y : Int} (h1 : 0 ≤ x) (h2 : 0 ≤ y) (hdg : decode cc pc = .ok (.ior, 1)) (hp : pc + 1 = pc') (k : AW X G pc' lv (.int (aI (aOr x y)) :: st) Z Y) : AW X G pc lv (.int (aI y) :: .int (aI x) :: st) Z Y := by
  obtain ⟨p, l, e, R, s, m, args, below, meth, c, A, cs, sl, Q⟩ := X
  obtain ⟨hx, hb, hml, hown, hts, hK, hA, hlk, hr, hR, hSt⟩ := hX
  subst hp
  intro H locs ls hL hP hD hS
  refine lv_ior hx hb hdg ?_
  rw [aI_or h1 h2]
  exact k H locs ls hL hP hD hS

theorem a_iand32 {X : aX} {G : aG} {own : String} {cc : ByteArray} {nL : Nat} {ret : Option FieldType} {fr lo : Nat} (hX : aOK X G own cc nL ret fr lo) {pc pc' : Nat} {lv : List (Option Value)} {st : List Value} {Z : aZ} {Y : aY} {x y : Int32} (hdg : decode cc pc = .ok (.iand, 1)) (hp : pc + 1 = pc') (k : AW X G pc' lv (.int (x &&& y) :: st) Z Y) : AW X G pc lv (.int y :: .int x :: st) Z Y := by
  obtain ⟨p, l, e, R, s, m, args, below, meth, c, A, cs, sl, Q⟩ := X
  obtain ⟨hx, hb, hml, hown, hts, hK, hA, hlk, hr, hR, hSt⟩ := hX
  subst hp
  intro H locs ls hL hP hD hS
  refine lv_iand hx hb hdg ?_
  exact k H locs ls hL hP hD hS

theorem a_ior32 {X : aX} {G : aG} {own : String} {cc : ByteArray} {nL : Nat} {ret : Option FieldType} {fr lo : Nat} (hX : aOK X G own cc nL ret fr lo) {pc pc' : Nat} {lv : List (Option Value)} {st : List Value} {Z : aZ} {Y : aY} {x y : Int32} (hdg : decode cc pc = .ok (.ior, 1)) (hp : pc + 1 = pc') (k : AW X G pc' lv (.int (x ||| y) :: st) Z Y) : AW X G pc lv (.int y :: .int x :: st) Z Y := by
  obtain ⟨p, l, e, R, s, m, args, below, meth, c, A, cs, sl, Q⟩ := X
  obtain ⟨hx, hb, hml, hown, hts, hK, hA, hlk, hr, hR, hSt⟩ := hX
  subst hp
  intro H locs ls hL hP hD hS
  refine lv_ior hx hb hdg ?_
  exact k H locs ls hL hP hD hS

theorem a_ixor32 {X : aX} {G : aG} {own : String} {cc : ByteArray} {nL : Nat} {ret : Option FieldType} {fr lo : Nat} (hX : aOK X G own cc nL ret fr lo) {pc pc' : Nat} {lv : List (Option Value)} {st : List Value} {Z : aZ} {Y : aY} {x y : Int32} (hdg : decode cc pc = .ok (.ixor, 1)) (hp : pc + 1 = pc') (k : AW X G pc' lv (.int (x ^^^ y) :: st) Z Y) : AW X G pc lv (.int y :: .int x :: st) Z Y := by
  obtain ⟨p, l, e, R, s, m, args, below, meth, c, A, cs, sl, Q⟩ := X
  obtain ⟨hx, hb, hml, hown, hts, hK, hA, hlk, hr, hR, hSt⟩ := hX
  subst hp
  intro H locs ls hL hP hD hS
  refine lv_ixor hx hb hdg ?_
  exact k H locs ls hL hP hD hS

theorem a_dup {X : aX} {G : aG} {own : String} {cc : ByteArray} {nL : Nat} {ret : Option FieldType} {fr lo : Nat} (hX : aOK X G own cc nL ret fr lo) {pc pc' : Nat} {lv : List (Option Value)} {st : List Value} {Z : aZ} {Y : aY} {v : Value} (hv : v.category = 1) (hdg : decode cc pc = .ok (.dup, 1)) (hp : pc + 1 = pc') (k : AW X G pc' lv (v :: v :: st) Z Y) : AW X G pc lv (v :: st) Z Y := by
  obtain ⟨p, l, e, R, s, m, args, below, meth, c, A, cs, sl, Q⟩ := X
  obtain ⟨hx, hb, hml, hown, hts, hK, hA, hlk, hr, hR, hSt⟩ := hX
  subst hp
  intro H locs ls hL hP hD hS
  refine lv_dup hx hb hdg hv ?_
  exact k H locs ls hL hP hD hS

theorem a_pop {X : aX} {G : aG} {own : String} {cc : ByteArray} {nL : Nat} {ret : Option FieldType} {fr lo : Nat} (hX : aOK X G own cc nL ret fr lo) {pc pc' : Nat} {lv : List (Option Value)} {st : List Value} {Z : aZ} {Y : aY} {v : Value} (hv : v.category = 1) (hdg : decode cc pc = .ok (.pop, 1)) (hp : pc + 1 = pc') (k : AW X G pc' lv (st) Z Y) : AW X G pc lv (v :: st) Z Y := by
  obtain ⟨p, l, e, R, s, m, args, below, meth, c, A, cs, sl, Q⟩ := X
  obtain ⟨hx, hb, hml, hown, hts, hK, hA, hlk, hr, hR, hSt⟩ := hX
  subst hp
  intro H locs ls hL hP hD hS
  refine lv_pop hx hb hdg hv ?_
  exact k H locs ls hL hP hD hS

theorem a_dup2 {X : aX} {G : aG} {own : String} {cc : ByteArray} {nL : Nat} {ret : Option FieldType} {fr lo : Nat} (hX : aOK X G own cc nL ret fr lo) {pc pc' : Nat} {lv : List (Option Value)} {st : List Value} {Z : aZ} {Y : aY} {v u : Value} (hv : v.category = 1) (hu : u.category = 1) (hdg : decode cc pc = .ok (.dup2, 1)) (hp : pc + 1 = pc') (k : AW X G pc' lv (v :: u :: v :: u :: st) Z Y) : AW X G pc lv (v :: u :: st) Z Y := by
  obtain ⟨p, l, e, R, s, m, args, below, meth, c, A, cs, sl, Q⟩ := X
  obtain ⟨hx, hb, hml, hown, hts, hK, hA, hlk, hr, hR, hSt⟩ := hX
  subst hp
  intro H locs ls hL hP hD hS
  refine lv_dup2_11 hx hb hdg hv hu ?_
  exact k H locs ls hL hP hD hS

theorem a_dup_x1 {X : aX} {G : aG} {own : String} {cc : ByteArray} {nL : Nat} {ret : Option FieldType} {fr lo : Nat} (hX : aOK X G own cc nL ret fr lo) {pc pc' : Nat} {lv : List (Option Value)} {st : List Value} {Z : aZ} {Y : aY} {v u : Value} (hv : v.category = 1) (hu : u.category = 1) (hdg : decode cc pc = .ok (.dup_x1, 1)) (hp : pc + 1 = pc') (k : AW X G pc' lv (v :: u :: v :: st) Z Y) : AW X G pc lv (v :: u :: st) Z Y := by
  obtain ⟨p, l, e, R, s, m, args, below, meth, c, A, cs, sl, Q⟩ := X
  obtain ⟨hx, hb, hml, hown, hts, hK, hA, hlk, hr, hR, hSt⟩ := hX
  subst hp
  intro H locs ls hL hP hD hS
  refine lv_dup_x1 hx hb hdg hv hu ?_
  exact k H locs ls hL hP hD hS

theorem a_icmp_eq {X : aX} {G : aG} {own : String} {cc : ByteArray} {nL : Nat} {ret : Option FieldType} {fr lo : Nat} (hX : aOK X G own cc nL ret fr lo) {pc pc' : Nat} {lv : List (Option Value)} {st : List Value} {Z : aZ} {Y : aY} {x y off : Int} {tgt : Nat} (hrx : -2147483648 ≤ x ∧ x < 2147483648) (hry : -2147483648 ≤ y ∧ y < 2147483648) (hdg : decode cc pc = .ok (.if_icmp .eq off, 3)) (hp : pc + 3 = pc') (ht : (pc : Int) + off = (tgt : Int)) (kt : x = y → AW X G tgt lv st Z Y) (kf : x ≠ y → AW X G pc' lv st Z Y) : AW X G pc lv (.int (aI y) :: .int (aI x) :: st) Z Y := by
  obtain ⟨p, l, e, R, s, m, args, below, meth, c, A, cs, sl, Q⟩ := X
  obtain ⟨hx, hb, hml, hown, hts, hK, hA, hlk, hr, hR, hSt⟩ := hX
  subst hp
  intro H locs ls hL hP hD hS
  have e0 : (0 : Int32) = aI 0 := rfl
  refine lv_icmp_eq hx hb hdg ht (fun h => ?_) (fun h => ?_)
  · refine kt ?_ H locs ls hL hP hD hS
    simp only [e0, ne_eq, ge_iff_le, gt_iff_lt, aI_lt hrx hry, aI_le hrx hry, aI_inj hrx hry, aI_lt hry hrx, aI_le hry hrx, Int.not_lt, Int.not_le, Decidable.not_not] at h ⊢
    first | exact h | omega
  · refine kf ?_ H locs ls hL hP hD hS
    simp only [e0, ne_eq, ge_iff_le, gt_iff_lt, aI_lt hrx hry, aI_le hrx hry, aI_inj hrx hry, aI_lt hry hrx, aI_le hry hrx, Int.not_lt, Int.not_le, Decidable.not_not] at h ⊢
    first | exact h | omega
theorem a_if_eq {X : aX} {G : aG} {own : String} {cc : ByteArray} {nL : Nat} {ret : Option FieldType} {fr lo : Nat} (hX : aOK X G own cc nL ret fr lo) {pc pc' : Nat} {lv : List (Option Value)} {st : List Value} {Z : aZ} {Y : aY} {x off : Int} {tgt : Nat} (hrx : -2147483648 ≤ x ∧ x < 2147483648) (hdg : decode cc pc = .ok (.ifCond .eq off, 3)) (hp : pc + 3 = pc') (ht : (pc : Int) + off = (tgt : Int)) (kt : x = 0 → AW X G tgt lv st Z Y) (kf : x ≠ 0 → AW X G pc' lv st Z Y) : AW X G pc lv (.int (aI x) :: st) Z Y := by
  obtain ⟨p, l, e, R, s, m, args, below, meth, c, A, cs, sl, Q⟩ := X
  obtain ⟨hx, hb, hml, hown, hts, hK, hA, hlk, hr, hR, hSt⟩ := hX
  subst hp
  intro H locs ls hL hP hD hS
  have e0 : (0 : Int32) = aI 0 := rfl
  refine lv_if_eq hx hb hdg ht (fun h => ?_) (fun h => ?_)
  · refine kt ?_ H locs ls hL hP hD hS
    simp only [e0, ne_eq, ge_iff_le, gt_iff_lt, aI_lt hrx (show -2147483648 ≤ (0 : Int) ∧ (0 : Int) < 2147483648 by omega), aI_le hrx (show -2147483648 ≤ (0 : Int) ∧ (0 : Int) < 2147483648 by omega), aI_inj hrx (show -2147483648 ≤ (0 : Int) ∧ (0 : Int) < 2147483648 by omega), aI_lt (show -2147483648 ≤ (0 : Int) ∧ (0 : Int) < 2147483648 by omega) hrx, aI_le (show -2147483648 ≤ (0 : Int) ∧ (0 : Int) < 2147483648 by omega) hrx, Int.not_lt, Int.not_le, Decidable.not_not] at h ⊢
    first | exact h | omega
  · refine kf ?_ H locs ls hL hP hD hS
    simp only [e0, ne_eq, ge_iff_le, gt_iff_lt, aI_lt hrx (show -2147483648 ≤ (0 : Int) ∧ (0 : Int) < 2147483648 by omega), aI_le hrx (show -2147483648 ≤ (0 : Int) ∧ (0 : Int) < 2147483648 by omega), aI_inj hrx (show -2147483648 ≤ (0 : Int) ∧ (0 : Int) < 2147483648 by omega), aI_lt (show -2147483648 ≤ (0 : Int) ∧ (0 : Int) < 2147483648 by omega) hrx, aI_le (show -2147483648 ≤ (0 : Int) ∧ (0 : Int) < 2147483648 by omega) hrx, Int.not_lt, Int.not_le, Decidable.not_not] at h ⊢
    first | exact h | omega
theorem a_icmp_ne {X : aX} {G : aG} {own : String} {cc : ByteArray} {nL : Nat} {ret : Option FieldType} {fr lo : Nat} (hX : aOK X G own cc nL ret fr lo) {pc pc' : Nat} {lv : List (Option Value)} {st : List Value} {Z : aZ} {Y : aY} {x y off : Int} {tgt : Nat} (hrx : -2147483648 ≤ x ∧ x < 2147483648) (hry : -2147483648 ≤ y ∧ y < 2147483648) (hdg : decode cc pc = .ok (.if_icmp .ne off, 3)) (hp : pc + 3 = pc') (ht : (pc : Int) + off = (tgt : Int)) (kt : x ≠ y → AW X G tgt lv st Z Y) (kf : x = y → AW X G pc' lv st Z Y) : AW X G pc lv (.int (aI y) :: .int (aI x) :: st) Z Y := by
  obtain ⟨p, l, e, R, s, m, args, below, meth, c, A, cs, sl, Q⟩ := X
  obtain ⟨hx, hb, hml, hown, hts, hK, hA, hlk, hr, hR, hSt⟩ := hX
  subst hp
  intro H locs ls hL hP hD hS
  have e0 : (0 : Int32) = aI 0 := rfl
  refine lv_icmp_ne hx hb hdg ht (fun h => ?_) (fun h => ?_)
  · refine kt ?_ H locs ls hL hP hD hS
    simp only [e0, ne_eq, ge_iff_le, gt_iff_lt, aI_lt hrx hry, aI_le hrx hry, aI_inj hrx hry, aI_lt hry hrx, aI_le hry hrx, Int.not_lt, Int.not_le, Decidable.not_not] at h ⊢
    first | exact h | omega
  · refine kf ?_ H locs ls hL hP hD hS
    simp only [e0, ne_eq, ge_iff_le, gt_iff_lt, aI_lt hrx hry, aI_le hrx hry, aI_inj hrx hry, aI_lt hry hrx, aI_le hry hrx, Int.not_lt, Int.not_le, Decidable.not_not] at h ⊢
    first | exact h | omega
theorem a_if_ne {X : aX} {G : aG} {own : String} {cc : ByteArray} {nL : Nat} {ret : Option FieldType} {fr lo : Nat} (hX : aOK X G own cc nL ret fr lo) {pc pc' : Nat} {lv : List (Option Value)} {st : List Value} {Z : aZ} {Y : aY} {x off : Int} {tgt : Nat} (hrx : -2147483648 ≤ x ∧ x < 2147483648) (hdg : decode cc pc = .ok (.ifCond .ne off, 3)) (hp : pc + 3 = pc') (ht : (pc : Int) + off = (tgt : Int)) (kt : x ≠ 0 → AW X G tgt lv st Z Y) (kf : x = 0 → AW X G pc' lv st Z Y) : AW X G pc lv (.int (aI x) :: st) Z Y := by
  obtain ⟨p, l, e, R, s, m, args, below, meth, c, A, cs, sl, Q⟩ := X
  obtain ⟨hx, hb, hml, hown, hts, hK, hA, hlk, hr, hR, hSt⟩ := hX
  subst hp
  intro H locs ls hL hP hD hS
  have e0 : (0 : Int32) = aI 0 := rfl
  refine lv_if_ne hx hb hdg ht (fun h => ?_) (fun h => ?_)
  · refine kt ?_ H locs ls hL hP hD hS
    simp only [e0, ne_eq, ge_iff_le, gt_iff_lt, aI_lt hrx (show -2147483648 ≤ (0 : Int) ∧ (0 : Int) < 2147483648 by omega), aI_le hrx (show -2147483648 ≤ (0 : Int) ∧ (0 : Int) < 2147483648 by omega), aI_inj hrx (show -2147483648 ≤ (0 : Int) ∧ (0 : Int) < 2147483648 by omega), aI_lt (show -2147483648 ≤ (0 : Int) ∧ (0 : Int) < 2147483648 by omega) hrx, aI_le (show -2147483648 ≤ (0 : Int) ∧ (0 : Int) < 2147483648 by omega) hrx, Int.not_lt, Int.not_le, Decidable.not_not] at h ⊢
    first | exact h | omega
  · refine kf ?_ H locs ls hL hP hD hS
    simp only [e0, ne_eq, ge_iff_le, gt_iff_lt, aI_lt hrx (show -2147483648 ≤ (0 : Int) ∧ (0 : Int) < 2147483648 by omega), aI_le hrx (show -2147483648 ≤ (0 : Int) ∧ (0 : Int) < 2147483648 by omega), aI_inj hrx (show -2147483648 ≤ (0 : Int) ∧ (0 : Int) < 2147483648 by omega), aI_lt (show -2147483648 ≤ (0 : Int) ∧ (0 : Int) < 2147483648 by omega) hrx, aI_le (show -2147483648 ≤ (0 : Int) ∧ (0 : Int) < 2147483648 by omega) hrx, Int.not_lt, Int.not_le, Decidable.not_not] at h ⊢
    first | exact h | omega
theorem a_icmp_lt {X : aX} {G : aG} {own : String} {cc : ByteArray} {nL : Nat} {ret : Option FieldType} {fr lo : Nat} (hX : aOK X G own cc nL ret fr lo) {pc pc' : Nat} {lv : List (Option Value)} {st : List Value} {Z : aZ} {Y : aY} {x y off : Int} {tgt : Nat} (hrx : -2147483648 ≤ x ∧ x < 2147483648) (hry : -2147483648 ≤ y ∧ y < 2147483648) (hdg : decode cc pc = .ok (.if_icmp .lt off, 3)) (hp : pc + 3 = pc') (ht : (pc : Int) + off = (tgt : Int)) (kt : x < y → AW X G tgt lv st Z Y) (kf : y ≤ x → AW X G pc' lv st Z Y) : AW X G pc lv (.int (aI y) :: .int (aI x) :: st) Z Y := by
  obtain ⟨p, l, e, R, s, m, args, below, meth, c, A, cs, sl, Q⟩ := X
  obtain ⟨hx, hb, hml, hown, hts, hK, hA, hlk, hr, hR, hSt⟩ := hX
  subst hp
  intro H locs ls hL hP hD hS
  have e0 : (0 : Int32) = aI 0 := rfl
  refine lv_icmp_lt hx hb hdg ht (fun h => ?_) (fun h => ?_)
  · refine kt ?_ H locs ls hL hP hD hS
    simp only [e0, ne_eq, ge_iff_le, gt_iff_lt, aI_lt hrx hry, aI_le hrx hry, aI_inj hrx hry, aI_lt hry hrx, aI_le hry hrx, Int.not_lt, Int.not_le, Decidable.not_not] at h ⊢
    first | exact h | omega
  · refine kf ?_ H locs ls hL hP hD hS
    simp only [e0, ne_eq, ge_iff_le, gt_iff_lt, aI_lt hrx hry, aI_le hrx hry, aI_inj hrx hry, aI_lt hry hrx, aI_le hry hrx, Int.not_lt, Int.not_le, Decidable.not_not] at h ⊢
    first | exact h | omega
theorem a_if_lt {X : aX} {G : aG} {own : String} {cc : ByteArray} {nL : Nat} {ret : Option FieldType} {fr lo : Nat} (hX : aOK X G own cc nL ret fr lo) {pc pc' : Nat} {lv : List (Option Value)} {st : List Value} {Z : aZ} {Y : aY} {x off : Int} {tgt : Nat} (hrx : -2147483648 ≤ x ∧ x < 2147483648) (hdg : decode cc pc = .ok (.ifCond .lt off, 3)) (hp : pc + 3 = pc') (ht : (pc : Int) + off = (tgt : Int)) (kt : x < 0 → AW X G tgt lv st Z Y) (kf : 0 ≤ x → AW X G pc' lv st Z Y) : AW X G pc lv (.int (aI x) :: st) Z Y := by
  obtain ⟨p, l, e, R, s, m, args, below, meth, c, A, cs, sl, Q⟩ := X
  obtain ⟨hx, hb, hml, hown, hts, hK, hA, hlk, hr, hR, hSt⟩ := hX
  subst hp
  intro H locs ls hL hP hD hS
  have e0 : (0 : Int32) = aI 0 := rfl
  refine lv_if_lt hx hb hdg ht (fun h => ?_) (fun h => ?_)
  · refine kt ?_ H locs ls hL hP hD hS
    simp only [e0, ne_eq, ge_iff_le, gt_iff_lt, aI_lt hrx (show -2147483648 ≤ (0 : Int) ∧ (0 : Int) < 2147483648 by omega), aI_le hrx (show -2147483648 ≤ (0 : Int) ∧ (0 : Int) < 2147483648 by omega), aI_inj hrx (show -2147483648 ≤ (0 : Int) ∧ (0 : Int) < 2147483648 by omega), aI_lt (show -2147483648 ≤ (0 : Int) ∧ (0 : Int) < 2147483648 by omega) hrx, aI_le (show -2147483648 ≤ (0 : Int) ∧ (0 : Int) < 2147483648 by omega) hrx, Int.not_lt, Int.not_le, Decidable.not_not] at h ⊢
    first | exact h | omega
  · refine kf ?_ H locs ls hL hP hD hS
    simp only [e0, ne_eq, ge_iff_le, gt_iff_lt, aI_lt hrx (show -2147483648 ≤ (0 : Int) ∧ (0 : Int) < 2147483648 by omega), aI_le hrx (show -2147483648 ≤ (0 : Int) ∧ (0 : Int) < 2147483648 by omega), aI_inj hrx (show -2147483648 ≤ (0 : Int) ∧ (0 : Int) < 2147483648 by omega), aI_lt (show -2147483648 ≤ (0 : Int) ∧ (0 : Int) < 2147483648 by omega) hrx, aI_le (show -2147483648 ≤ (0 : Int) ∧ (0 : Int) < 2147483648 by omega) hrx, Int.not_lt, Int.not_le, Decidable.not_not] at h ⊢
    first | exact h | omega
theorem a_icmp_ge {X : aX} {G : aG} {own : String} {cc : ByteArray} {nL : Nat} {ret : Option FieldType} {fr lo : Nat} (hX : aOK X G own cc nL ret fr lo) {pc pc' : Nat} {lv : List (Option Value)} {st : List Value} {Z : aZ} {Y : aY} {x y off : Int} {tgt : Nat} (hrx : -2147483648 ≤ x ∧ x < 2147483648) (hry : -2147483648 ≤ y ∧ y < 2147483648) (hdg : decode cc pc = .ok (.if_icmp .ge off, 3)) (hp : pc + 3 = pc') (ht : (pc : Int) + off = (tgt : Int)) (kt : y ≤ x → AW X G tgt lv st Z Y) (kf : x < y → AW X G pc' lv st Z Y) : AW X G pc lv (.int (aI y) :: .int (aI x) :: st) Z Y := by
  obtain ⟨p, l, e, R, s, m, args, below, meth, c, A, cs, sl, Q⟩ := X
  obtain ⟨hx, hb, hml, hown, hts, hK, hA, hlk, hr, hR, hSt⟩ := hX
  subst hp
  intro H locs ls hL hP hD hS
  have e0 : (0 : Int32) = aI 0 := rfl
  refine lv_icmp_ge hx hb hdg ht (fun h => ?_) (fun h => ?_)
  · refine kt ?_ H locs ls hL hP hD hS
    simp only [e0, ne_eq, ge_iff_le, gt_iff_lt, aI_lt hrx hry, aI_le hrx hry, aI_inj hrx hry, aI_lt hry hrx, aI_le hry hrx, Int.not_lt, Int.not_le, Decidable.not_not] at h ⊢
    first | exact h | omega
  · refine kf ?_ H locs ls hL hP hD hS
    simp only [e0, ne_eq, ge_iff_le, gt_iff_lt, aI_lt hrx hry, aI_le hrx hry, aI_inj hrx hry, aI_lt hry hrx, aI_le hry hrx, Int.not_lt, Int.not_le, Decidable.not_not] at h ⊢
    first | exact h | omega
theorem a_if_ge {X : aX} {G : aG} {own : String} {cc : ByteArray} {nL : Nat} {ret : Option FieldType} {fr lo : Nat} (hX : aOK X G own cc nL ret fr lo) {pc pc' : Nat} {lv : List (Option Value)} {st : List Value} {Z : aZ} {Y : aY} {x off : Int} {tgt : Nat} (hrx : -2147483648 ≤ x ∧ x < 2147483648) (hdg : decode cc pc = .ok (.ifCond .ge off, 3)) (hp : pc + 3 = pc') (ht : (pc : Int) + off = (tgt : Int)) (kt : 0 ≤ x → AW X G tgt lv st Z Y) (kf : x < 0 → AW X G pc' lv st Z Y) : AW X G pc lv (.int (aI x) :: st) Z Y := by
  obtain ⟨p, l, e, R, s, m, args, below, meth, c, A, cs, sl, Q⟩ := X
  obtain ⟨hx, hb, hml, hown, hts, hK, hA, hlk, hr, hR, hSt⟩ := hX
  subst hp
  intro H locs ls hL hP hD hS
  have e0 : (0 : Int32) = aI 0 := rfl
  refine lv_if_ge hx hb hdg ht (fun h => ?_) (fun h => ?_)
  · refine kt ?_ H locs ls hL hP hD hS
    simp only [e0, ne_eq, ge_iff_le, gt_iff_lt, aI_lt hrx (show -2147483648 ≤ (0 : Int) ∧ (0 : Int) < 2147483648 by omega), aI_le hrx (show -2147483648 ≤ (0 : Int) ∧ (0 : Int) < 2147483648 by omega), aI_inj hrx (show -2147483648 ≤ (0 : Int) ∧ (0 : Int) < 2147483648 by omega), aI_lt (show -2147483648 ≤ (0 : Int) ∧ (0 : Int) < 2147483648 by omega) hrx, aI_le (show -2147483648 ≤ (0 : Int) ∧ (0 : Int) < 2147483648 by omega) hrx, Int.not_lt, Int.not_le, Decidable.not_not] at h ⊢
    first | exact h | omega
  · refine kf ?_ H locs ls hL hP hD hS
    simp only [e0, ne_eq, ge_iff_le, gt_iff_lt, aI_lt hrx (show -2147483648 ≤ (0 : Int) ∧ (0 : Int) < 2147483648 by omega), aI_le hrx (show -2147483648 ≤ (0 : Int) ∧ (0 : Int) < 2147483648 by omega), aI_inj hrx (show -2147483648 ≤ (0 : Int) ∧ (0 : Int) < 2147483648 by omega), aI_lt (show -2147483648 ≤ (0 : Int) ∧ (0 : Int) < 2147483648 by omega) hrx, aI_le (show -2147483648 ≤ (0 : Int) ∧ (0 : Int) < 2147483648 by omega) hrx, Int.not_lt, Int.not_le, Decidable.not_not] at h ⊢
    first | exact h | omega
theorem a_icmp_gt {X : aX} {G : aG} {own : String} {cc : ByteArray} {nL : Nat} {ret : Option FieldType} {fr lo : Nat} (hX : aOK X G own cc nL ret fr lo) {pc pc' : Nat} {lv : List (Option Value)} {st : List Value} {Z : aZ} {Y : aY} {x y off : Int} {tgt : Nat} (hrx : -2147483648 ≤ x ∧ x < 2147483648) (hry : -2147483648 ≤ y ∧ y < 2147483648) (hdg : decode cc pc = .ok (.if_icmp .gt off, 3)) (hp : pc + 3 = pc') (ht : (pc : Int) + off = (tgt : Int)) (kt : y < x → AW X G tgt lv st Z Y) (kf : x ≤ y → AW X G pc' lv st Z Y) : AW X G pc lv (.int (aI y) :: .int (aI x) :: st) Z Y := by
  obtain ⟨p, l, e, R, s, m, args, below, meth, c, A, cs, sl, Q⟩ := X
  obtain ⟨hx, hb, hml, hown, hts, hK, hA, hlk, hr, hR, hSt⟩ := hX
  subst hp
  intro H locs ls hL hP hD hS
  have e0 : (0 : Int32) = aI 0 := rfl
  refine lv_icmp_gt hx hb hdg ht (fun h => ?_) (fun h => ?_)
  · refine kt ?_ H locs ls hL hP hD hS
    simp only [e0, ne_eq, ge_iff_le, gt_iff_lt, aI_lt hrx hry, aI_le hrx hry, aI_inj hrx hry, aI_lt hry hrx, aI_le hry hrx, Int.not_lt, Int.not_le, Decidable.not_not] at h ⊢
    first | exact h | omega
  · refine kf ?_ H locs ls hL hP hD hS
    simp only [e0, ne_eq, ge_iff_le, gt_iff_lt, aI_lt hrx hry, aI_le hrx hry, aI_inj hrx hry, aI_lt hry hrx, aI_le hry hrx, Int.not_lt, Int.not_le, Decidable.not_not] at h ⊢
    first | exact h | omega
theorem a_if_gt {X : aX} {G : aG} {own : String} {cc : ByteArray} {nL : Nat} {ret : Option FieldType} {fr lo : Nat} (hX : aOK X G own cc nL ret fr lo) {pc pc' : Nat} {lv : List (Option Value)} {st : List Value} {Z : aZ} {Y : aY} {x off : Int} {tgt : Nat} (hrx : -2147483648 ≤ x ∧ x < 2147483648) (hdg : decode cc pc = .ok (.ifCond .gt off, 3)) (hp : pc + 3 = pc') (ht : (pc : Int) + off = (tgt : Int)) (kt : 0 < x → AW X G tgt lv st Z Y) (kf : x ≤ 0 → AW X G pc' lv st Z Y) : AW X G pc lv (.int (aI x) :: st) Z Y := by
  obtain ⟨p, l, e, R, s, m, args, below, meth, c, A, cs, sl, Q⟩ := X
  obtain ⟨hx, hb, hml, hown, hts, hK, hA, hlk, hr, hR, hSt⟩ := hX
  subst hp
  intro H locs ls hL hP hD hS
  have e0 : (0 : Int32) = aI 0 := rfl
  refine lv_if_gt hx hb hdg ht (fun h => ?_) (fun h => ?_)
  · refine kt ?_ H locs ls hL hP hD hS
    simp only [e0, ne_eq, ge_iff_le, gt_iff_lt, aI_lt hrx (show -2147483648 ≤ (0 : Int) ∧ (0 : Int) < 2147483648 by omega), aI_le hrx (show -2147483648 ≤ (0 : Int) ∧ (0 : Int) < 2147483648 by omega), aI_inj hrx (show -2147483648 ≤ (0 : Int) ∧ (0 : Int) < 2147483648 by omega), aI_lt (show -2147483648 ≤ (0 : Int) ∧ (0 : Int) < 2147483648 by omega) hrx, aI_le (show -2147483648 ≤ (0 : Int) ∧ (0 : Int) < 2147483648 by omega) hrx, Int.not_lt, Int.not_le, Decidable.not_not] at h ⊢
    first | exact h | omega
  · refine kf ?_ H locs ls hL hP hD hS
    simp only [e0, ne_eq, ge_iff_le, gt_iff_lt, aI_lt hrx (show -2147483648 ≤ (0 : Int) ∧ (0 : Int) < 2147483648 by omega), aI_le hrx (show -2147483648 ≤ (0 : Int) ∧ (0 : Int) < 2147483648 by omega), aI_inj hrx (show -2147483648 ≤ (0 : Int) ∧ (0 : Int) < 2147483648 by omega), aI_lt (show -2147483648 ≤ (0 : Int) ∧ (0 : Int) < 2147483648 by omega) hrx, aI_le (show -2147483648 ≤ (0 : Int) ∧ (0 : Int) < 2147483648 by omega) hrx, Int.not_lt, Int.not_le, Decidable.not_not] at h ⊢
    first | exact h | omega
theorem a_icmp_le {X : aX} {G : aG} {own : String} {cc : ByteArray} {nL : Nat} {ret : Option FieldType} {fr lo : Nat} (hX : aOK X G own cc nL ret fr lo) {pc pc' : Nat} {lv : List (Option Value)} {st : List Value} {Z : aZ} {Y : aY} {x y off : Int} {tgt : Nat} (hrx : -2147483648 ≤ x ∧ x < 2147483648) (hry : -2147483648 ≤ y ∧ y < 2147483648) (hdg : decode cc pc = .ok (.if_icmp .le off, 3)) (hp : pc + 3 = pc') (ht : (pc : Int) + off = (tgt : Int)) (kt : x ≤ y → AW X G tgt lv st Z Y) (kf : y < x → AW X G pc' lv st Z Y) : AW X G pc lv (.int (aI y) :: .int (aI x) :: st) Z Y := by
  obtain ⟨p, l, e, R, s, m, args, below, meth, c, A, cs, sl, Q⟩ := X
  obtain ⟨hx, hb, hml, hown, hts, hK, hA, hlk, hr, hR, hSt⟩ := hX
  subst hp
  intro H locs ls hL hP hD hS
  have e0 : (0 : Int32) = aI 0 := rfl
  refine lv_icmp_le hx hb hdg ht (fun h => ?_) (fun h => ?_)
  · refine kt ?_ H locs ls hL hP hD hS
    simp only [e0, ne_eq, ge_iff_le, gt_iff_lt, aI_lt hrx hry, aI_le hrx hry, aI_inj hrx hry, aI_lt hry hrx, aI_le hry hrx, Int.not_lt, Int.not_le, Decidable.not_not] at h ⊢
    first | exact h | omega
  · refine kf ?_ H locs ls hL hP hD hS
    simp only [e0, ne_eq, ge_iff_le, gt_iff_lt, aI_lt hrx hry, aI_le hrx hry, aI_inj hrx hry, aI_lt hry hrx, aI_le hry hrx, Int.not_lt, Int.not_le, Decidable.not_not] at h ⊢
    first | exact h | omega
theorem a_if_le {X : aX} {G : aG} {own : String} {cc : ByteArray} {nL : Nat} {ret : Option FieldType} {fr lo : Nat} (hX : aOK X G own cc nL ret fr lo) {pc pc' : Nat} {lv : List (Option Value)} {st : List Value} {Z : aZ} {Y : aY} {x off : Int} {tgt : Nat} (hrx : -2147483648 ≤ x ∧ x < 2147483648) (hdg : decode cc pc = .ok (.ifCond .le off, 3)) (hp : pc + 3 = pc') (ht : (pc : Int) + off = (tgt : Int)) (kt : x ≤ 0 → AW X G tgt lv st Z Y) (kf : 0 < x → AW X G pc' lv st Z Y) : AW X G pc lv (.int (aI x) :: st) Z Y := by
  obtain ⟨p, l, e, R, s, m, args, below, meth, c, A, cs, sl, Q⟩ := X
  obtain ⟨hx, hb, hml, hown, hts, hK, hA, hlk, hr, hR, hSt⟩ := hX
  subst hp
  intro H locs ls hL hP hD hS
  have e0 : (0 : Int32) = aI 0 := rfl
  refine lv_if_le hx hb hdg ht (fun h => ?_) (fun h => ?_)
  · refine kt ?_ H locs ls hL hP hD hS
    simp only [e0, ne_eq, ge_iff_le, gt_iff_lt, aI_lt hrx (show -2147483648 ≤ (0 : Int) ∧ (0 : Int) < 2147483648 by omega), aI_le hrx (show -2147483648 ≤ (0 : Int) ∧ (0 : Int) < 2147483648 by omega), aI_inj hrx (show -2147483648 ≤ (0 : Int) ∧ (0 : Int) < 2147483648 by omega), aI_lt (show -2147483648 ≤ (0 : Int) ∧ (0 : Int) < 2147483648 by omega) hrx, aI_le (show -2147483648 ≤ (0 : Int) ∧ (0 : Int) < 2147483648 by omega) hrx, Int.not_lt, Int.not_le, Decidable.not_not] at h ⊢
    first | exact h | omega
  · refine kf ?_ H locs ls hL hP hD hS
    simp only [e0, ne_eq, ge_iff_le, gt_iff_lt, aI_lt hrx (show -2147483648 ≤ (0 : Int) ∧ (0 : Int) < 2147483648 by omega), aI_le hrx (show -2147483648 ≤ (0 : Int) ∧ (0 : Int) < 2147483648 by omega), aI_inj hrx (show -2147483648 ≤ (0 : Int) ∧ (0 : Int) < 2147483648 by omega), aI_lt (show -2147483648 ≤ (0 : Int) ∧ (0 : Int) < 2147483648 by omega) hrx, aI_le (show -2147483648 ≤ (0 : Int) ∧ (0 : Int) < 2147483648 by omega) hrx, Int.not_lt, Int.not_le, Decidable.not_not] at h ⊢
    first | exact h | omega
/-- a truth value as a number -/
def aTr (b : Bool) : Int := if b then 1 else 0
theorem aTr_t : aTr true = 1 := rfl
theorem aTr_f : aTr false = 0 := rfl
theorem aTr_rng (b : Bool) : 0 ≤ aTr b ∧ aTr b ≤ 1 := by cases b <;> decide
theorem a_ifb_eq {X : aX} {G : aG} {own : String} {cc : ByteArray} {nL : Nat} {ret : Option FieldType} {fr lo : Nat} (hX : aOK X G own cc nL ret fr lo) {pc pc' : Nat} {lv : List (Option Value)} {st : List Value} {Z : aZ} {Y : aY} {b : Bool} {off : Int} {tgt : Nat} (hdg : decode cc pc = .ok (.ifCond .eq off, 3)) (hp : pc + 3 = pc') (ht : (pc : Int) + off = (tgt : Int)) (kt : b = false → AW X G tgt lv st Z Y) (kf : b = true → AW X G pc' lv st Z Y) : AW X G pc lv (.int (aI (aTr b)) :: st) Z Y := by
  refine a_if_eq hX (x := aTr b) (by cases b <;> decide) hdg hp ht (fun h => kt ?_) (fun h => kf ?_)
  · cases b <;> first | rfl | exact absurd h (by decide)
  · cases b <;> first | rfl | exact absurd h (by decide)
theorem a_ifb_ne {X : aX} {G : aG} {own : String} {cc : ByteArray} {nL : Nat} {ret : Option FieldType} {fr lo : Nat} (hX : aOK X G own cc nL ret fr lo) {pc pc' : Nat} {lv : List (Option Value)} {st : List Value} {Z : aZ} {Y : aY} {b : Bool} {off : Int} {tgt : Nat} (hdg : decode cc pc = .ok (.ifCond .ne off, 3)) (hp : pc + 3 = pc') (ht : (pc : Int) + off = (tgt : Int)) (kt : b = true → AW X G tgt lv st Z Y) (kf : b = false → AW X G pc' lv st Z Y) : AW X G pc lv (.int (aI (aTr b)) :: st) Z Y := by
  refine a_if_ne hX (x := aTr b) (by cases b <;> decide) hdg hp ht (fun h => kt ?_) (fun h => kf ?_)
  · cases b <;> first | rfl | exact absurd h (by decide)
  · cases b <;> first | rfl | exact absurd h (by decide)
theorem a_goto {X : aX} {G : aG} {own : String} {cc : ByteArray} {nL : Nat} {ret : Option FieldType} {fr lo : Nat} (hX : aOK X G own cc nL ret fr lo) {pc : Nat} {lv : List (Option Value)} {st : List Value} {Z : aZ} {Y : aY} {off : Int} {tgt : Nat} (hdg : decode cc pc = .ok (.goto off, 3)) (ht : (pc : Int) + off = (tgt : Int)) (k : AW X G tgt lv st Z Y) : AW X G pc lv st Z Y := by
  obtain ⟨p, l, e, R, s, m, args, below, meth, c, A, cs, sl, Q⟩ := X
  obtain ⟨hx, hb, hml, hown, hts, hK, hA, hlk, hr, hR, hSt⟩ := hX
  intro H locs ls hL hP hD hS
  exact lv_goto hx hb hdg ht (k H locs ls hL hP hD hS)
theorem a_ifnull {X : aX} {G : aG} {own : String} {cc : ByteArray} {nL : Nat} {ret : Option FieldType} {fr lo : Nat} (hX : aOK X G own cc nL ret fr lo) {pc pc' : Nat} {lv : List (Option Value)} {st : List Value} {Z : aZ} {Y : aY} {x : Nat} {off : Int} (hdg : decode cc pc = .ok (.ifnull off, 3)) (hp : pc + 3 = pc') (k : AW X G pc' lv st Z Y) : AW X G pc lv (.ref x :: st) Z Y := by
  obtain ⟨p, l, e, R, s, m, args, below, meth, c, A, cs, sl, Q⟩ := X
  obtain ⟨hx, hb, hml, hown, hts, hK, hA, hlk, hr, hR, hSt⟩ := hX
  subst hp
  intro H locs ls hL hP hD hS
  exact lv_ifnull hx hb hdg (k H locs ls hL hP hD hS)
theorem a_tsOut {X : aX} {G : aG} {own : String} {cc : ByteArray} {nL : Nat} {ret : Option FieldType} {fr lo : Nat} (hX : aOK X G own cc nL ret fr lo) {pc : Nat} {lv : List (Option Value)} {st : List Value} {Z : aZ} {Y : aY} {dflt lo0 hi0 : Int} {offs : Array Int} {len : Nat} {x : Int} {tgt : Nat} (hdg : decode cc pc = .ok (.tableswitch dflt lo0 hi0 offs, len)) (hrx : -2147483648 ≤ x ∧ x < 2147483648) (h : x < lo0 ∨ hi0 < x) (ht : (pc : Int) + dflt = (tgt : Int)) (k : AW X G tgt lv st Z Y) : AW X G pc lv (.int (aI x) :: st) Z Y := by
  obtain ⟨p, l, e, R, s, m, args, below, meth, c, A, cs, sl, Q⟩ := X
  obtain ⟨hx, hb, hml, hown, hts, hK, hA, hlk, hr, hR, hSt⟩ := hX
  intro H locs ls hL hP hD hS
  exact lv_tableOut hx hb hdg (by rw [aI_toInt hrx]; exact h) ht (k H locs ls hL hP hD hS)
theorem a_tsIn {X : aX} {G : aG} {own : String} {cc : ByteArray} {nL : Nat} {ret : Option FieldType} {fr lo : Nat} (hX : aOK X G own cc nL ret fr lo) {pc : Nat} {lv : List (Option Value)} {st : List Value} {Z : aZ} {Y : aY} {dflt lo0 hi0 : Int} {offs : Array Int} {len : Nat} {x off : Int} {tgt : Nat} (hdg : decode cc pc = .ok (.tableswitch dflt lo0 hi0 offs, len)) (hrx : -2147483648 ≤ x ∧ x < 2147483648) (h1 : lo0 ≤ x) (h2 : x ≤ hi0) (ho : offs[(x - lo0).toNat]? = some off) (ht : (pc : Int) + off = (tgt : Int)) (k : AW X G tgt lv st Z Y) : AW X G pc lv (.int (aI x) :: st) Z Y := by
  obtain ⟨p, l, e, R, s, m, args, below, meth, c, A, cs, sl, Q⟩ := X
  obtain ⟨hx, hb, hml, hown, hts, hK, hA, hlk, hr, hR, hSt⟩ := hX
  intro H locs ls hL hP hD hS
  exact lv_tableIn hx hb hdg (by rw [aI_toInt hrx]; omega) (by rw [aI_toInt hrx]; omega) (by rw [aI_toInt hrx]; exact ho) ht (k H locs ls hL hP hD hS)
theorem a_ls {X : aX} {G : aG} {own : String} {cc : ByteArray} {nL : Nat} {ret : Option FieldType} {fr lo : Nat} (hX : aOK X G own cc nL ret fr lo) {pc : Nat} {lv : List (Option Value)} {st : List Value} {Z : aZ} {Y : aY} {dflt : Int} {ps : Array (Int × Int)} {len : Nat} {x off : Int} {tgt : Nat} (hdg : decode cc pc = .ok (.lookupswitch dflt ps, len)) (hrx : -2147483648 ≤ x ∧ x < 2147483648) (hps : (ps.toList.zip (ps.toList.drop 1)).all (fun (a, next) => a.1 < next.1) = true) (ho : Op.lookupswitch.offset ps.toList dflt x = off) (ht : (pc : Int) + off = (tgt : Int)) (k : AW X G tgt lv st Z Y) : AW X G pc lv (.int (aI x) :: st) Z Y := by
  obtain ⟨p, l, e, R, s, m, args, below, meth, c, A, cs, sl, Q⟩ := X
  obtain ⟨hx, hb, hml, hown, hts, hK, hA, hlk, hr, hR, hSt⟩ := hX
  intro H locs ls hL hP hD hS
  exact lv_lookup hx hb hdg hps (by rw [aI_toInt hrx]; exact ho) ht (k H locs ls hL hP hD hS)
end
section
/-- a class of ours: its place, fields, types -/
def aCl (ci : Nat) (C : String) (T : u_T) (N : Nat) (ty : Nat → FieldType) : Prop := vwCl[ci]? = some (C, T, N) ∧ (∀ w ∈ u_ws C T N, w ∈ aT) ∧ (∀ k, k < N → parseFieldDescriptor (T k).2.2.1 = some (ty k)) ∧ ∀ a, a < N → ∀ b, b < N → a ≠ b → (T a).2.1 ≠ (T b).2.1
/-- a field of it, by its place, as the pool entry idx of the class own has it -/
def aFl (own : String) (idx ci j : Nat) (t : FieldType) : Prop := ∃ (C : String) (T : u_T) (N : Nat) (ty : Nat → FieldType), aCl ci C T N ty ∧ j < N ∧ (T j).1 = C ∧ ty j = t ∧ Cond.fieldLink own idx C (T j).2.1 (T j).2.2.1 ∈ aT
/-- it isn't final -/
def aNf (ci j : Nat) : Prop := ∀ r : vw_C, vwCl[ci]? = some r → (r.2.1 j).2.2.2 = false
theorem aFs_get {G : aG} {f : Int → Int} {x : Int64} : ∀ (ks : List Nat) (i0 j kd : Nat), ks[j]? = some kd → (aFs G f x ks i0)[j]? = some (aFv G f x (i0 + j) kd)
  | [], _, j, _, h => by simp at h
  | k :: t, i0, 0, kd, h => by
    simp at h
    subst h
    rfl
  | k :: t, i0, j + 1, kd, h => by
    have := aFs_get (G := G) (f := f) (x := x) t (i0 + 1) j kd (by simpa using h)
    rw [show i0 + (j + 1) = i0 + 1 + j by omega]
    simpa [aFs] using this
theorem aFs_len {G : aG} {f : Int → Int} {x : Int64} : ∀ (ks : List Nat) (i0 : Nat), (aFs G f x ks i0).length = ks.length
  | [], _ => rfl
  | k :: t, i0 => by simp [aFs, aFs_len t (i0 + 1)]
theorem aFs_other {G : aG} {f g : Int → Int} {x : Int64} : ∀ (ks : List Nat) (i0 : Nat), (∀ i, i0 ≤ i → g (i : Int) = f (i : Int)) → aFs G g x ks i0 = aFs G f x ks i0
  | [], _, _ => rfl
  | k :: t, i0, h => by
    unfold aFs
    rw [aFs_other t (i0 + 1) (fun i hi => h i (by omega))]
    congr 1
    match k with
    | 0 => show Value.int (aI (g (i0 : Int))) = _; rw [h i0 (Nat.le_refl _)]; rfl
    | 1 => rfl
    | k + 2 => rfl
theorem aFs_setI {G : aG} {f : Int → Int} {x : Int64} {v : Int} : ∀ (ks : List Nat) (i0 j : Nat), ks[j]? = some 0 → (aFs G f x ks i0).set j (.int (aI v)) = aFs G (fun b => if b = ((i0 + j : Nat) : Int) then v else f b) x ks i0
  | [], _, j, h => by simp at h
  | k :: t, i0, 0, h => by
    simp at h
    subst h
    unfold aFs
    rw [List.set_cons_zero]
    congr 1
    · show Value.int (aI v) = Value.int (aI (if ((i0 : Nat) : Int) = ((i0 + 0 : Nat) : Int) then v else f i0))
      simp
    · exact (aFs_other t (i0 + 1) (fun i hi => if_neg (by omega))).symm
  | k :: t, i0, j + 1, h => by
    have := aFs_setI (G := G) (f := f) (x := x) (v := v) t (i0 + 1) j (by simpa using h)
    unfold aFs
    rw [List.set_cons_succ, this, show i0 + 1 + j = i0 + (j + 1) by omega]
    congr 1
    match k with
    | 0 => show Value.int (aI (f i0)) = Value.int (aI (if ((i0 : Nat) : Int) = _ then v else f i0)); rw [if_neg (by omega)]
    | 1 => rfl
    | k + 2 => rfl
theorem aFs_otherL {G : aG} {f : Int → Int} {x y : Int64} : ∀ (ks : List Nat) (i0 : Nat), (∀ i : Nat, ks[i]? ≠ some 1) → aFs G f y ks i0 = aFs G f x ks i0
  | [], _, _ => rfl
  | k :: t, i0, h => by
    unfold aFs
    rw [aFs_otherL (x := x) (y := y) t (i0 + 1) (fun i hi => h (i + 1) (by simpa using hi))]
    congr 1
    match k, h with
    | 0, _ => rfl
    | 1, h => exact absurd rfl (h 0)
    | k + 2, _ => rfl
theorem aFs_setL {G : aG} {f : Int → Int} {x y : Int64} : ∀ (ks : List Nat) (i0 j : Nat), (∀ i : Nat, ks[i]? = some 1 ↔ i = j) → (aFs G f x ks i0).set j (.long y) = aFs G f y ks i0
  | [], _, j, h => by
    have := (h j).mpr rfl
    simp at this
  | k :: t, i0, 0, h => by
    have h0 := (h 0).mpr rfl
    simp at h0
    subst h0
    unfold aFs
    rw [List.set_cons_zero, aFs_otherL (x := x) (y := y) t (i0 + 1) (fun i hi => by
      have := (h (i + 1)).mp (by simpa using hi)
      omega)]
    rfl
  | k :: t, i0, j + 1, h => by
    have hk : k ≠ 1 := fun e => by
      have := (h 0).mp (by simp [e])
      omega
    have := aFs_setL (G := G) (f := f) (x := x) (y := y) t (i0 + 1) j (fun i => by
      have := h (i + 1)
      simpa using this)
    unfold aFs
    rw [List.set_cons_succ, this]
    congr 1
    match k, hk with
    | 0, _ => rfl
    | 1, h => exact absurd rfl h
    | k + 2, _ => rfl

theorem a_getfI {X : aX} {G : aG} {own : String} {cc : ByteArray} {nL : Nat} {ret : Option FieldType} {fr lo : Nat} (hX : aOK X G own cc nL ret fr lo) {pc pc' : Nat} {lv : List (Option Value)} {st : List Value} {Z : aZ} {Y : aY} {idx ci k j : Nat} {ks : List Nat} {ji : Int} (hji : ((0 + j : Nat) : Int) = ji) (hB : aB Z) {t : FieldType} (hf : aFl own idx ci j t) (hsh : aSh k = (0, ci, ks)) (hk : k < 80) (hks : ks[j]? = some 0) (hdg : decode cc pc = .ok (.getfield idx, 3)) (hp : pc + 3 = pc') (kk : (-100000000 ≤ Z k ji ∧ Z k ji ≤ 100000000) → AW X G pc' lv (.int (aI (Z k ji)) :: st) Z Y) : AW X G pc lv (.ref (G.1 k) :: st) Z Y := by
  obtain ⟨p, l, e, R, s, m, args, below, meth, c, A, cs, sl, Q⟩ := X
  obtain ⟨hx, hb, hml, hown, hts, hK, hA, hlk, hr, hR, hSt⟩ := hX
  obtain ⟨C, T, N, ty, ⟨hc1, hc2, hc3, hc4⟩, hj, h1, h3, hl⟩ := hf
  subst hp
  intro H locs ls hL hP hD hS
  have he : (aW G Z Y)[k]? = some (G.1 k, .inr (ci, aFs G (Z k) (Y k) ks 0)) := by
    have h0 := aW_get (G := G) (Z := Z) (Y := Y) hk
    rw [hsh] at h0
    exact h0
  refine va_get (C := C) (T := T) (N := N) hx hb hts hc2 hown hK hP k he hc1 j hj (hts _ hl) (fun x9 h9 => by rw [h1] at h9; exact h9) (aFs_get ks 0 j 0 hks) hdg ?_
  subst hji
  exact kk (hB k _) H locs ls hL hP hD hS

theorem a_getfJ {X : aX} {G : aG} {own : String} {cc : ByteArray} {nL : Nat} {ret : Option FieldType} {fr lo : Nat} (hX : aOK X G own cc nL ret fr lo) {pc pc' : Nat} {lv : List (Option Value)} {st : List Value} {Z : aZ} {Y : aY} {idx ci k j : Nat} {ks : List Nat}  {t : FieldType} (hf : aFl own idx ci j t) (hsh : aSh k = (0, ci, ks)) (hk : k < 80) (hks : ks[j]? = some 1) (hdg : decode cc pc = .ok (.getfield idx, 3)) (hp : pc + 3 = pc') (kk : AW X G pc' lv (.long (Y k) :: st) Z Y) : AW X G pc lv (.ref (G.1 k) :: st) Z Y := by
  obtain ⟨p, l, e, R, s, m, args, below, meth, c, A, cs, sl, Q⟩ := X
  obtain ⟨hx, hb, hml, hown, hts, hK, hA, hlk, hr, hR, hSt⟩ := hX
  obtain ⟨C, T, N, ty, ⟨hc1, hc2, hc3, hc4⟩, hj, h1, h3, hl⟩ := hf
  subst hp
  intro H locs ls hL hP hD hS
  have he : (aW G Z Y)[k]? = some (G.1 k, .inr (ci, aFs G (Z k) (Y k) ks 0)) := by
    have h0 := aW_get (G := G) (Z := Z) (Y := Y) hk
    rw [hsh] at h0
    exact h0
  refine va_get (C := C) (T := T) (N := N) hx hb hts hc2 hown hK hP k he hc1 j hj (hts _ hl) (fun x9 h9 => by rw [h1] at h9; exact h9) (aFs_get ks 0 j 1 hks) hdg ?_
  exact kk H locs ls hL hP hD hS

theorem a_getfR {X : aX} {G : aG} {own : String} {cc : ByteArray} {nL : Nat} {ret : Option FieldType} {fr lo : Nat} (hX : aOK X G own cc nL ret fr lo) {pc pc' : Nat} {lv : List (Option Value)} {st : List Value} {Z : aZ} {Y : aY} {idx ci k j : Nat} {ks : List Nat} {r : Nat} {t : FieldType} (hf : aFl own idx ci j t) (hsh : aSh k = (0, ci, ks)) (hk : k < 80) (hks : ks[j]? = some (r + 2)) (hdg : decode cc pc = .ok (.getfield idx, 3)) (hp : pc + 3 = pc') (kk : AW X G pc' lv (.ref (G.1 r) :: st) Z Y) : AW X G pc lv (.ref (G.1 k) :: st) Z Y := by
  obtain ⟨p, l, e, R, s, m, args, below, meth, c, A, cs, sl, Q⟩ := X
  obtain ⟨hx, hb, hml, hown, hts, hK, hA, hlk, hr, hR, hSt⟩ := hX
  obtain ⟨C, T, N, ty, ⟨hc1, hc2, hc3, hc4⟩, hj, h1, h3, hl⟩ := hf
  subst hp
  intro H locs ls hL hP hD hS
  have he : (aW G Z Y)[k]? = some (G.1 k, .inr (ci, aFs G (Z k) (Y k) ks 0)) := by
    have h0 := aW_get (G := G) (Z := Z) (Y := Y) hk
    rw [hsh] at h0
    exact h0
  refine va_get (C := C) (T := T) (N := N) hx hb hts hc2 hown hK hP k he hc1 j hj (hts _ hl) (fun x9 h9 => by rw [h1] at h9; exact h9) (aFs_get ks 0 j (r + 2) hks) hdg ?_
  exact kk H locs ls hL hP hD hS

theorem a_putfI {X : aX} {G : aG} {own : String} {cc : ByteArray} {nL : Nat} {ret : Option FieldType} {fr lo : Nat} (hX : aOK X G own cc nL ret fr lo) {pc pc' : Nat} {lv : List (Option Value)} {st : List Value} {Z : aZ} {Y : aY} {idx ci k j : Nat} {ks : List Nat} {ji v : Int} (hf : aFl own idx ci j .int) (hnf : aNf ci j) (hji : ((0 + j : Nat) : Int) = ji) (hsh : aSh k = (0, ci, ks)) (hk : k < 80) (hks : ks[j]? = some 0) (hdg : decode cc pc = .ok (.putfield idx, 3)) (hp : pc + 3 = pc') (kk : AW X G pc' lv st (aU Z k ji v) Y) : AW X G pc lv (.int (aI v) :: .ref (G.1 k) :: st) Z Y := by
  obtain ⟨p, l, e, R, s, m, args, below, meth, c, A, cs, sl, Q⟩ := X
  obtain ⟨hx, hb, hml, hown, hts, hK, hA, hlk, hr, hR, hSt⟩ := hX
  obtain ⟨C, T, N, ty, ⟨hc1, hc2, hc3, hc4⟩, hj, h1, h3, hl⟩ := hf
  subst hp
  intro H locs ls hL hP hD hS
  have he : (aW G Z Y)[k]? = some (G.1 k, .inr (ci, aFs G (Z k) (Y k) ks 0)) := by
    have h0 := aW_get (G := G) (Z := Z) (Y := Y) hk
    rw [hsh] at h0
    exact h0
  have hjl : j < ks.length := (List.getElem?_eq_some_iff.mp hks).1
  have hd := hc3 j hj
  rw [h3] at hd
  refine va_put (C := C) (T := T) (N := N) (ty := .int) (v := .int (aI v)) hx hb hts hc2 ty hc3 hc4 hown hK hP hD hS k he hc1 j hj (hts _ hl) (fun x9 h9 => by rw [h1] at h9; exact h9) (hnf _ hc1) hd rfl rfl (by show j < (aFs G (Z k) (Y k) ks 0).length; rw [aFs_len]; exact hjl) hdg (fun H1 locs1 hP1 hD1 hS1 => ?_)
  have e : (aW G Z Y).set k (G.1 k, .inr (ci, (aFs G (Z k) (Y k) ks 0).set j (.int (aI v)))) = aW G (aU Z k ji v) Y := by
    rw [aFs_setI ks 0 j hks, hji, ← aU_up, ← aW_setZ hk, hsh]
    rfl
  rw [e] at hP1 hD1
  exact kk H1 locs1 ls hL hP1 hD1 hS1
theorem a_putfJ {X : aX} {G : aG} {own : String} {cc : ByteArray} {nL : Nat} {ret : Option FieldType} {fr lo : Nat} (hX : aOK X G own cc nL ret fr lo) {pc pc' : Nat} {lv : List (Option Value)} {st : List Value} {Z : aZ} {Y : aY} {idx ci k j : Nat} {ks : List Nat} {v : Int64} (hf : aFl own idx ci j .long) (hnf : aNf ci j) (hsh : aSh k = (0, ci, ks)) (hk : k < 80) (hks : ∀ i : Nat, ks[i]? = some 1 ↔ i = j) (hdg : decode cc pc = .ok (.putfield idx, 3)) (hp : pc + 3 = pc') (kk : AW X G pc' lv st Z (aUy Y k v)) : AW X G pc lv (.long v :: .ref (G.1 k) :: st) Z Y := by
  obtain ⟨p, l, e, R, s, m, args, below, meth, c, A, cs, sl, Q⟩ := X
  obtain ⟨hx, hb, hml, hown, hts, hK, hA, hlk, hr, hR, hSt⟩ := hX
  obtain ⟨C, T, N, ty, ⟨hc1, hc2, hc3, hc4⟩, hj, h1, h3, hl⟩ := hf
  subst hp
  intro H locs ls hL hP hD hS
  have he : (aW G Z Y)[k]? = some (G.1 k, .inr (ci, aFs G (Z k) (Y k) ks 0)) := by
    have h0 := aW_get (G := G) (Z := Z) (Y := Y) hk
    rw [hsh] at h0
    exact h0
  have hjl : j < ks.length := (List.getElem?_eq_some_iff.mp ((hks j).mpr rfl)).1
  have hd := hc3 j hj
  rw [h3] at hd
  refine va_put (C := C) (T := T) (N := N) (ty := .long) (v := .long v) hx hb hts hc2 ty hc3 hc4 hown hK hP hD hS k he hc1 j hj (hts _ hl) (fun x9 h9 => by rw [h1] at h9; exact h9) (hnf _ hc1) hd rfl rfl (by show j < (aFs G (Z k) (Y k) ks 0).length; rw [aFs_len]; exact hjl) hdg (fun H1 locs1 hP1 hD1 hS1 => ?_)
  have e : (aW G Z Y).set k (G.1 k, .inr (ci, (aFs G (Z k) (Y k) ks 0).set j (.long v))) = aW G Z (aUy Y k v) := by
    rw [aFs_setL ks 0 j hks, ← aW_setY hk, hsh]
    rfl
  rw [e] at hP1 hD1
  exact kk H1 locs1 ls hL hP1 hD1 hS1
theorem a_iald {X : aX} {G : aG} {own : String} {cc : ByteArray} {nL : Nat} {ret : Option FieldType} {fr lo : Nat} (hX : aOK X G own cc nL ret fr lo) {pc pc' : Nat} {lv : List (Option Value)} {st : List Value} {Z : aZ} {Y : aY} {k n : Nat} {z : Int} (hsh : aSh k = (1, 0, [n])) (hk : k < 80) (hn : n < 1000) (hz : 0 ≤ z ∧ z < (n : Int)) (hB : aB Z) (hdg : decode cc pc = .ok (.iaload, 1)) (hp : pc + 1 = pc') (kk : (-100000000 ≤ Z k z ∧ Z k z ≤ 100000000) → AW X G pc' lv (.int (aI (Z k z)) :: st) Z Y) : AW X G pc lv (.int (aI z) :: .ref (G.1 k) :: st) Z Y := by
  obtain ⟨p, l, e, R, s, m, args, below, meth, c, A, cs, sl, Q⟩ := X
  obtain ⟨hx, hb, hml, hown, hts, hK, hA, hlk, hr, hR, hSt⟩ := hX
  subst hp
  intro H locs ls hL hP hD hS
  have he : (aW G Z Y)[k]? = some (G.1 k, .inl (G.2.1 0, n, .inl (fun j => aI (Z k (j : Int))))) := by
    have h0 := aW_get (G := G) (Z := Z) (Y := Y) hk
    rw [hsh] at h0
    exact h0
  refine va_iald hx hb hK hP k 0 he rfl (aI_idx hz (by omega)) hdg ?_
  rw [aI_clamp (by omega), Int.toNat_of_nonneg hz.1]
  exact kk (hB k z) H locs ls hL hP hD hS
theorem a_zald {X : aX} {G : aG} {own : String} {cc : ByteArray} {nL : Nat} {ret : Option FieldType} {fr lo : Nat} (hX : aOK X G own cc nL ret fr lo) {pc pc' : Nat} {lv : List (Option Value)} {st : List Value} {Z : aZ} {Y : aY} {k n : Nat} {z : Int} (hsh : aSh k = (1, 1, [n])) (hk : k < 80) (hn : n < 1000) (hz : 0 ≤ z ∧ z < (n : Int)) (hB : aB Z) (hdg : decode cc pc = .ok (.baload, 1)) (hp : pc + 1 = pc') (kk : (-100000000 ≤ Z k z ∧ Z k z ≤ 100000000) → AW X G pc' lv (.int (aI (Z k z)) :: st) Z Y) : AW X G pc lv (.int (aI z) :: .ref (G.1 k) :: st) Z Y := by
  obtain ⟨p, l, e, R, s, m, args, below, meth, c, A, cs, sl, Q⟩ := X
  obtain ⟨hx, hb, hml, hown, hts, hK, hA, hlk, hr, hR, hSt⟩ := hX
  subst hp
  intro H locs ls hL hP hD hS
  have he : (aW G Z Y)[k]? = some (G.1 k, .inl (G.2.1 1, n, .inl (fun j => aI (Z k (j : Int))))) := by
    have h0 := aW_get (G := G) (Z := Z) (Y := Y) hk
    rw [hsh] at h0
    exact h0
  refine va_zald hx hb hK hP k 1 he rfl (aI_idx hz (by omega)) hdg ?_
  rw [aI_clamp (by omega), Int.toNat_of_nonneg hz.1]
  exact kk (hB k z) H locs ls hL hP hD hS
theorem a_iast {X : aX} {G : aG} {own : String} {cc : ByteArray} {nL : Nat} {ret : Option FieldType} {fr lo : Nat} (hX : aOK X G own cc nL ret fr lo) {pc pc' : Nat} {lv : List (Option Value)} {st : List Value} {Z : aZ} {Y : aY} {k n : Nat} {z v : Int} (hsh : aSh k = (1, 0, [n])) (hk : k < 80) (hn : n < 1000) (hz : 0 ≤ z ∧ z < (n : Int)) (hdg : decode cc pc = .ok (.iastore, 1)) (hp : pc + 1 = pc') (kk : AW X G pc' lv st (aU Z k z v) Y) : AW X G pc lv (.int (aI v) :: .int (aI z) :: .ref (G.1 k) :: st) Z Y := by
  obtain ⟨p, l, e, R, s, m, args, below, meth, c, A, cs, sl, Q⟩ := X
  obtain ⟨hx, hb, hml, hown, hts, hK, hA, hlk, hr, hR, hSt⟩ := hX
  subst hp
  intro H locs ls hL hP hD hS
  have he : (aW G Z Y)[k]? = some (G.1 k, .inl (G.2.1 0, n, .inl (fun j => aI (Z k (j : Int))))) := by
    have h0 := aW_get (G := G) (Z := Z) (Y := Y) hk
    rw [hsh] at h0
    exact h0
  refine va_iast hx hb hK hP hD hS k 0 he rfl (aI_idx hz (by omega)) hdg (fun H1 locs1 hP1 hD1 hS1 => ?_)
  have e : (aW G Z Y).set k (G.1 k, .inl (G.2.1 0, n, .inl (upd (fun j : Nat => aI (Z k (j : Int))) (aI z).toNatClampNeg (aI v)))) = aW G (aU Z k z v) Y := by
    rw [← aU_up, ← aW_setZ hk, hsh]
    refine congrArg (fun q => (aW G Z Y).set k (G.1 k, q)) ?_
    show Sum.inl (G.2.1 0, n, Sum.inl _) = Sum.inl (G.2.1 0, n, Sum.inl _)
    congr 4
    funext j
    rw [aI_clamp (by omega)]
    show (if j = z.toNat then aI v else aI (Z k (j : Int))) = aI (if (j : Int) = z then v else Z k (j : Int))
    by_cases hj : j = z.toNat
    · rw [if_pos hj, if_pos (by omega)]
    · rw [if_neg hj, if_neg (by omega)]
  rw [e] at hP1 hD1
  exact kk H1 locs1 ls hL hP1 hD1 hS1
theorem a_zast {X : aX} {G : aG} {own : String} {cc : ByteArray} {nL : Nat} {ret : Option FieldType} {fr lo : Nat} (hX : aOK X G own cc nL ret fr lo) {pc pc' : Nat} {lv : List (Option Value)} {st : List Value} {Z : aZ} {Y : aY} {k n : Nat} {z v : Int} (hv : vp_nar .boolean (aI v) = aI v) (hsh : aSh k = (1, 1, [n])) (hk : k < 80) (hn : n < 1000) (hz : 0 ≤ z ∧ z < (n : Int)) (hdg : decode cc pc = .ok (.bastore, 1)) (hp : pc + 1 = pc') (kk : AW X G pc' lv st (aU Z k z v) Y) : AW X G pc lv (.int (aI v) :: .int (aI z) :: .ref (G.1 k) :: st) Z Y := by
  obtain ⟨p, l, e, R, s, m, args, below, meth, c, A, cs, sl, Q⟩ := X
  obtain ⟨hx, hb, hml, hown, hts, hK, hA, hlk, hr, hR, hSt⟩ := hX
  subst hp
  intro H locs ls hL hP hD hS
  have he : (aW G Z Y)[k]? = some (G.1 k, .inl (G.2.1 1, n, .inl (fun j => aI (Z k (j : Int))))) := by
    have h0 := aW_get (G := G) (Z := Z) (Y := Y) hk
    rw [hsh] at h0
    exact h0
  refine va_zast hx hb hK hP hD hS k 1 he rfl (aI_idx hz (by omega)) hdg (fun H1 locs1 hP1 hD1 hS1 => ?_)
  have e : (aW G Z Y).set k (G.1 k, .inl (G.2.1 1, n, .inl (upd (fun j : Nat => aI (Z k (j : Int))) (aI z).toNatClampNeg (vp_nar .boolean (aI v))))) = aW G (aU Z k z v) Y := by
    rw [← aU_up, ← aW_setZ hk, hsh]
    refine congrArg (fun q => (aW G Z Y).set k (G.1 k, q)) ?_
    show Sum.inl (G.2.1 1, n, Sum.inl _) = Sum.inl (G.2.1 1, n, Sum.inl _)
    congr 4
    funext j
    rw [aI_clamp (by omega)]
    show (if j = z.toNat then vp_nar .boolean (aI v) else aI (Z k (j : Int))) = aI (if (j : Int) = z then v else Z k (j : Int))
    by_cases hj : j = z.toNat
    · rw [if_pos hj, if_pos (by omega)]; exact hv
    · rw [if_neg hj, if_neg (by omega)]
  rw [e] at hP1 hD1
  exact kk H1 locs1 ls hL hP1 hD1 hS1
theorem a_alen {X : aX} {G : aG} {own : String} {cc : ByteArray} {nL : Nat} {ret : Option FieldType} {fr lo : Nat} (hX : aOK X G own cc nL ret fr lo) {pc pc' : Nat} {lv : List (Option Value)} {st : List Value} {Z : aZ} {Y : aY} {k n : Nat} {v : Int} (hsh : aSh k = (1, 0, [n])) (hk : k < 80) (hv : (n : Int) = v) (hdg : decode cc pc = .ok (.arraylength, 1)) (hp : pc + 1 = pc') (kk : AW X G pc' lv (.int (aI v) :: st) Z Y) : AW X G pc lv (.ref (G.1 k) :: st) Z Y := by
  obtain ⟨p, l, e, R, s, m, args, below, meth, c, A, cs, sl, Q⟩ := X
  obtain ⟨hx, hb, hml, hown, hts, hK, hA, hlk, hr, hR, hSt⟩ := hX
  subst hp
  intro H locs ls hL hP hD hS
  have he : (aW G Z Y)[k]? = some (G.1 k, .inl (G.2.1 0, n, .inl (fun j => aI (Z k (j : Int))))) := by
    have h0 := aW_get (G := G) (Z := Z) (Y := Y) hk
    rw [hsh] at h0
    exact h0
  refine va_alen (v := aI v) hx hb hK hP k 0 he rfl (by rw [← hv, aI_nat]; rfl) hdg ?_
  exact kk H locs ls hL hP hD hS
theorem a_aald {X : aX} {G : aG} {own : String} {cc : ByteArray} {nL : Nat} {ret : Option FieldType} {fr lo : Nat} (hX : aOK X G own cc nL ret fr lo) {pc pc' : Nat} {lv : List (Option Value)} {st : List Value} {Z : aZ} {Y : aY} {k b n : Nat} {z : Int} (hsh : aSh k = (2, b, [n])) (hk : k < 80) (hn : n < 1000) (hz : 0 ≤ z ∧ z < (n : Int)) (hdg : decode cc pc = .ok (.aaload, 1)) (hp : pc + 1 = pc') (kk : AW X G pc' lv (.ref (G.1 (b + z.toNat)) :: st) Z Y) : AW X G pc lv (.int (aI z) :: .ref (G.1 k) :: st) Z Y := by
  obtain ⟨p, l, e, R, s, m, args, below, meth, c, A, cs, sl, Q⟩ := X
  obtain ⟨hx, hb, hml, hown, hts, hK, hA, hlk, hr, hR, hSt⟩ := hX
  subst hp
  intro H locs ls hL hP hD hS
  have he : (aW G Z Y)[k]? = some (G.1 k, .inl (G.2.1 2, n, .inr (.inr (.inr (.inr (fun j => if j < n then some (G.1 (b + j)) else none)))))) := by
    have h0 := aW_get (G := G) (Z := Z) (Y := Y) hk
    rw [hsh] at h0
    exact h0
  have hin := aI_idx hz (by omega)
  have hlt : (aI z).toNatClampNeg < n := by rw [aI_clamp (by omega)]; omega
  refine W.aald (v := .ref (G.1 (b + z.toNat))) (ty := .array .int) hx hb (hP k _ he) ((hK.2 2 (G.2.1 2, .array .int) rfl).1 n (fun j => va_rf (if j < n then some (G.1 (b + j)) else none))) rfl (fun q => by cases q) (by show ¬ (_ ∨ (arrV _ _ _).slots.size ≤ _); rw [arrV_size]; exact hin) (by show (arrV _ _ _).slots[_]? = _; rw [arrV_read _ _ hlt]; show some (va_rf (if (aI z).toNatClampNeg < n then some (G.1 (b + (aI z).toNatClampNeg)) else none)) = _; rw [if_pos hlt, aI_clamp (by omega)]; rfl) rfl rfl hdg ?_
  exact kk H locs ls hL hP hD hS
/-- n ints of the cell a, from sp on, into the cell d, from dp on -/
def aCp (Z : aZ) (a d : Nat) (sp dp n : Int) : aZ := fun q b => if q = d then (if dp ≤ b ∧ b < dp + n then Z a (sp + (b - dp)) else Z q b) else Z q b
theorem aB_cp {Z : aZ} {a d : Nat} {sp dp n : Int} (h : aB Z) : aB (aCp Z a d sp dp n) := by
  intro q b
  unfold aCp
  split
  · split
    · exact h _ _
    · exact h _ _
  · exact h _ _
def aCpW (own : String) (idx : Nat) : Prop := Cond.methodLink own idx arraycopyName ∈ aT ∧ Cond.native arraycopyName ∈ aT ∧ Cond.static arraycopyName ∈ aT ∧ Cond.initialized "java/lang/System" ∈ aT
theorem a_copy {X : aX} {G : aG} {own : String} {cc : ByteArray} {nL : Nat} {ret : Option FieldType} {fr lo : Nat} (hX : aOK X G own cc nL ret fr lo) {pc pc' : Nat} {lv : List (Option Value)} {st : List Value} {Z : aZ} {Y : aY} {idx k1 k2 n1 n2 : Nat} {sp dp n : Int} (hw : aCpW own idx) (hsh1 : aSh k1 = (1, 0, [n1])) (hk1 : k1 < 80) (hsh2 : aSh k2 = (1, 0, [n2])) (hk2 : k2 < 80) (hs : 0 ≤ sp ∧ 0 ≤ dp ∧ 0 ≤ n ∧ sp + n ≤ (n1 : Int) ∧ dp + n ≤ (n2 : Int) ∧ n1 < 1000 ∧ n2 < 1000) (hf : 1 ≤ fr) (hlo : (st.map fun v => v.category).sum + (nativeFrameWords "java/lang/System" "arraycopy" 5 + 11) ≤ lo) (hdg : decode cc pc = .ok (.invokestatic idx, 3)) (hp : pc + 3 = pc') (kk : AW X G pc' lv st (aCp Z k1 k2 sp dp n) Y) : AW X G pc lv (.int (aI n) :: .int (aI dp) :: .ref (G.1 k2) :: .int (aI sp) :: .ref (G.1 k1) :: st) Z Y := by
  obtain ⟨p, l, e, R, s, m, args, below, meth, c, A, cs, sl, Q⟩ := X
  obtain ⟨hx, hb, hml, hown, hts, hK, hA, hlk, hr, hR, hSt⟩ := hX
  subst hp
  intro H locs ls hL hP hD hS
  have he1 : (aW G Z Y)[k1]? = some (G.1 k1, .inl (G.2.1 0, n1, .inl (fun j => aI (Z k1 (j : Int))))) := by
    have h0 := aW_get (G := G) (Z := Z) (Y := Y) hk1
    rw [hsh1] at h0
    exact h0
  have he2 : (aW G Z Y)[k2]? = some (G.1 k2, .inl (G.2.1 0, n2, .inl (fun j => aI (Z k2 (j : Int))))) := by
    have h0 := aW_get (G := G) (Z := Z) (Y := Y) hk2
    rw [hsh2] at h0
    exact h0
  have np : ∀ z : Int, 0 ≤ z → z < 2147483648 → ¬ aI z < 0 := fun z h h2 => by
    rw [show (0 : Int32) = aI 0 from rfl, aI_lt (by omega) (by omega)]
    omega
  refine va_copyi (ty := .int) (n0 := n1) (n1 := n2) hx hb (hml.trans (hL.1.trans hml).symm) hown (hts _ hw.1) (hts _ hw.2.1) (hts _ hw.2.2.1) (hts _ hw.2.2.2) hK hP hD hS k1 k2 0 0 he1 he2 rfl rfl rfl (np sp hs.1 (by omega)) (np dp hs.2.1 (by omega)) (np n hs.2.2.1 (by omega)) (by rw [aI_clamp (by omega), aI_clamp (by omega)]; omega) (by rw [aI_clamp (by omega), aI_clamp (by omega)]; omega) (fun i hi => rfl) (by omega) (by omega) hdg (fun H1 locs1 hP1 hD1 hS1 => ?_)
  have e : (aW G Z Y).set k2 (G.1 k2, .inl (G.2.1 0, n2, .inl (va_cpy (fun j : Nat => aI (Z k1 (j : Int))) (fun j : Nat => aI (Z k2 (j : Int))) (aI sp).toNatClampNeg (aI dp).toNatClampNeg (aI n).toNatClampNeg))) = aW G (aCp Z k1 k2 sp dp n) Y := by
    have e2 : aCp Z k1 k2 sp dp n = aUp Z k2 (fun b => if dp ≤ b ∧ b < dp + n then Z k1 (sp + (b - dp)) else Z k2 b) := by
      funext q b
      unfold aCp aUp
      by_cases hq : q = k2
      · subst hq; simp
      · simp [hq]
    rw [e2, ← aW_setZ hk2, hsh2]
    refine congrArg (fun q => (aW G Z Y).set k2 (G.1 k2, q)) ?_
    show Sum.inl (G.2.1 0, n2, Sum.inl _) = Sum.inl (G.2.1 0, n2, Sum.inl _)
    congr 4
    funext j
    rw [aI_clamp (by omega), aI_clamp (by omega), aI_clamp (by omega)]
    show (if dp.toNat ≤ j ∧ j < dp.toNat + n.toNat then aI (Z k1 ((sp.toNat + (j - dp.toNat) : Nat) : Int)) else aI (Z k2 (j : Int))) = aI (if dp ≤ (j : Int) ∧ (j : Int) < dp + n then Z k1 (sp + ((j : Int) - dp)) else Z k2 (j : Int))
    by_cases hj : dp.toNat ≤ j ∧ j < dp.toNat + n.toNat
    · rw [if_pos hj, if_pos (by omega), show ((sp.toNat + (j - dp.toNat) : Nat) : Int) = sp + ((j : Int) - dp) by omega]
    · rw [if_neg hj, if_neg (by omega)]
  rw [e] at hP1 hD1
  exact kk H1 locs1 ls hL hP1 hD1 hS1
def aMmaxW (own : String) (idx : Nat) : Prop := Cond.methodLink own idx Lib.Math.max.name ∈ aT ∧ Cond.static Lib.Math.max.name ∈ aT ∧ Cond.initialized "java/lang/Math" ∈ aT ∧ Cond.code Lib.Math.max.name Lib.Math.max.code 2 (some .int) ∈ aT
theorem a_max {X : aX} {G : aG} {own : String} {cc : ByteArray} {nL : Nat} {ret : Option FieldType} {fr lo : Nat} (hX : aOK X G own cc nL ret fr lo) {pc pc' : Nat} {lv : List (Option Value)} {st : List Value} {Z : aZ} {Y : aY} {idx : Nat} {x y : Int} (hw : aMmaxW own idx) (hrx : -2147483648 ≤ x ∧ x < 2147483648) (hry : -2147483648 ≤ y ∧ y < 2147483648) (hf : 1 ≤ fr) (hlo : (st.map fun v => v.category).sum + 13 ≤ lo) (hdg : decode cc pc = .ok (.invokestatic idx, 3)) (hp : pc + 3 = pc') (kk : AW X G pc' lv (.int (aI (max x y)) :: st) Z Y) : AW X G pc lv (.int (aI y) :: .int (aI x) :: st) Z Y := by
  obtain ⟨p, l, e, R, s, m, args, below, meth, c, A, cs, sl, Q⟩ := X
  obtain ⟨hx, hb, hml, hown, hts, hK, hA, hlk, hr, hR, hSt⟩ := hX
  subst hp
  intro H locs ls hL hP hD hS
  refine va_mmax hx hb (hml.trans (hL.1.trans hml).symm) hown (hts _ hw.1) (hts _ hw.2.1) (hts _ hw.2.2.1) (hts _ hw.2.2.2) (by omega) (by omega) (by omega) (by omega) hdg ?_
  have e : (if aI x < aI y then aI y else aI x) = aI (max x y) := by
    simp only [aI_lt hrx hry]
    by_cases h : x < y
    · rw [if_pos h, show max x y = y by omega]
    · rw [if_neg h, show max x y = x by omega]
  rw [e]
  exact kk H locs ls hL hP hD hS
def aMminW (own : String) (idx : Nat) : Prop := Cond.methodLink own idx Lib.Math.min.name ∈ aT ∧ Cond.static Lib.Math.min.name ∈ aT ∧ Cond.initialized "java/lang/Math" ∈ aT ∧ Cond.code Lib.Math.min.name Lib.Math.min.code 2 (some .int) ∈ aT
theorem a_min {X : aX} {G : aG} {own : String} {cc : ByteArray} {nL : Nat} {ret : Option FieldType} {fr lo : Nat} (hX : aOK X G own cc nL ret fr lo) {pc pc' : Nat} {lv : List (Option Value)} {st : List Value} {Z : aZ} {Y : aY} {idx : Nat} {x y : Int} (hw : aMminW own idx) (hrx : -2147483648 ≤ x ∧ x < 2147483648) (hry : -2147483648 ≤ y ∧ y < 2147483648) (hf : 1 ≤ fr) (hlo : (st.map fun v => v.category).sum + 13 ≤ lo) (hdg : decode cc pc = .ok (.invokestatic idx, 3)) (hp : pc + 3 = pc') (kk : AW X G pc' lv (.int (aI (min x y)) :: st) Z Y) : AW X G pc lv (.int (aI y) :: .int (aI x) :: st) Z Y := by
  obtain ⟨p, l, e, R, s, m, args, below, meth, c, A, cs, sl, Q⟩ := X
  obtain ⟨hx, hb, hml, hown, hts, hK, hA, hlk, hr, hR, hSt⟩ := hX
  subst hp
  intro H locs ls hL hP hD hS
  refine va_mmin hx hb (hml.trans (hL.1.trans hml).symm) hown (hts _ hw.1) (hts _ hw.2.1) (hts _ hw.2.2.1) (hts _ hw.2.2.2) (by omega) (by omega) (by omega) (by omega) hdg ?_
  have e : (if aI y < aI x then aI y else aI x) = aI (min x y) := by
    simp only [aI_lt hry hrx]
    by_cases h : y < x
    · rw [if_pos h, show min x y = y by omega]
    · rw [if_neg h, show min x y = x by omega]
  rw [e]
  exact kk H locs ls hL hP hD hS
theorem a_iret {X : aX} {G : aG} {own : String} {cc : ByteArray} {nL : Nat} {fr lo : Nat} (hX : aOK X G own cc nL (some .int) fr lo) {pc : Nat} {lv : List (Option Value)} {Z : aZ} {Y : aY} {v : Int32} (hdg : decode cc pc = .ok (.ireturn, 1)) (kk : aRet X G (some (.int v)) Z Y) : AW X G pc lv [.int v] Z Y := by
  obtain ⟨p, l, e, R, s, m, args, below, meth, c, A, cs, sl, Q⟩ := X
  obtain ⟨hx, hb, hml, hown, hts, hK, hA, hlk, hr, hR, hSt⟩ := hX
  intro H locs ls hL hP hD hS
  obtain ⟨Qc, free, rfl, hq⟩ := kk
  exact W.iret (v := v) hx hb hr (hq H locs hP hS).1 (hq H locs hP hS).2 hdg hlk
theorem a_lret {X : aX} {G : aG} {own : String} {cc : ByteArray} {nL : Nat} {fr lo : Nat} (hX : aOK X G own cc nL (some .long) fr lo) {pc : Nat} {lv : List (Option Value)} {Z : aZ} {Y : aY} {v : Int64} (hdg : decode cc pc = .ok (.lreturn, 1)) (kk : aRet X G (some (.long v)) Z Y) : AW X G pc lv [.long v] Z Y := by
  obtain ⟨p, l, e, R, s, m, args, below, meth, c, A, cs, sl, Q⟩ := X
  obtain ⟨hx, hb, hml, hown, hts, hK, hA, hlk, hr, hR, hSt⟩ := hX
  intro H locs ls hL hP hD hS
  obtain ⟨Qc, free, rfl, hq⟩ := kk
  exact W.lret (v := v) hx hb hr (hq H locs hP hS).1 (hq H locs hP hS).2 hdg hlk
theorem a_vret {X : aX} {G : aG} {own : String} {cc : ByteArray} {nL : Nat} {fr lo : Nat} (hX : aOK X G own cc nL none fr lo) {pc : Nat} {lv : List (Option Value)} {Z : aZ} {Y : aY}  (hdg : decode cc pc = .ok (.return_, 1)) (kk : aRet X G none Z Y) : AW X G pc lv [] Z Y := by
  obtain ⟨p, l, e, R, s, m, args, below, meth, c, A, cs, sl, Q⟩ := X
  obtain ⟨hx, hb, hml, hown, hts, hK, hA, hlk, hr, hR, hSt⟩ := hX
  intro H locs ls hL hP hD hS
  obtain ⟨Qc, free, rfl, hq⟩ := kk
  exact W.vret hx hb hr (hq H locs hP hS).1 (hq H locs hP hS).2 hdg hlk
theorem a_zret {X : aX} {G : aG} {own : String} {cc : ByteArray} {nL : Nat} {fr lo : Nat} (hX : aOK X G own cc nL (some .boolean) fr lo) {pc : Nat} {lv : List (Option Value)} {Z : aZ} {Y : aY} {v : Int} (hv : v = 0 ∨ v = 1) (hdg : decode cc pc = .ok (.ireturn, 1)) (kk : aRet X G (some (.int (aI v))) Z Y) : AW X G pc lv [.int (aI v)] Z Y := by
  obtain ⟨p, l, e, R, s, m, args, below, meth, c, A, cs, sl, Q⟩ := X
  obtain ⟨hx, hb, hml, hown, hts, hK, hA, hlk, hr, hR, hSt⟩ := hX
  intro H locs ls hL hP hD hS
  obtain ⟨Qc, free, rfl, hq⟩ := kk
  exact W.zret (v := aI v) (ty := .boolean) hx hb hr (by rcases hv with rfl | rfl <;> rfl) (hq H locs hP hS).1 (hq H locs hP hS).2 hdg hlk
/-! calls -/
theorem a_run {p : Program} {l : Launch} {e : Env} {R : Room} {s : State} {m : MethodId} {args : Array Value} {below : List Frame} {meth : Method} {c : Code} {H : Heap} {locs : List Loc} {cs sl : Nat} {Q : State → Prop} {G : aG} {pc : Nat} {ls : Array Slot} {rest st0 : List Value} {a : Array Value} {A A1 : Nat → Prop} {Post : Option Value → aZ → aY → Prop} (hr : va_Run p l e R s m args below meth c H locs cs sl 0 0 (F0 m pc ls st0) rest (aQ G A1 Post a) A1) (hS : va_S A s.heap H locs) (hA : ∀ q, A1 q → A q)
    (kk : ∀ (r : Option Value) (Z' : aZ) (Y' : aY) (H1 : Heap) (locs1 : List Loc), Post r Z' Y' → va_P G.2.2.1 vwCl (aW G Z' Y') H1 → va_S A s.heap H1 locs1 → W p l e R s m args below meth c H1 locs1 cs sl Q (F0 m (pc + 3) ls (r.toList ++ rest))) : W p l e R s m args below meth c H locs cs sl Q (F0 m pc ls st0) := by
  intro T hT X
  obtain ⟨v, st₀, t, T', L, h0, X', hL, e1, e2, ⟨⟨r, Z', Y', hv, hp, hb⟩, hz, hk⟩, st⟩ := hr T hT X
  cases hv
  rw [h0] at hz hk
  obtain ⟨t2, a1, b1⟩ := kk v Z' Y' T'.heap (locs ++ L) hp (by rw [e1]; exact hb)
    ⟨Nat.le_trans hS.1 (by rw [e1]; exact hz), fun q h1 h2 => by rw [e1, hk q (Nat.lt_of_lt_of_le h1 hS.1) (fun z => h2 (hA q z))]; exact hS.2.1 q h1 h2, fun q hq => by
      rcases List.mem_append.mp hq with h | h
      · exact hS.2.2 q h
      · exact hA _ (hL q h)⟩ T' rfl X'
  exact ⟨t2, st t2 a1, b1⟩
theorem aWorld_blind {G : aG} {Z : aZ} {Y : aY} {sz : Nat} {av : List Value} : FrameBlind (va_Pc av (aWorld G Z Y sz)) := fun a U g mk q => ⟨q.1, q.2.1, q.2.2.1, va_K.moved (u := U) (U := U.calling g mk a) (Vm.Alike.refl U.vm) q.2.2.2.1, q.2.2.2.2.1, vk_S.moved (u := U) (U := U.calling g mk a) (Vm.Alike.refl U.vm) q.2.2.2.2.2.1, fun i hi => vk_R.same (u := U) (U := U.calling g mk a) rfl (q.2.2.2.2.2.2 i hi)⟩
theorem aWorld_at {G : aG} {Z : aZ} {Y : aY} {s : State} {H : Heap} {A : Nat → Prop} {locs : List Loc} (hK : va_K G.2.2.1 vwCl (aTys G) s) (hP : va_P G.2.2.1 vwCl (aW G Z Y) H) (hD : va_D A (aW G Z Y)) (hS : va_S A s.heap H locs) (hA : ∀ q, s.heap.size ≤ q → A q) (hSt : aStr G A s) (av : List Value) : ∀ U : State, U.heap = H → s.WarmedH U.vm → va_Pc av (aWorld G Z Y H.size) av.toArray U := by
  intro U hU hW
  have hF : ∀ q, va_A (aW G Z Y) H.size q → A q := fun q hq => by
    rcases hq with ⟨k, e, h⟩ | h
    · exact hD.2 k _ h
    · exact hA q (Nat.le_trans hS.1 h)
  refine ⟨rfl, by rw [hU], by rw [hU]; exact hP, va_K.moved hW.alike hK, hD.weaken (fun _ _ _ _ => trivial), ?_, fun i hi => vk_R.warm hW (hSt.2 i hi)⟩
  have h1 := (hSt.1.kept (H1 := H) hS.2.1).narrow hF
  rw [hU]
  exact h1.moved hW.alike
/-- an instance method of ours, called by the pool entry idx of own: its words, its class, how many arguments -/
def aCV (own : String) (idx ci : Nat) (y : MethodName) (b : ByteArray) (nL : Nat) (ret : Option FieldType) (n : Nat) : Prop := GoodIn aT (wsV own idx y.cls y (Cond.code y b nL ret :: aT)) ∧ (∃ r, vwCl[ci]? = some r ∧ r.1 = y.cls) ∧ (y.cls ≠ "java/lang/invoke/MethodHandle" ∧ y.cls ≠ "java/lang/invoke/VarHandle") ∧ (parseMethodDescriptor y.desc).map (fun d => d.parameters.length) = some n
def aCS (own : String) (idx : Nat) (y : MethodName) (b : ByteArray) (nL : Nat) (ret : Option FieldType) (n : Nat) : Prop := GoodIn aT (va_wsS own idx y (Cond.code y b nL ret :: aT)) ∧ (y.cls ≠ "java/lang/invoke/MethodHandle" ∧ y.cls ≠ "java/lang/invoke/VarHandle") ∧ (parseMethodDescriptor y.desc).map (fun d => d.parameters.length) = some n
theorem aT_word {w : Cond} (h : w ∈ aT) : w ∈ aT ∧ ((w.onTables && w.keeps) = true ∨ ∃ ty, w = .arrayClass ty) := ⟨h, good_of_word (List.mem_filter.mp h).2⟩
theorem aCV.of {own : String} {idx ci n : Nat} {y : MethodName} {b : ByteArray} {nL : Nat} {ret : Option FieldType} (h1 : Cond.methodLink own idx y ∈ aT) (h2 : Cond.instanceMethod y ∈ aT) (h3 : Cond.selects y.cls y y ∈ aT) (h4 : Cond.initialized y.cls ∈ aT) (h5 : Cond.code y b nL ret ∈ aT) (hc : ∃ r, vwCl[ci]? = some r ∧ r.1 = y.cls) (hm : y.cls ≠ "java/lang/invoke/MethodHandle" ∧ y.cls ≠ "java/lang/invoke/VarHandle") (hn : (parseMethodDescriptor y.desc).map (fun d => d.parameters.length) = some n) : aCV own idx ci y b nL ret n := by
  refine ⟨fun w hw => ?_, hc, hm, hn⟩
  unfold wsV at hw
  rcases List.mem_append.mp hw with h | h
  · simp only [List.mem_cons, List.not_mem_nil, or_false] at h
    rcases h with rfl | rfl | rfl | rfl <;> exact aT_word (by assumption)
  · exact aT_goodT h5 w h
theorem aCS.of {own : String} {idx n : Nat} {y : MethodName} {b : ByteArray} {nL : Nat} {ret : Option FieldType} (h1 : Cond.methodLink own idx y ∈ aT) (h2 : Cond.static y ∈ aT) (h4 : Cond.initialized y.cls ∈ aT) (h5 : Cond.code y b nL ret ∈ aT) (hm : y.cls ≠ "java/lang/invoke/MethodHandle" ∧ y.cls ≠ "java/lang/invoke/VarHandle") (hn : (parseMethodDescriptor y.desc).map (fun d => d.parameters.length) = some n) : aCS own idx y b nL ret n := by
  refine ⟨fun w hw => ?_, hm, hn⟩
  unfold va_wsS at hw
  rcases List.mem_append.mp hw with h | h
  · simp only [List.mem_cons, List.not_mem_nil, or_false] at h
    rcases h with rfl | rfl | rfl <;> exact aT_word (by assumption)
  · exact aT_goodT h5 w h
theorem a_callVG {X : aX} {G : aG} {own : String} {cc : ByteArray} {nL : Nat} {ret : Option FieldType} {fr lo : Nat} (hX : aOK X G own cc nL ret fr lo) {pc pc' : Nat} {lv : List (Option Value)} {st : List Value} {Z : aZ} {Y : aY} {idx ci k n nL2 fr2 lo2 : Nat} {y : MethodName} {b : ByteArray} {ret2 : Option FieldType} {As st0 : List Value} {ks : List Nat} {Post : Option Value → aZ → aY → Prop} (hc : aCV own idx ci y b nL2 ret2 n) (hS2 : aS G y b nL2 ret2 fr2 lo2 (.ref (G.1 k) :: As) Z Y Post) (hsh : aSh k = (0, ci, ks)) (hk : k < 80) (hst : st0 = As.reverse ++ .ref (G.1 k) :: st) (hn : As.length = n) (hro : fr2 + 1 ≤ fr ∧ 8 + (nL2 + 11) + lo2 ≤ lo) (hW : (st.map fun v => v.category).sum ≤ 8) (hdg : decode cc pc = .ok (.invokevirtual idx, 3)) (hp : pc + 3 = pc') (kk : ∀ r Z' Y', Post r Z' Y' → AW X G pc' lv (r.toList ++ st) Z' Y') : AW X G pc lv st0 Z Y := by
  obtain ⟨p, l, e, R, s, m, args, below, meth, c, A, cs, sl, Q⟩ := X
  obtain ⟨hx, hb, hml, hown, hts, hK, hA, hlk, hr, hR, hSt⟩ := hX
  subst hp
  subst hst
  intro H locs ls hL hP hD hS
  obtain ⟨hc1, ⟨r0, hc2, hc3⟩, hc4, hc5⟩ := hc
  have he : (aW G Z Y)[k]? = some (G.1 k, .inr (ci, aFs G (Z k) (Y k) ks 0)) := by
    have h0 := aW_get (G := G) (Z := Z) (Y := Y) hk
    rw [hsh] at h0
    exact h0
  have hrec := va_recv hK hP hc2 he
  rw [hc3] at hrec
  have hF : ∀ q, va_A (aW G Z Y) H.size q → A q := fun q hq => by
    rcases hq with ⟨k, e, h⟩ | h
    · exact hD.2 k _ h
    · exact hA q (Nat.le_trans hS.1 h)
  refine a_run (va_runV (As := As) (rest := st) ⟨hx, hb, hml, hown, hts⟩ (hS2 l H.size) (cwV n hts hc1 rfl rfl rfl ⟨rfl, hc4.1, hc4.2, hc5⟩ ⟨by show fr2 + 1 ≤ _; omega, by show 8 + (nL2 + 11) + lo2 ≤ _; omega⟩) ⟨aWorld_blind, hrec, aWorld_at hK hP hD hS hA hSt _⟩ rfl hn (hL.1.trans hml) rfl (lv_room hW) hdg ⟨by omega, by omega⟩) hS hF (fun r Z' Y' H1 locs1 hPo hP1 hS1 => ?_)
  exact kk r Z' Y' hPo H1 locs1 ls hL hP1 (aW_D hD) hS1
theorem a_callSG {X : aX} {G : aG} {own : String} {cc : ByteArray} {nL : Nat} {ret : Option FieldType} {fr lo : Nat} (hX : aOK X G own cc nL ret fr lo) {pc pc' : Nat} {lv : List (Option Value)} {st : List Value} {Z : aZ} {Y : aY} {idx n nL2 fr2 lo2 : Nat} {y : MethodName} {b : ByteArray} {ret2 : Option FieldType} {As st0 : List Value} {Post : Option Value → aZ → aY → Prop} (hc : aCS own idx y b nL2 ret2 n) (hS2 : aS G y b nL2 ret2 fr2 lo2 As Z Y Post) (hst : st0 = As.reverse ++ st) (hn : As.length = n) (hro : fr2 + 1 ≤ fr ∧ 8 + (nL2 + 11) + lo2 ≤ lo) (hW : (st.map fun v => v.category).sum ≤ 8) (hdg : decode cc pc = .ok (.invokestatic idx, 3)) (hp : pc + 3 = pc') (kk : ∀ r Z' Y', Post r Z' Y' → AW X G pc' lv (r.toList ++ st) Z' Y') : AW X G pc lv st0 Z Y := by
  obtain ⟨p, l, e, R, s, m, args, below, meth, c, A, cs, sl, Q⟩ := X
  obtain ⟨hx, hb, hml, hown, hts, hK, hA, hlk, hr, hR, hSt⟩ := hX
  subst hp
  subst hst
  intro H locs ls hL hP hD hS
  obtain ⟨hc1, hc4, hc5⟩ := hc
  have hF : ∀ q, va_A (aW G Z Y) H.size q → A q := fun q hq => by
    rcases hq with ⟨k, e, h⟩ | h
    · exact hD.2 k _ h
    · exact hA q (Nat.le_trans hS.1 h)
  refine a_run (va_runS (As := As) (rest := st) ⟨hx, hb, hml, hown, hts⟩ (hS2 l H.size) (va_cwS n hts hc1 rfl rfl rfl ⟨hc4.1, hc4.2, hc5⟩ ⟨by show fr2 + 1 ≤ _; omega, by show 8 + (nL2 + 11) + lo2 ≤ _; omega⟩) ⟨aWorld_blind, aWorld_at hK hP hD hS hA hSt _⟩ rfl hn (hL.1.trans hml) rfl (lv_room hW) hdg ⟨by omega, by omega⟩) hS hF (fun r Z' Y' H1 locs1 hPo hP1 hS1 => ?_)
  exact kk r Z' Y' hPo H1 locs1 ls hL hP1 (aW_D hD) hS1
/-- the answer is v, and nothing changes -/
def aPu (v : Option Value) (Z : aZ) (Y : aY) : Option Value → aZ → aY → Prop := fun r Z' Y' => r = v ∧ Z' = Z ∧ Y' = Y
theorem a_callV0 {X : aX} {G : aG} {own : String} {cc : ByteArray} {nL : Nat} {ret : Option FieldType} {fr lo : Nat} (hX : aOK X G own cc nL ret fr lo) {pc pc' : Nat} {lv : List (Option Value)} {st : List Value} {Z : aZ} {Y : aY} {idx ci k nL2 fr2 lo2 : Nat} {y : MethodName} {b : ByteArray} {ret2 : Option FieldType} {ks : List Nat} {Post : Option Value → aZ → aY → Prop} (hc : aCV own idx ci y b nL2 ret2 0) (hS2 : aS G y b nL2 ret2 fr2 lo2 ([.ref (G.1 k)]) Z Y Post) (hsh : aSh k = (0, ci, ks)) (hk : k < 80) (hro : fr2 + 1 ≤ fr ∧ 8 + (nL2 + 11) + lo2 ≤ lo) (hW : (st.map fun v => v.category).sum ≤ 8) (hdg : decode cc pc = .ok (.invokevirtual idx, 3)) (hp : pc + 3 = pc') (kk : ∀ r Z' Y', Post r Z' Y' → AW X G pc' lv (r.toList ++ st) Z' Y') : AW X G pc lv (.ref (G.1 k) :: st) Z Y :=
  a_callVG hX (As := []) hc hS2 hsh hk rfl rfl hro hW hdg hp kk
theorem a_callS0 {X : aX} {G : aG} {own : String} {cc : ByteArray} {nL : Nat} {ret : Option FieldType} {fr lo : Nat} (hX : aOK X G own cc nL ret fr lo) {pc pc' : Nat} {lv : List (Option Value)} {st : List Value} {Z : aZ} {Y : aY} {idx nL2 fr2 lo2 : Nat} {y : MethodName} {b : ByteArray} {ret2 : Option FieldType}  {Post : Option Value → aZ → aY → Prop} (hc : aCS own idx y b nL2 ret2 0) (hS2 : aS G y b nL2 ret2 fr2 lo2 [] Z Y Post) (hro : fr2 + 1 ≤ fr ∧ 8 + (nL2 + 11) + lo2 ≤ lo) (hW : (st.map fun v => v.category).sum ≤ 8) (hdg : decode cc pc = .ok (.invokestatic idx, 3)) (hp : pc + 3 = pc') (kk : ∀ r Z' Y', Post r Z' Y' → AW X G pc' lv (r.toList ++ st) Z' Y') : AW X G pc lv (st) Z Y :=
  a_callSG hX (As := []) hc hS2 rfl rfl hro hW hdg hp kk
theorem a_callV0P {X : aX} {G : aG} {own : String} {cc : ByteArray} {nL : Nat} {ret : Option FieldType} {fr lo : Nat} (hX : aOK X G own cc nL ret fr lo) {pc pc' : Nat} {lv : List (Option Value)} {st : List Value} {Z : aZ} {Y : aY} {idx ci k nL2 fr2 lo2 : Nat} {y : MethodName} {b : ByteArray} {ret2 : Option FieldType} {ks : List Nat} {v : Option Value} (hc : aCV own idx ci y b nL2 ret2 0) (hS2 : aS G y b nL2 ret2 fr2 lo2 ([.ref (G.1 k)]) Z Y (aPu v Z Y)) (hsh : aSh k = (0, ci, ks)) (hk : k < 80) (hro : fr2 + 1 ≤ fr ∧ 8 + (nL2 + 11) + lo2 ≤ lo) (hW : (st.map fun v => v.category).sum ≤ 8) (hdg : decode cc pc = .ok (.invokevirtual idx, 3)) (hp : pc + 3 = pc') (kk : AW X G pc' lv (v.toList ++ st) Z Y) : AW X G pc lv (.ref (G.1 k) :: st) Z Y :=
  a_callVG hX (As := []) hc hS2 hsh hk rfl rfl hro hW hdg hp (fun r Z' Y' h => by obtain ⟨rfl, rfl, rfl⟩ := h; exact kk)
theorem a_callS0P {X : aX} {G : aG} {own : String} {cc : ByteArray} {nL : Nat} {ret : Option FieldType} {fr lo : Nat} (hX : aOK X G own cc nL ret fr lo) {pc pc' : Nat} {lv : List (Option Value)} {st : List Value} {Z : aZ} {Y : aY} {idx nL2 fr2 lo2 : Nat} {y : MethodName} {b : ByteArray} {ret2 : Option FieldType}  {v : Option Value} (hc : aCS own idx y b nL2 ret2 0) (hS2 : aS G y b nL2 ret2 fr2 lo2 [] Z Y (aPu v Z Y)) (hro : fr2 + 1 ≤ fr ∧ 8 + (nL2 + 11) + lo2 ≤ lo) (hW : (st.map fun v => v.category).sum ≤ 8) (hdg : decode cc pc = .ok (.invokestatic idx, 3)) (hp : pc + 3 = pc') (kk : AW X G pc' lv (v.toList ++ st) Z Y) : AW X G pc lv (st) Z Y :=
  a_callSG hX (As := []) hc hS2 rfl rfl hro hW hdg hp (fun r Z' Y' h => by obtain ⟨rfl, rfl, rfl⟩ := h; exact kk)
theorem a_callV1 {X : aX} {G : aG} {own : String} {cc : ByteArray} {nL : Nat} {ret : Option FieldType} {fr lo : Nat} (hX : aOK X G own cc nL ret fr lo) {pc pc' : Nat} {lv : List (Option Value)} {st : List Value} {Z : aZ} {Y : aY} {idx ci k nL2 fr2 lo2 : Nat} {y : MethodName} {b : ByteArray} {ret2 : Option FieldType} {w0 : Value} {ks : List Nat} {Post : Option Value → aZ → aY → Prop} (hc : aCV own idx ci y b nL2 ret2 1) (hS2 : aS G y b nL2 ret2 fr2 lo2 ([.ref (G.1 k), w0]) Z Y Post) (hsh : aSh k = (0, ci, ks)) (hk : k < 80) (hro : fr2 + 1 ≤ fr ∧ 8 + (nL2 + 11) + lo2 ≤ lo) (hW : (st.map fun v => v.category).sum ≤ 8) (hdg : decode cc pc = .ok (.invokevirtual idx, 3)) (hp : pc + 3 = pc') (kk : ∀ r Z' Y', Post r Z' Y' → AW X G pc' lv (r.toList ++ st) Z' Y') : AW X G pc lv (w0 :: .ref (G.1 k) :: st) Z Y :=
  a_callVG hX (As := [w0]) hc hS2 hsh hk rfl rfl hro hW hdg hp kk
theorem a_callS1 {X : aX} {G : aG} {own : String} {cc : ByteArray} {nL : Nat} {ret : Option FieldType} {fr lo : Nat} (hX : aOK X G own cc nL ret fr lo) {pc pc' : Nat} {lv : List (Option Value)} {st : List Value} {Z : aZ} {Y : aY} {idx nL2 fr2 lo2 : Nat} {y : MethodName} {b : ByteArray} {ret2 : Option FieldType} {w0 : Value}  {Post : Option Value → aZ → aY → Prop} (hc : aCS own idx y b nL2 ret2 1) (hS2 : aS G y b nL2 ret2 fr2 lo2 [w0] Z Y Post) (hro : fr2 + 1 ≤ fr ∧ 8 + (nL2 + 11) + lo2 ≤ lo) (hW : (st.map fun v => v.category).sum ≤ 8) (hdg : decode cc pc = .ok (.invokestatic idx, 3)) (hp : pc + 3 = pc') (kk : ∀ r Z' Y', Post r Z' Y' → AW X G pc' lv (r.toList ++ st) Z' Y') : AW X G pc lv (w0 :: st) Z Y :=
  a_callSG hX (As := [w0]) hc hS2 rfl rfl hro hW hdg hp kk
theorem a_callV1P {X : aX} {G : aG} {own : String} {cc : ByteArray} {nL : Nat} {ret : Option FieldType} {fr lo : Nat} (hX : aOK X G own cc nL ret fr lo) {pc pc' : Nat} {lv : List (Option Value)} {st : List Value} {Z : aZ} {Y : aY} {idx ci k nL2 fr2 lo2 : Nat} {y : MethodName} {b : ByteArray} {ret2 : Option FieldType} {w0 : Value} {ks : List Nat} {v : Option Value} (hc : aCV own idx ci y b nL2 ret2 1) (hS2 : aS G y b nL2 ret2 fr2 lo2 ([.ref (G.1 k), w0]) Z Y (aPu v Z Y)) (hsh : aSh k = (0, ci, ks)) (hk : k < 80) (hro : fr2 + 1 ≤ fr ∧ 8 + (nL2 + 11) + lo2 ≤ lo) (hW : (st.map fun v => v.category).sum ≤ 8) (hdg : decode cc pc = .ok (.invokevirtual idx, 3)) (hp : pc + 3 = pc') (kk : AW X G pc' lv (v.toList ++ st) Z Y) : AW X G pc lv (w0 :: .ref (G.1 k) :: st) Z Y :=
  a_callVG hX (As := [w0]) hc hS2 hsh hk rfl rfl hro hW hdg hp (fun r Z' Y' h => by obtain ⟨rfl, rfl, rfl⟩ := h; exact kk)
theorem a_callS1P {X : aX} {G : aG} {own : String} {cc : ByteArray} {nL : Nat} {ret : Option FieldType} {fr lo : Nat} (hX : aOK X G own cc nL ret fr lo) {pc pc' : Nat} {lv : List (Option Value)} {st : List Value} {Z : aZ} {Y : aY} {idx nL2 fr2 lo2 : Nat} {y : MethodName} {b : ByteArray} {ret2 : Option FieldType} {w0 : Value}  {v : Option Value} (hc : aCS own idx y b nL2 ret2 1) (hS2 : aS G y b nL2 ret2 fr2 lo2 [w0] Z Y (aPu v Z Y)) (hro : fr2 + 1 ≤ fr ∧ 8 + (nL2 + 11) + lo2 ≤ lo) (hW : (st.map fun v => v.category).sum ≤ 8) (hdg : decode cc pc = .ok (.invokestatic idx, 3)) (hp : pc + 3 = pc') (kk : AW X G pc' lv (v.toList ++ st) Z Y) : AW X G pc lv (w0 :: st) Z Y :=
  a_callSG hX (As := [w0]) hc hS2 rfl rfl hro hW hdg hp (fun r Z' Y' h => by obtain ⟨rfl, rfl, rfl⟩ := h; exact kk)
theorem a_callV2 {X : aX} {G : aG} {own : String} {cc : ByteArray} {nL : Nat} {ret : Option FieldType} {fr lo : Nat} (hX : aOK X G own cc nL ret fr lo) {pc pc' : Nat} {lv : List (Option Value)} {st : List Value} {Z : aZ} {Y : aY} {idx ci k nL2 fr2 lo2 : Nat} {y : MethodName} {b : ByteArray} {ret2 : Option FieldType} {w0 w1 : Value} {ks : List Nat} {Post : Option Value → aZ → aY → Prop} (hc : aCV own idx ci y b nL2 ret2 2) (hS2 : aS G y b nL2 ret2 fr2 lo2 ([.ref (G.1 k), w0, w1]) Z Y Post) (hsh : aSh k = (0, ci, ks)) (hk : k < 80) (hro : fr2 + 1 ≤ fr ∧ 8 + (nL2 + 11) + lo2 ≤ lo) (hW : (st.map fun v => v.category).sum ≤ 8) (hdg : decode cc pc = .ok (.invokevirtual idx, 3)) (hp : pc + 3 = pc') (kk : ∀ r Z' Y', Post r Z' Y' → AW X G pc' lv (r.toList ++ st) Z' Y') : AW X G pc lv (w1 :: w0 :: .ref (G.1 k) :: st) Z Y :=
  a_callVG hX (As := [w0, w1]) hc hS2 hsh hk rfl rfl hro hW hdg hp kk
theorem a_callS2 {X : aX} {G : aG} {own : String} {cc : ByteArray} {nL : Nat} {ret : Option FieldType} {fr lo : Nat} (hX : aOK X G own cc nL ret fr lo) {pc pc' : Nat} {lv : List (Option Value)} {st : List Value} {Z : aZ} {Y : aY} {idx nL2 fr2 lo2 : Nat} {y : MethodName} {b : ByteArray} {ret2 : Option FieldType} {w0 w1 : Value}  {Post : Option Value → aZ → aY → Prop} (hc : aCS own idx y b nL2 ret2 2) (hS2 : aS G y b nL2 ret2 fr2 lo2 [w0, w1] Z Y Post) (hro : fr2 + 1 ≤ fr ∧ 8 + (nL2 + 11) + lo2 ≤ lo) (hW : (st.map fun v => v.category).sum ≤ 8) (hdg : decode cc pc = .ok (.invokestatic idx, 3)) (hp : pc + 3 = pc') (kk : ∀ r Z' Y', Post r Z' Y' → AW X G pc' lv (r.toList ++ st) Z' Y') : AW X G pc lv (w1 :: w0 :: st) Z Y :=
  a_callSG hX (As := [w0, w1]) hc hS2 rfl rfl hro hW hdg hp kk
theorem a_callV2P {X : aX} {G : aG} {own : String} {cc : ByteArray} {nL : Nat} {ret : Option FieldType} {fr lo : Nat} (hX : aOK X G own cc nL ret fr lo) {pc pc' : Nat} {lv : List (Option Value)} {st : List Value} {Z : aZ} {Y : aY} {idx ci k nL2 fr2 lo2 : Nat} {y : MethodName} {b : ByteArray} {ret2 : Option FieldType} {w0 w1 : Value} {ks : List Nat} {v : Option Value} (hc : aCV own idx ci y b nL2 ret2 2) (hS2 : aS G y b nL2 ret2 fr2 lo2 ([.ref (G.1 k), w0, w1]) Z Y (aPu v Z Y)) (hsh : aSh k = (0, ci, ks)) (hk : k < 80) (hro : fr2 + 1 ≤ fr ∧ 8 + (nL2 + 11) + lo2 ≤ lo) (hW : (st.map fun v => v.category).sum ≤ 8) (hdg : decode cc pc = .ok (.invokevirtual idx, 3)) (hp : pc + 3 = pc') (kk : AW X G pc' lv (v.toList ++ st) Z Y) : AW X G pc lv (w1 :: w0 :: .ref (G.1 k) :: st) Z Y :=
  a_callVG hX (As := [w0, w1]) hc hS2 hsh hk rfl rfl hro hW hdg hp (fun r Z' Y' h => by obtain ⟨rfl, rfl, rfl⟩ := h; exact kk)
theorem a_callS2P {X : aX} {G : aG} {own : String} {cc : ByteArray} {nL : Nat} {ret : Option FieldType} {fr lo : Nat} (hX : aOK X G own cc nL ret fr lo) {pc pc' : Nat} {lv : List (Option Value)} {st : List Value} {Z : aZ} {Y : aY} {idx nL2 fr2 lo2 : Nat} {y : MethodName} {b : ByteArray} {ret2 : Option FieldType} {w0 w1 : Value}  {v : Option Value} (hc : aCS own idx y b nL2 ret2 2) (hS2 : aS G y b nL2 ret2 fr2 lo2 [w0, w1] Z Y (aPu v Z Y)) (hro : fr2 + 1 ≤ fr ∧ 8 + (nL2 + 11) + lo2 ≤ lo) (hW : (st.map fun v => v.category).sum ≤ 8) (hdg : decode cc pc = .ok (.invokestatic idx, 3)) (hp : pc + 3 = pc') (kk : AW X G pc' lv (v.toList ++ st) Z Y) : AW X G pc lv (w1 :: w0 :: st) Z Y :=
  a_callSG hX (As := [w0, w1]) hc hS2 rfl rfl hro hW hdg hp (fun r Z' Y' h => by obtain ⟨rfl, rfl, rfl⟩ := h; exact kk)
theorem a_callV3 {X : aX} {G : aG} {own : String} {cc : ByteArray} {nL : Nat} {ret : Option FieldType} {fr lo : Nat} (hX : aOK X G own cc nL ret fr lo) {pc pc' : Nat} {lv : List (Option Value)} {st : List Value} {Z : aZ} {Y : aY} {idx ci k nL2 fr2 lo2 : Nat} {y : MethodName} {b : ByteArray} {ret2 : Option FieldType} {w0 w1 w2 : Value} {ks : List Nat} {Post : Option Value → aZ → aY → Prop} (hc : aCV own idx ci y b nL2 ret2 3) (hS2 : aS G y b nL2 ret2 fr2 lo2 ([.ref (G.1 k), w0, w1, w2]) Z Y Post) (hsh : aSh k = (0, ci, ks)) (hk : k < 80) (hro : fr2 + 1 ≤ fr ∧ 8 + (nL2 + 11) + lo2 ≤ lo) (hW : (st.map fun v => v.category).sum ≤ 8) (hdg : decode cc pc = .ok (.invokevirtual idx, 3)) (hp : pc + 3 = pc') (kk : ∀ r Z' Y', Post r Z' Y' → AW X G pc' lv (r.toList ++ st) Z' Y') : AW X G pc lv (w2 :: w1 :: w0 :: .ref (G.1 k) :: st) Z Y :=
  a_callVG hX (As := [w0, w1, w2]) hc hS2 hsh hk rfl rfl hro hW hdg hp kk
theorem a_callS3 {X : aX} {G : aG} {own : String} {cc : ByteArray} {nL : Nat} {ret : Option FieldType} {fr lo : Nat} (hX : aOK X G own cc nL ret fr lo) {pc pc' : Nat} {lv : List (Option Value)} {st : List Value} {Z : aZ} {Y : aY} {idx nL2 fr2 lo2 : Nat} {y : MethodName} {b : ByteArray} {ret2 : Option FieldType} {w0 w1 w2 : Value}  {Post : Option Value → aZ → aY → Prop} (hc : aCS own idx y b nL2 ret2 3) (hS2 : aS G y b nL2 ret2 fr2 lo2 [w0, w1, w2] Z Y Post) (hro : fr2 + 1 ≤ fr ∧ 8 + (nL2 + 11) + lo2 ≤ lo) (hW : (st.map fun v => v.category).sum ≤ 8) (hdg : decode cc pc = .ok (.invokestatic idx, 3)) (hp : pc + 3 = pc') (kk : ∀ r Z' Y', Post r Z' Y' → AW X G pc' lv (r.toList ++ st) Z' Y') : AW X G pc lv (w2 :: w1 :: w0 :: st) Z Y :=
  a_callSG hX (As := [w0, w1, w2]) hc hS2 rfl rfl hro hW hdg hp kk
theorem a_callV3P {X : aX} {G : aG} {own : String} {cc : ByteArray} {nL : Nat} {ret : Option FieldType} {fr lo : Nat} (hX : aOK X G own cc nL ret fr lo) {pc pc' : Nat} {lv : List (Option Value)} {st : List Value} {Z : aZ} {Y : aY} {idx ci k nL2 fr2 lo2 : Nat} {y : MethodName} {b : ByteArray} {ret2 : Option FieldType} {w0 w1 w2 : Value} {ks : List Nat} {v : Option Value} (hc : aCV own idx ci y b nL2 ret2 3) (hS2 : aS G y b nL2 ret2 fr2 lo2 ([.ref (G.1 k), w0, w1, w2]) Z Y (aPu v Z Y)) (hsh : aSh k = (0, ci, ks)) (hk : k < 80) (hro : fr2 + 1 ≤ fr ∧ 8 + (nL2 + 11) + lo2 ≤ lo) (hW : (st.map fun v => v.category).sum ≤ 8) (hdg : decode cc pc = .ok (.invokevirtual idx, 3)) (hp : pc + 3 = pc') (kk : AW X G pc' lv (v.toList ++ st) Z Y) : AW X G pc lv (w2 :: w1 :: w0 :: .ref (G.1 k) :: st) Z Y :=
  a_callVG hX (As := [w0, w1, w2]) hc hS2 hsh hk rfl rfl hro hW hdg hp (fun r Z' Y' h => by obtain ⟨rfl, rfl, rfl⟩ := h; exact kk)
theorem a_callS3P {X : aX} {G : aG} {own : String} {cc : ByteArray} {nL : Nat} {ret : Option FieldType} {fr lo : Nat} (hX : aOK X G own cc nL ret fr lo) {pc pc' : Nat} {lv : List (Option Value)} {st : List Value} {Z : aZ} {Y : aY} {idx nL2 fr2 lo2 : Nat} {y : MethodName} {b : ByteArray} {ret2 : Option FieldType} {w0 w1 w2 : Value}  {v : Option Value} (hc : aCS own idx y b nL2 ret2 3) (hS2 : aS G y b nL2 ret2 fr2 lo2 [w0, w1, w2] Z Y (aPu v Z Y)) (hro : fr2 + 1 ≤ fr ∧ 8 + (nL2 + 11) + lo2 ≤ lo) (hW : (st.map fun v => v.category).sum ≤ 8) (hdg : decode cc pc = .ok (.invokestatic idx, 3)) (hp : pc + 3 = pc') (kk : AW X G pc' lv (v.toList ++ st) Z Y) : AW X G pc lv (w2 :: w1 :: w0 :: st) Z Y :=
  a_callSG hX (As := [w0, w1, w2]) hc hS2 rfl rfl hro hW hdg hp (fun r Z' Y' h => by obtain ⟨rfl, rfl, rfl⟩ := h; exact kk)
theorem a_callV4 {X : aX} {G : aG} {own : String} {cc : ByteArray} {nL : Nat} {ret : Option FieldType} {fr lo : Nat} (hX : aOK X G own cc nL ret fr lo) {pc pc' : Nat} {lv : List (Option Value)} {st : List Value} {Z : aZ} {Y : aY} {idx ci k nL2 fr2 lo2 : Nat} {y : MethodName} {b : ByteArray} {ret2 : Option FieldType} {w0 w1 w2 w3 : Value} {ks : List Nat} {Post : Option Value → aZ → aY → Prop} (hc : aCV own idx ci y b nL2 ret2 4) (hS2 : aS G y b nL2 ret2 fr2 lo2 ([.ref (G.1 k), w0, w1, w2, w3]) Z Y Post) (hsh : aSh k = (0, ci, ks)) (hk : k < 80) (hro : fr2 + 1 ≤ fr ∧ 8 + (nL2 + 11) + lo2 ≤ lo) (hW : (st.map fun v => v.category).sum ≤ 8) (hdg : decode cc pc = .ok (.invokevirtual idx, 3)) (hp : pc + 3 = pc') (kk : ∀ r Z' Y', Post r Z' Y' → AW X G pc' lv (r.toList ++ st) Z' Y') : AW X G pc lv (w3 :: w2 :: w1 :: w0 :: .ref (G.1 k) :: st) Z Y :=
  a_callVG hX (As := [w0, w1, w2, w3]) hc hS2 hsh hk rfl rfl hro hW hdg hp kk
theorem a_callS4 {X : aX} {G : aG} {own : String} {cc : ByteArray} {nL : Nat} {ret : Option FieldType} {fr lo : Nat} (hX : aOK X G own cc nL ret fr lo) {pc pc' : Nat} {lv : List (Option Value)} {st : List Value} {Z : aZ} {Y : aY} {idx nL2 fr2 lo2 : Nat} {y : MethodName} {b : ByteArray} {ret2 : Option FieldType} {w0 w1 w2 w3 : Value}  {Post : Option Value → aZ → aY → Prop} (hc : aCS own idx y b nL2 ret2 4) (hS2 : aS G y b nL2 ret2 fr2 lo2 [w0, w1, w2, w3] Z Y Post) (hro : fr2 + 1 ≤ fr ∧ 8 + (nL2 + 11) + lo2 ≤ lo) (hW : (st.map fun v => v.category).sum ≤ 8) (hdg : decode cc pc = .ok (.invokestatic idx, 3)) (hp : pc + 3 = pc') (kk : ∀ r Z' Y', Post r Z' Y' → AW X G pc' lv (r.toList ++ st) Z' Y') : AW X G pc lv (w3 :: w2 :: w1 :: w0 :: st) Z Y :=
  a_callSG hX (As := [w0, w1, w2, w3]) hc hS2 rfl rfl hro hW hdg hp kk
theorem a_callV4P {X : aX} {G : aG} {own : String} {cc : ByteArray} {nL : Nat} {ret : Option FieldType} {fr lo : Nat} (hX : aOK X G own cc nL ret fr lo) {pc pc' : Nat} {lv : List (Option Value)} {st : List Value} {Z : aZ} {Y : aY} {idx ci k nL2 fr2 lo2 : Nat} {y : MethodName} {b : ByteArray} {ret2 : Option FieldType} {w0 w1 w2 w3 : Value} {ks : List Nat} {v : Option Value} (hc : aCV own idx ci y b nL2 ret2 4) (hS2 : aS G y b nL2 ret2 fr2 lo2 ([.ref (G.1 k), w0, w1, w2, w3]) Z Y (aPu v Z Y)) (hsh : aSh k = (0, ci, ks)) (hk : k < 80) (hro : fr2 + 1 ≤ fr ∧ 8 + (nL2 + 11) + lo2 ≤ lo) (hW : (st.map fun v => v.category).sum ≤ 8) (hdg : decode cc pc = .ok (.invokevirtual idx, 3)) (hp : pc + 3 = pc') (kk : AW X G pc' lv (v.toList ++ st) Z Y) : AW X G pc lv (w3 :: w2 :: w1 :: w0 :: .ref (G.1 k) :: st) Z Y :=
  a_callVG hX (As := [w0, w1, w2, w3]) hc hS2 hsh hk rfl rfl hro hW hdg hp (fun r Z' Y' h => by obtain ⟨rfl, rfl, rfl⟩ := h; exact kk)
theorem a_callS4P {X : aX} {G : aG} {own : String} {cc : ByteArray} {nL : Nat} {ret : Option FieldType} {fr lo : Nat} (hX : aOK X G own cc nL ret fr lo) {pc pc' : Nat} {lv : List (Option Value)} {st : List Value} {Z : aZ} {Y : aY} {idx nL2 fr2 lo2 : Nat} {y : MethodName} {b : ByteArray} {ret2 : Option FieldType} {w0 w1 w2 w3 : Value}  {v : Option Value} (hc : aCS own idx y b nL2 ret2 4) (hS2 : aS G y b nL2 ret2 fr2 lo2 [w0, w1, w2, w3] Z Y (aPu v Z Y)) (hro : fr2 + 1 ≤ fr ∧ 8 + (nL2 + 11) + lo2 ≤ lo) (hW : (st.map fun v => v.category).sum ≤ 8) (hdg : decode cc pc = .ok (.invokestatic idx, 3)) (hp : pc + 3 = pc') (kk : AW X G pc' lv (v.toList ++ st) Z Y) : AW X G pc lv (w3 :: w2 :: w1 :: w0 :: st) Z Y :=
  a_callSG hX (As := [w0, w1, w2, w3]) hc hS2 rfl rfl hro hW hdg hp (fun r Z' Y' h => by obtain ⟨rfl, rfl, rfl⟩ := h; exact kk)
theorem a_callV5 {X : aX} {G : aG} {own : String} {cc : ByteArray} {nL : Nat} {ret : Option FieldType} {fr lo : Nat} (hX : aOK X G own cc nL ret fr lo) {pc pc' : Nat} {lv : List (Option Value)} {st : List Value} {Z : aZ} {Y : aY} {idx ci k nL2 fr2 lo2 : Nat} {y : MethodName} {b : ByteArray} {ret2 : Option FieldType} {w0 w1 w2 w3 w4 : Value} {ks : List Nat} {Post : Option Value → aZ → aY → Prop} (hc : aCV own idx ci y b nL2 ret2 5) (hS2 : aS G y b nL2 ret2 fr2 lo2 ([.ref (G.1 k), w0, w1, w2, w3, w4]) Z Y Post) (hsh : aSh k = (0, ci, ks)) (hk : k < 80) (hro : fr2 + 1 ≤ fr ∧ 8 + (nL2 + 11) + lo2 ≤ lo) (hW : (st.map fun v => v.category).sum ≤ 8) (hdg : decode cc pc = .ok (.invokevirtual idx, 3)) (hp : pc + 3 = pc') (kk : ∀ r Z' Y', Post r Z' Y' → AW X G pc' lv (r.toList ++ st) Z' Y') : AW X G pc lv (w4 :: w3 :: w2 :: w1 :: w0 :: .ref (G.1 k) :: st) Z Y :=
  a_callVG hX (As := [w0, w1, w2, w3, w4]) hc hS2 hsh hk rfl rfl hro hW hdg hp kk
theorem a_callV5P {X : aX} {G : aG} {own : String} {cc : ByteArray} {nL : Nat} {ret : Option FieldType} {fr lo : Nat} (hX : aOK X G own cc nL ret fr lo) {pc pc' : Nat} {lv : List (Option Value)} {st : List Value} {Z : aZ} {Y : aY} {idx ci k nL2 fr2 lo2 : Nat} {y : MethodName} {b : ByteArray} {ret2 : Option FieldType} {w0 w1 w2 w3 w4 : Value} {ks : List Nat} {v : Option Value} (hc : aCV own idx ci y b nL2 ret2 5) (hS2 : aS G y b nL2 ret2 fr2 lo2 ([.ref (G.1 k), w0, w1, w2, w3, w4]) Z Y (aPu v Z Y)) (hsh : aSh k = (0, ci, ks)) (hk : k < 80) (hro : fr2 + 1 ≤ fr ∧ 8 + (nL2 + 11) + lo2 ≤ lo) (hW : (st.map fun v => v.category).sum ≤ 8) (hdg : decode cc pc = .ok (.invokevirtual idx, 3)) (hp : pc + 3 = pc') (kk : AW X G pc' lv (v.toList ++ st) Z Y) : AW X G pc lv (w4 :: w3 :: w2 :: w1 :: w0 :: .ref (G.1 k) :: st) Z Y :=
  a_callVG hX (As := [w0, w1, w2, w3, w4]) hc hS2 hsh hk rfl rfl hro hW hdg hp (fun r Z' Y' h => by obtain ⟨rfl, rfl, rfl⟩ := h; exact kk)
end

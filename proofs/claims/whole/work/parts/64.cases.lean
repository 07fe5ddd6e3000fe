theorem qPuffs_all {P : aP} {S : aSk} (hP : okP P) (hS : okS P S) : qPuffs P S = sPuffs P S := by
  have h1 := hP.2.1.1
  by_cases h0 : 0 < P 0 1
  · exact qPuffs_eq hP hS h0
  · have e : P 0 1 = 0 := by omega
    have f0 : fAll P S 0 = fOkW P S 0 0 := by
      unfold fAll
      rw [e]
      rfl
    have fk : ∀ k : Int, 0 < k → fAll P S k = false := fun k hk => by
      unfold fAll
      rw [e, show k.toNat = (k.toNat - 1) + 1 by omega, Int.pow_succ]
      rw [show (2 * 0 : Int) = 0 by decide, Int.mul_zero]
      rfl
    have k0 : fOkW P S 0 0 = decide (sMost P S = sOwedAll P S) := rfl
    have k1 : plMost P S 0 = sMost P S := by
      unfold plMost sMost
      exact vFill_congr (fun c hc => by rw [e] at hc; exact absurd hc (by omega)) (fun _ _ => rfl) _
    have k2 : plCost (P 0 1).toNat 0 = 0 := by
      rw [e]
      rfl
    unfold qPuffs sPuffs
    rw [show (6 : Nat) ^ (P 0 1).toNat = 0 + 1 by rw [e]; rfl]
    show _ = if 3 < (if plCost (P 0 1).toNat 0 < 4 ∧ plMost P S 0 = sOwedAll P S then plCost (P 0 1).toNat 0 else 4) then -9 else (if plCost (P 0 1).toNat 0 < 4 ∧ plMost P S 0 = sOwedAll P S then plCost (P 0 1).toNat 0 else 4)
    rw [k1, k2]
    by_cases c : sMost P S = sOwedAll P S
    · have hF : (if (0 : Int) < 4 ∧ sMost P S = sOwedAll P S then (0 : Int) else 4) = 0 := if_pos ⟨by decide, c⟩
      rw [hF, if_neg (by decide)]
      exact vFst_at (m := 0) (fun k hk => absurd hk (by omega)) (by show fAll P S 0 = true; rw [f0, k0]; exact decide_eq_true c) 4 (by decide)
    · have hF : (if (0 : Int) < 4 ∧ sMost P S = sOwedAll P S then (0 : Int) else 4) = 4 := if_neg (fun q => c q.2)
      rw [hF, if_pos (by decide)]
      refine vFst_none 4 (fun k hk => ?_)
      by_cases z : k = 0
      · rw [z, f0, k0]
        exact decide_eq_false c
      · exact fk k (by omega)
set_option maxHeartbeats 4000000 in
set_option maxRecDepth 100000 in
theorem lk_0 {X : aX} {G : aG} {b L : Nat} {xs : Nat → Int32} {rt : Option FieldType} (hX : aOK X G RL cL_law 4 rt 10 358) (hSc : lSc X b L xs) (hL : L ≤ 3072) {i : Int} {Z : aZ} {Y : aY} (hi : 0 ≤ i ∧ i + 6 ≤ L) (hR : Rel i Z Y) (K : ∀ (Z' : aZ) (Y' : aY), Rel (i + 1) Z' Y' → AW X G 973 [some (.ref b), some (.ref (G.1 0)), some (.ref (G.1 62)), some (.int (aI i))] [] Z' Y') : AW X G 160 [some (.ref b), some (.ref (G.1 0)), some (.ref (G.1 62)), some (.int (aI i))] [] Z Y := by
  obtain ⟨hB, hP, hS, hd4, hd, hT, hA, hW⟩ := hR.c (by omega)
  refine a_aload_n hX rfl rfl dL_law_160 (pc' := 161) rfl ?_
  refine l_arg hX hSc (k := 1) rfl rfl (by omega) hL dL_law_161 rfl dL_law_162 rfl dL_law_163 rfl dL_law_164 rfl dL_law_165 (pc' := 166) rfl ?_
  refine a_cV1I hX cv_L_13 (x_write (lS_rng _ _) hB hT) rfl (by decide) ⟨by decide, by decide⟩ (Nat.le_of_ble_eq_true rfl) dL_law_166 (pc' := 169) rfl (fun x1 Z1 Y1 g1 => ?_)
  have hc : ∀ a : Nat, 62 ≤ a → Z1 a = Z a := fun a ha => by
    rw [g1.2.1]
    split
    · rw [aU_row (by omega), aU_row (by omega)]
    · rfl
  obtain ⟨qP, qS, qd4, qd, qz, q15, qN, qV, qn, qt, qW⟩ := hR.q (by omega) hc
  refine a_aload_n hX rfl rfl dL_law_169 (pc' := 170) rfl ?_
  refine l_arg hX hSc (k := 1) rfl rfl (by omega) hL dL_law_170 rfl dL_law_171 rfl dL_law_172 rfl dL_law_173 rfl dL_law_174 (pc' := 175) rfl ?_
  refine a_cV1I hX cv_L_17 (q_write (lS_rng _ _) g1.2.2.1 qn) rfl (by decide) ⟨by decide, by decide⟩ (Nat.le_of_ble_eq_true rfl) dL_law_175 (pc' := 178) rfl (fun x2 Z2 Y2 g2 => ?_)
  have F0 := rl_write hR g1 g2
  rw [F0.1]
  have F := F0.2.mono (show i ≤ i + 1 by omega)
  refine l_eq hX dL_law_178 (tgt := 973) (by decide) ?_
  exact K _ _ F
set_option maxHeartbeats 4000000 in
set_option maxRecDepth 100000 in
theorem lk_1 {X : aX} {G : aG} {b L : Nat} {xs : Nat → Int32} {rt : Option FieldType} (hX : aOK X G RL cL_law 4 rt 10 358) (hSc : lSc X b L xs) (hL : L ≤ 3072) {i : Int} {Z : aZ} {Y : aY} (hi : 0 ≤ i ∧ i + 6 ≤ L) (hR : Rel i Z Y) (K : ∀ (Z' : aZ) (Y' : aY), Rel (i + 1) Z' Y' → AW X G 973 [some (.ref b), some (.ref (G.1 0)), some (.ref (G.1 62)), some (.int (aI i))] [] Z' Y') : AW X G 183 [some (.ref b), some (.ref (G.1 0)), some (.ref (G.1 62)), some (.int (aI i))] [] Z Y := by
  obtain ⟨hB, hP, hS, hd4, hd, hT, hA, hW⟩ := hR.c (by omega)
  refine a_aload_n hX rfl rfl dL_law_183 (pc' := 184) rfl ?_
  refine a_cV0I hX cv_L_18 (x_wipe hB hT) rfl (by decide) ⟨by decide, by decide⟩ (Nat.le_of_ble_eq_true rfl) dL_law_184 (pc' := 187) rfl (fun x1 Z1 Y1 g1 => ?_)
  have hc : ∀ a : Nat, 62 ≤ a → Z1 a = Z a := fun a ha => by rw [g1.2.1, aU_row (by omega)]
  obtain ⟨qP, qS, qd4, qd, qz, q15, qN, qV, qn, qt, qW⟩ := hR.q (by omega) hc
  refine a_aload_n hX rfl rfl dL_law_187 (pc' := 188) rfl ?_
  refine a_cV0I hX cv_L_22 (q_wipe g1.2.2.1 qn) rfl (by decide) ⟨by decide, by decide⟩ (Nat.le_of_ble_eq_true rfl) dL_law_188 (pc' := 191) rfl (fun x2 Z2 Y2 g2 => ?_)
  have F0 := rl_wipe hR g1 g2
  rw [F0.1]
  have F := F0.2.mono (show i ≤ i + 1 by omega)
  refine l_eq hX dL_law_191 (tgt := 973) (by decide) ?_
  exact K _ _ F
set_option maxHeartbeats 4000000 in
set_option maxRecDepth 100000 in
theorem lk_2 {X : aX} {G : aG} {b L : Nat} {xs : Nat → Int32} {rt : Option FieldType} (hX : aOK X G RL cL_law 4 rt 10 358) (hSc : lSc X b L xs) (hL : L ≤ 3072) {i : Int} {Z : aZ} {Y : aY} (hi : 0 ≤ i ∧ i + 6 ≤ L) (hR : Rel i Z Y) (K : ∀ (Z' : aZ) (Y' : aY), Rel (i + 1) Z' Y' → AW X G 973 [some (.ref b), some (.ref (G.1 0)), some (.ref (G.1 62)), some (.int (aI i))] [] Z' Y') : AW X G 196 [some (.ref b), some (.ref (G.1 0)), some (.ref (G.1 62)), some (.int (aI i))] [] Z Y := by
  obtain ⟨hB, hP, hS, hd4, hd, hT, hA, hW⟩ := hR.c (by omega)
  refine a_aload_n hX rfl rfl dL_law_196 (pc' := 197) rfl ?_
  refine a_cV0i hX cv_L_23 (x_fault hB hT) rfl (by decide) ⟨by decide, by decide⟩ (Nat.le_of_ble_eq_true rfl) dL_law_197 (pc' := 200) rfl ?_
  have hc : ∀ a : Nat, 62 ≤ a → Z a = Z a := fun _ _ => rfl
  obtain ⟨qP, qS, qd4, qd, qz, q15, qN, qV, qn, qt, qW⟩ := hR.q (by omega) hc
  refine a_aload_n hX rfl rfl dL_law_200 (pc' := 201) rfl ?_
  refine a_cV0I hX cv_L_26 (q_fault qt qV qn hB) rfl (by decide) ⟨by decide, by decide⟩ (Nat.le_of_ble_eq_true rfl) dL_law_201 (pc' := 204) rfl (fun x2 Z2 Y2 g2 => ?_)
  obtain ⟨e2, t2, hB2, rfl⟩ := g2
  rw [e2, hR.1.2.1, hR.1.2.2]
  have F : Rel (i + 1) Z2 Y2 := hR.sm t2.2.2.2.sm t2.2.2.1 hB2 hR.2.2.2.2.2.2.1 (by omega)
  refine l_eq hX dL_law_204 (tgt := 973) (by decide) ?_
  exact K _ _ F
set_option maxHeartbeats 4000000 in
set_option maxRecDepth 100000 in
theorem lk_3 {X : aX} {G : aG} {b L : Nat} {xs : Nat → Int32} {rt : Option FieldType} (hX : aOK X G RL cL_law 4 rt 10 358) (hSc : lSc X b L xs) (hL : L ≤ 3072) {i : Int} {Z : aZ} {Y : aY} (hi : 0 ≤ i ∧ i + 6 ≤ L) (hR : Rel i Z Y) (K : ∀ (Z' : aZ) (Y' : aY), Rel (i + 1) Z' Y' → AW X G 973 [some (.ref b), some (.ref (G.1 0)), some (.ref (G.1 62)), some (.int (aI i))] [] Z' Y') : AW X G 209 [some (.ref b), some (.ref (G.1 0)), some (.ref (G.1 62)), some (.int (aI i))] [] Z Y := by
  obtain ⟨hB, hP, hS, hd4, hd, hT, hA, hW⟩ := hR.c (by omega)
  refine a_aload_n hX rfl rfl dL_law_209 (pc' := 210) rfl ?_
  refine a_cV0I hX cv_L_27 (x_pass hB hT) rfl (by decide) ⟨by decide, by decide⟩ (Nat.le_of_ble_eq_true rfl) dL_law_210 (pc' := 213) rfl (fun x1 Z1 Y1 g1 => ?_)
  have hc : ∀ a : Nat, 62 ≤ a → Z1 a = Z a := fun a ha => by
    by_cases c : tFault (Z 2) (Z 1 1) = -9
    · exact (g1.2.2.1 c).2.2.2.2.2.2.2 a (by omega) (by omega) (by omega)
    · rw [g1.2.1 c]
  obtain ⟨qP, qS, qd4, qd, qz, q15, qN, qV, qn, qt, qW⟩ := hR.q (by omega) hc
  refine a_aload_n hX rfl rfl dL_law_213 (pc' := 214) rfl ?_
  refine a_cV0I hX cv_L_30 (q_pass qt qV qn g1.2.2.2.1) rfl (by decide) ⟨by decide, by decide⟩ (Nat.le_of_ble_eq_true rfl) dL_law_214 (pc' := 217) rfl (fun x2 Z2 Y2 g2 => ?_)
  have F0 := rl_pass hR g1 g2 hi.1
  rw [F0.1]
  have F := F0.2.mono (show i ≤ i + 1 by omega)
  refine l_eq hX dL_law_217 (tgt := 973) (by decide) ?_
  exact K _ _ F
set_option maxHeartbeats 4000000 in
set_option maxRecDepth 100000 in
theorem lk_4 {X : aX} {G : aG} {b L : Nat} {xs : Nat → Int32} {rt : Option FieldType} (hX : aOK X G RL cL_law 4 rt 10 358) (hSc : lSc X b L xs) (hL : L ≤ 3072) {i : Int} {Z : aZ} {Y : aY} (hi : 0 ≤ i ∧ i + 6 ≤ L) (hR : Rel i Z Y) (K : ∀ (Z' : aZ) (Y' : aY), Rel (i + 1) Z' Y' → AW X G 973 [some (.ref b), some (.ref (G.1 0)), some (.ref (G.1 62)), some (.int (aI i))] [] Z' Y') : AW X G 222 [some (.ref b), some (.ref (G.1 0)), some (.ref (G.1 62)), some (.int (aI i))] [] Z Y := by
  obtain ⟨hB, hP, hS, hd4, hd, hT, hA, hW⟩ := hR.c (by omega)
  refine a_aload_n hX rfl rfl dL_law_222 (pc' := 223) rfl ?_
  refine l_arg hX hSc (k := 1) rfl rfl (by omega) hL dL_law_223 rfl dL_law_224 rfl dL_law_225 rfl dL_law_226 rfl dL_law_227 (pc' := 228) rfl ?_
  refine l_arg hX hSc (k := 2) rfl rfl (by omega) hL dL_law_228 rfl dL_law_229 rfl dL_law_230 rfl dL_law_231 rfl dL_law_232 (pc' := 233) rfl ?_
  refine a_cV2i hX cv_L_31 (x_cloud (lS_rng _ _) (lS_rng _ _) hB hP hS hd) rfl (by decide) ⟨by decide, by decide⟩ (Nat.le_of_ble_eq_true rfl) dL_law_233 (pc' := 236) rfl ?_
  have hc : ∀ a : Nat, 62 ≤ a → Z a = Z a := fun _ _ => rfl
  obtain ⟨qP, qS, qd4, qd, qz, q15, qN, qV, qn, qt, qW⟩ := hR.q (by omega) hc
  refine a_aload_n hX rfl rfl dL_law_236 (pc' := 237) rfl ?_
  refine l_arg hX hSc (k := 1) rfl rfl (by omega) hL dL_law_237 rfl dL_law_238 rfl dL_law_239 rfl dL_law_240 rfl dL_law_241 (pc' := 242) rfl ?_
  refine l_arg hX hSc (k := 2) rfl rfl (by omega) hL dL_law_242 rfl dL_law_243 rfl dL_law_244 rfl dL_law_245 rfl dL_law_246 (pc' := 247) rfl ?_
  refine a_cV2i hX cv_L_35 (q_cloud (lS_rng _ _) (lS_rng _ _) hB qP qS qd) rfl (by decide) ⟨by decide, by decide⟩ (Nat.le_of_ble_eq_true rfl) dL_law_247 (pc' := 250) rfl ?_
  rw [hR.2.1.2, hR.2.2.1.2]
  have F : Rel (i + 1) Z Y := hR.mono (by omega)
  refine l_eq hX dL_law_250 (tgt := 973) (by decide) ?_
  exact K _ _ F
set_option maxHeartbeats 4000000 in
set_option maxRecDepth 100000 in
theorem lk_5 {X : aX} {G : aG} {b L : Nat} {xs : Nat → Int32} {rt : Option FieldType} (hX : aOK X G RL cL_law 4 rt 10 358) (hSc : lSc X b L xs) (hL : L ≤ 3072) {i : Int} {Z : aZ} {Y : aY} (hi : 0 ≤ i ∧ i + 6 ≤ L) (hR : Rel i Z Y) (K : ∀ (Z' : aZ) (Y' : aY), Rel (i + 1) Z' Y' → AW X G 973 [some (.ref b), some (.ref (G.1 0)), some (.ref (G.1 62)), some (.int (aI i))] [] Z' Y') : AW X G 255 [some (.ref b), some (.ref (G.1 0)), some (.ref (G.1 62)), some (.int (aI i))] [] Z Y := by
  obtain ⟨hB, hP, hS, hd4, hd, hT, hA, hW⟩ := hR.c (by omega)
  refine a_aload_n hX rfl rfl dL_law_255 (pc' := 256) rfl ?_
  refine l_arg hX hSc (k := 1) rfl rfl (by omega) hL dL_law_256 rfl dL_law_257 rfl dL_law_258 rfl dL_law_259 rfl dL_law_260 (pc' := 261) rfl ?_
  refine l_arg hX hSc (k := 2) rfl rfl (by omega) hL dL_law_261 rfl dL_law_262 rfl dL_law_263 rfl dL_law_264 rfl dL_law_265 (pc' := 266) rfl ?_
  refine a_cV2i hX cv_L_36 (x_paper (lS_rng _ _) (lS_rng _ _) hB hP hS hd) rfl (by decide) ⟨by decide, by decide⟩ (Nat.le_of_ble_eq_true rfl) dL_law_266 (pc' := 269) rfl ?_
  have hc : ∀ a : Nat, 62 ≤ a → Z a = Z a := fun _ _ => rfl
  obtain ⟨qP, qS, qd4, qd, qz, q15, qN, qV, qn, qt, qW⟩ := hR.q (by omega) hc
  refine a_aload_n hX rfl rfl dL_law_269 (pc' := 270) rfl ?_
  refine l_arg hX hSc (k := 1) rfl rfl (by omega) hL dL_law_270 rfl dL_law_271 rfl dL_law_272 rfl dL_law_273 rfl dL_law_274 (pc' := 275) rfl ?_
  refine l_arg hX hSc (k := 2) rfl rfl (by omega) hL dL_law_275 rfl dL_law_276 rfl dL_law_277 rfl dL_law_278 rfl dL_law_279 (pc' := 280) rfl ?_
  refine a_cV2i hX cv_L_39 (q_paper (lS_rng _ _) (lS_rng _ _) hB qP qS qd) rfl (by decide) ⟨by decide, by decide⟩ (Nat.le_of_ble_eq_true rfl) dL_law_280 (pc' := 283) rfl ?_
  rw [hR.2.1.2, hR.2.2.1.2]
  have F : Rel (i + 1) Z Y := hR.mono (by omega)
  refine l_eq hX dL_law_283 (tgt := 973) (by decide) ?_
  exact K _ _ F
set_option maxHeartbeats 4000000 in
set_option maxRecDepth 100000 in
theorem lk_6 {X : aX} {G : aG} {b L : Nat} {xs : Nat → Int32} {rt : Option FieldType} (hX : aOK X G RL cL_law 4 rt 10 358) (hSc : lSc X b L xs) (hL : L ≤ 3072) {i : Int} {Z : aZ} {Y : aY} (hi : 0 ≤ i ∧ i + 6 ≤ L) (hR : Rel i Z Y) (K : ∀ (Z' : aZ) (Y' : aY), Rel (i + 1) Z' Y' → AW X G 973 [some (.ref b), some (.ref (G.1 0)), some (.ref (G.1 62)), some (.int (aI i))] [] Z' Y') : AW X G 288 [some (.ref b), some (.ref (G.1 0)), some (.ref (G.1 62)), some (.int (aI i))] [] Z Y := by
  obtain ⟨hB, hP, hS, hd4, hd, hT, hA, hW⟩ := hR.c (by omega)
  refine a_aload_n hX rfl rfl dL_law_288 (pc' := 289) rfl ?_
  refine a_cV0I hX cv_L_40 (x_day hA hB hP hS hd) rfl (by decide) ⟨by decide, by decide⟩ (Nat.le_of_ble_eq_true rfl) dL_law_289 (pc' := 292) rfl (fun x1 Z1 Y1 g1 => ?_)
  have hrg := aRw_rng Z1 (Z1 20 2 - 1)
  have hc : ∀ a : Nat, 62 ≤ a → Z1 a = Z a := fun a ha => g1.2.1.2.2.2.2.2 a (by omega) (by omega) (by omega)
  obtain ⟨qP, qS, qd4, qd, qz, q15, qN, qV, qn, qt, qW⟩ := hR.q (by omega) hc
  refine a_aload_n hX rfl rfl dL_law_292 (pc' := 293) rfl ?_
  refine a_cV0I hX cv_L_43 (q_day qN g1.2.2.1 qP qS qd) rfl (by decide) ⟨by decide, by decide⟩ (Nat.le_of_ble_eq_true rfl) dL_law_293 (pc' := 296) rfl (fun x2 Z2 Y2 g2 => ?_)
  obtain ⟨e1, d1, hB1, rfl⟩ := g1
  obtain ⟨e2, d2, hB2, rfl⟩ := g2
  rw [hR.eQ hc, hR.eR hc] at e2 d2
  have hz := hR.2.2.1.1
  have F : Rel (i + 1) Z2 Y2 := rl_did hR d1 d2 hB2 (oz_day hP hz.2.1) (by rw [dDay_15]; have := hz.2.2; omega)
  rw [e2, e1]
  refine l_eq hX dL_law_296 (tgt := 973) (by decide) ?_
  exact K _ _ F
set_option maxHeartbeats 4000000 in
set_option maxRecDepth 100000 in
theorem lk_7 {X : aX} {G : aG} {b L : Nat} {xs : Nat → Int32} {rt : Option FieldType} (hX : aOK X G RL cL_law 4 rt 10 358) (hSc : lSc X b L xs) (hL : L ≤ 3072) {i : Int} {Z : aZ} {Y : aY} (hi : 0 ≤ i ∧ i + 6 ≤ L) (hR : Rel i Z Y) (K : ∀ (Z' : aZ) (Y' : aY), Rel (i + 1) Z' Y' → AW X G 973 [some (.ref b), some (.ref (G.1 0)), some (.ref (G.1 62)), some (.int (aI i))] [] Z' Y') : AW X G 301 [some (.ref b), some (.ref (G.1 0)), some (.ref (G.1 62)), some (.int (aI i))] [] Z Y := by
  obtain ⟨hB, hP, hS, hd4, hd, hT, hA, hW⟩ := hR.c (by omega)
  refine a_aload_n hX rfl rfl dL_law_301 (pc' := 302) rfl ?_
  refine l_arg hX hSc (k := 1) rfl rfl (by omega) hL dL_law_302 rfl dL_law_303 rfl dL_law_304 rfl dL_law_305 rfl dL_law_306 (pc' := 307) rfl ?_
  refine l_arg hX hSc (k := 2) rfl rfl (by omega) hL dL_law_307 rfl dL_law_308 rfl dL_law_309 rfl dL_law_310 rfl dL_law_311 (pc' := 312) rfl ?_
  refine a_cV2I hX cv_L_44 (x_fall (lS_rng _ _) (lS_rng _ _) hA hB hP hS hd) rfl (by decide) ⟨by decide, by decide⟩ (Nat.le_of_ble_eq_true rfl) dL_law_312 (pc' := 315) rfl (fun x1 Z1 Y1 g1 => ?_)
  have hrg := aRw_rng Z1 (Z1 20 2 - 1)
  have hc : ∀ a : Nat, 62 ≤ a → Z1 a = Z a := fun a ha => by
    by_cases c : ((pHasC (vP Z) (lS xs (i + 1)) && pHasP (vP Z) (lS xs (i + 2))) && sCan (vP Z) (vS Z 12) (lS xs (i + 1)) (lS xs (i + 2))) = true
    · have d := g1.2.1
      rw [if_pos c] at d
      exact d.2.2.2.2.2 a (by omega) (by omega) (by omega)
    · have d := g1.2.1
      rw [if_neg c] at d
      rw [d]
  obtain ⟨qP, qS, qd4, qd, qz, q15, qN, qV, qn, qt, qW⟩ := hR.q (by omega) hc
  refine a_aload_n hX rfl rfl dL_law_315 (pc' := 316) rfl ?_
  refine l_arg hX hSc (k := 1) rfl rfl (by omega) hL dL_law_316 rfl dL_law_317 rfl dL_law_318 rfl dL_law_319 rfl dL_law_320 (pc' := 321) rfl ?_
  refine l_arg hX hSc (k := 2) rfl rfl (by omega) hL dL_law_321 rfl dL_law_322 rfl dL_law_323 rfl dL_law_324 rfl dL_law_325 (pc' := 326) rfl ?_
  refine a_cV2I hX cv_L_47 (q_fall (lS_rng _ _) (lS_rng _ _) qN g1.2.2.1 qP qS qd) rfl (by decide) ⟨by decide, by decide⟩ (Nat.le_of_ble_eq_true rfl) dL_law_326 (pc' := 329) rfl (fun x2 Z2 Y2 g2 => ?_)
  obtain ⟨e1, d1, hB1, rfl⟩ := g1
  obtain ⟨e2, d2, hB2, rfl⟩ := g2
  rw [hR.eQ hc, hR.eR hc] at e2 d2
  have hz := hR.2.2.1.1
  have F : Rel (i + 1) Z2 Y2 := by
    by_cases c : ((pHasC (vP Z) (lS xs (i + 1)) && pHasP (vP Z) (lS xs (i + 2))) && sCan (vP Z) (vS Z 12) (lS xs (i + 1)) (lS xs (i + 2))) = true
    · rw [if_pos c] at d1 d2
      have c2 := c
      simp only [Bool.and_eq_true] at c2
      have c3 := pHasC_no c2.1.1
      have c4 := pHasP_no c2.1.2
      have c5 := hP.2.1
      have c6 := hP.2.2.1
      rw [vP_1] at c5
      rw [vP_2] at c6
      exact rl_did hR d1 d2 hB2 (oz_drop hP hz.2.1 (by rw [vP_1]; omega) (by rw [vP_2]; omega)) (by rw [dDrop_15 (by omega) (by omega)]; have := hz.2.2; omega)
    · rw [if_neg c] at d1 d2
      rw [d2, d1]
      exact hR.mono (by omega)
  rw [e2, e1]
  refine l_eq hX dL_law_329 (tgt := 973) (by decide) ?_
  exact K _ _ F
set_option maxHeartbeats 4000000 in
set_option maxRecDepth 100000 in
theorem lk_8 {X : aX} {G : aG} {b L : Nat} {xs : Nat → Int32} {rt : Option FieldType} (hX : aOK X G RL cL_law 4 rt 10 358) (hSc : lSc X b L xs) (hL : L ≤ 3072) {i : Int} {Z : aZ} {Y : aY} (hi : 0 ≤ i ∧ i + 6 ≤ L) (hR : Rel i Z Y) (K : ∀ (Z' : aZ) (Y' : aY), Rel (i + 1) Z' Y' → AW X G 973 [some (.ref b), some (.ref (G.1 0)), some (.ref (G.1 62)), some (.int (aI i))] [] Z' Y') : AW X G 334 [some (.ref b), some (.ref (G.1 0)), some (.ref (G.1 62)), some (.int (aI i))] [] Z Y := by
  obtain ⟨hB, hP, hS, hd4, hd, hT, hA, hW⟩ := hR.c (by omega)
  refine a_aload_n hX rfl rfl dL_law_334 (pc' := 335) rfl ?_
  refine l_arg hX hSc (k := 1) rfl rfl (by omega) hL dL_law_335 rfl dL_law_336 rfl dL_law_337 rfl dL_law_338 rfl dL_law_339 (pc' := 340) rfl ?_
  refine l_arg hX hSc (k := 2) rfl rfl (by omega) hL dL_law_340 rfl dL_law_341 rfl dL_law_342 rfl dL_law_343 rfl dL_law_344 (pc' := 345) rfl ?_
  refine l_bool hX (lS_rng _ _) dL_law_345 rfl dL_law_348 rfl dL_law_349 rfl dL_law_352 (pc' := 353) rfl ?_
  refine a_cV2I hX cv_L_48 (x_puff (on := (decide ((lS xs (i + 2)) ≠ 0))) (lS_rng _ _) hA hB hP hS hd) rfl (by decide) ⟨by decide, by decide⟩ (Nat.le_of_ble_eq_true rfl) dL_law_353 (pc' := 356) rfl (fun x1 Z1 Y1 g1 => ?_)
  have hrg := aRw_rng Z1 (Z1 20 2 - 1)
  have hc : ∀ a : Nat, 62 ≤ a → Z1 a = Z a := fun a ha => by
    by_cases c : pHasC (vP Z) (lS xs (i + 1)) = true
    · have d := g1.2.1
      rw [if_pos c] at d
      exact d.2.2.2.2.2 a (by omega) (by omega) (by omega)
    · have d := g1.2.1
      rw [if_neg c] at d
      rw [d]
  obtain ⟨qP, qS, qd4, qd, qz, q15, qN, qV, qn, qt, qW⟩ := hR.q (by omega) hc
  refine a_aload_n hX rfl rfl dL_law_356 (pc' := 357) rfl ?_
  refine l_arg hX hSc (k := 1) rfl rfl (by omega) hL dL_law_357 rfl dL_law_358 rfl dL_law_359 rfl dL_law_360 rfl dL_law_361 (pc' := 362) rfl ?_
  refine l_arg hX hSc (k := 2) rfl rfl (by omega) hL dL_law_362 rfl dL_law_363 rfl dL_law_364 rfl dL_law_365 rfl dL_law_366 (pc' := 367) rfl ?_
  refine l_bool hX (lS_rng _ _) dL_law_367 rfl dL_law_370 rfl dL_law_371 rfl dL_law_374 (pc' := 375) rfl ?_
  refine a_cV2I hX cv_L_52 (q_puff (on := (decide ((lS xs (i + 2)) ≠ 0))) (lS_rng _ _) qN g1.2.2.1 qP qS qd) rfl (by decide) ⟨by decide, by decide⟩ (Nat.le_of_ble_eq_true rfl) dL_law_375 (pc' := 378) rfl (fun x2 Z2 Y2 g2 => ?_)
  obtain ⟨e1, d1, hB1, rfl⟩ := g1
  obtain ⟨e2, d2, hB2, rfl⟩ := g2
  rw [hR.eQ hc, hR.eR hc] at e2 d2
  have hz := hR.2.2.1.1
  have F : Rel (i + 1) Z2 Y2 := by
    by_cases c : pHasC (vP Z) (lS xs (i + 1)) = true
    · rw [if_pos c] at d1 d2
      have c3 := pHasC_no c
      have c5 := hP.2.1
      rw [vP_1] at c5
      exact rl_did hR d1 d2 hB2 (oz_push hP hz.2.1 (by rw [vP_1]; omega)) (by rw [dPush_15 (by omega)]; have := hz.2.2; omega)
    · rw [if_neg c] at d1 d2
      rw [d2, d1]
      exact hR.mono (by omega)
  rw [e2, e1]
  refine l_eq hX dL_law_378 (tgt := 973) (by decide) ?_
  exact K _ _ F
set_option maxHeartbeats 4000000 in
set_option maxRecDepth 100000 in
theorem lk_9 {X : aX} {G : aG} {b L : Nat} {xs : Nat → Int32} {rt : Option FieldType} (hX : aOK X G RL cL_law 4 rt 10 358) (hSc : lSc X b L xs) (hL : L ≤ 3072) {i : Int} {Z : aZ} {Y : aY} (hi : 0 ≤ i ∧ i + 6 ≤ L) (hR : Rel i Z Y) (K : ∀ (Z' : aZ) (Y' : aY), Rel (i + 1) Z' Y' → AW X G 973 [some (.ref b), some (.ref (G.1 0)), some (.ref (G.1 62)), some (.int (aI i))] [] Z' Y') : AW X G 383 [some (.ref b), some (.ref (G.1 0)), some (.ref (G.1 62)), some (.int (aI i))] [] Z Y := by
  obtain ⟨hB, hP, hS, hd4, hd, hT, hA, hW⟩ := hR.c (by omega)
  refine a_aload_n hX rfl rfl dL_law_383 (pc' := 384) rfl ?_
  refine l_arg hX hSc (k := 1) rfl rfl (by omega) hL dL_law_384 rfl dL_law_385 rfl dL_law_386 rfl dL_law_387 rfl dL_law_388 (pc' := 389) rfl ?_
  refine a_cV1I hX cv_L_53 (x_tear (lS_rng _ _) hA hB hP hS hd) rfl (by decide) ⟨by decide, by decide⟩ (Nat.le_of_ble_eq_true rfl) dL_law_389 (pc' := 392) rfl (fun x1 Z1 Y1 g1 => ?_)
  have hrg := aRw_rng Z1 (Z1 20 2 - 1)
  have hc : ∀ a : Nat, 62 ≤ a → Z1 a = Z a := fun a ha => by
    by_cases c : pHasP (vP Z) (lS xs (i + 1)) = true ∧ sTorn (vS Z 12) (lS xs (i + 1)) = false
    · have d := g1.2.1
      rw [if_pos c] at d
      exact d.2.2.2.2.2 a (by omega) (by omega) (by omega)
    · have d := g1.2.1
      rw [if_neg c] at d
      rw [d]
  obtain ⟨qP, qS, qd4, qd, qz, q15, qN, qV, qn, qt, qW⟩ := hR.q (by omega) hc
  refine a_aload_n hX rfl rfl dL_law_392 (pc' := 393) rfl ?_
  refine l_arg hX hSc (k := 1) rfl rfl (by omega) hL dL_law_393 rfl dL_law_394 rfl dL_law_395 rfl dL_law_396 rfl dL_law_397 (pc' := 398) rfl ?_
  refine a_cV1I hX cv_L_56 (q_tear (lS_rng _ _) qN g1.2.2.1 qP qS qd) rfl (by decide) ⟨by decide, by decide⟩ (Nat.le_of_ble_eq_true rfl) dL_law_398 (pc' := 401) rfl (fun x2 Z2 Y2 g2 => ?_)
  obtain ⟨e1, d1, hB1, rfl⟩ := g1
  obtain ⟨e2, d2, hB2, rfl⟩ := g2
  rw [hR.eQ hc, hR.eR hc] at e2 d2
  have hz := hR.2.2.1.1
  have F : Rel (i + 1) Z2 Y2 := by
    by_cases c : pHasP (vP Z) (lS xs (i + 1)) = true ∧ sTorn (vS Z 12) (lS xs (i + 1)) = false
    · rw [if_pos c] at d1 d2
      have c3 := pHasP_no c.1
      have c5 := hP.2.2.1
      rw [vP_2] at c5
      exact rl_did hR d1 d2 hB2 (oz_rip hP hz.2.1 (by rw [vP_2]; omega)) (by rw [dRip_15 (by omega)]; have := hz.2.2; omega)
    · rw [if_neg c] at d1 d2
      rw [d2, d1]
      exact hR.mono (by omega)
  rw [e2, e1]
  refine l_eq hX dL_law_401 (tgt := 973) (by decide) ?_
  exact K _ _ F
set_option maxHeartbeats 4000000 in
set_option maxRecDepth 100000 in
theorem lk_10 {X : aX} {G : aG} {b L : Nat} {xs : Nat → Int32} {rt : Option FieldType} (hX : aOK X G RL cL_law 4 rt 10 358) (hSc : lSc X b L xs) (hL : L ≤ 3072) {i : Int} {Z : aZ} {Y : aY} (hi : 0 ≤ i ∧ i + 6 ≤ L) (hR : Rel i Z Y) (K : ∀ (Z' : aZ) (Y' : aY), Rel (i + 1) Z' Y' → AW X G 973 [some (.ref b), some (.ref (G.1 0)), some (.ref (G.1 62)), some (.int (aI i))] [] Z' Y') : AW X G 406 [some (.ref b), some (.ref (G.1 0)), some (.ref (G.1 62)), some (.int (aI i))] [] Z Y := by
  obtain ⟨hB, hP, hS, hd4, hd, hT, hA, hW⟩ := hR.c (by omega)
  refine a_aload_n hX rfl rfl dL_law_406 (pc' := 407) rfl ?_
  refine a_cV0I hX cv_L_57 (x_undo hA (fun q => (hR.2.2.2.1.2.2.2 _ (by omega) (by omega)).1.1) hB hP hS hd) rfl (by decide) ⟨by decide, by decide⟩ (Nat.le_of_ble_eq_true rfl) dL_law_407 (pc' := 410) rfl (fun x1 Z1 Y1 g1 => ?_)
  have hc : ∀ a : Nat, 62 ≤ a → Z1 a = Z a := fun a ha => g1.2.2.2.2.1 a (by omega) (by omega)
  obtain ⟨qP, qS, qd4, qd, qz, q15, qN, qV, qn, qt, qW⟩ := hR.q (by omega) hc
  refine a_aload_n hX rfl rfl dL_law_410 (pc' := 411) rfl ?_
  refine a_cV0I hX cv_L_60 (q_undo g1.2.2.2.2.2.1 qN) rfl (by decide) ⟨by decide, by decide⟩ (Nat.le_of_ble_eq_true rfl) dL_law_411 (pc' := 414) rfl (fun x2 Z2 Y2 g2 => ?_)
  have F0 := rl_undo hR g1 g2
  rw [F0.1]
  have F := F0.2.mono (show i ≤ i + 1 by omega)
  refine l_eq hX dL_law_414 (tgt := 973) (by decide) ?_
  exact K _ _ F
set_option maxHeartbeats 4000000 in
set_option maxRecDepth 100000 in
theorem lk_11 {X : aX} {G : aG} {b L : Nat} {xs : Nat → Int32} {rt : Option FieldType} (hX : aOK X G RL cL_law 4 rt 10 358) (hSc : lSc X b L xs) (hL : L ≤ 3072) {i : Int} {Z : aZ} {Y : aY} (hi : 0 ≤ i ∧ i + 6 ≤ L) (hR : Rel i Z Y) (K : ∀ (Z' : aZ) (Y' : aY), Rel (i + 1) Z' Y' → AW X G 973 [some (.ref b), some (.ref (G.1 0)), some (.ref (G.1 62)), some (.int (aI i))] [] Z' Y') : AW X G 419 [some (.ref b), some (.ref (G.1 0)), some (.ref (G.1 62)), some (.int (aI i))] [] Z Y := by
  obtain ⟨hB, hP, hS, hd4, hd, hT, hA, hW⟩ := hR.c (by omega)
  refine a_aload_n hX rfl rfl dL_law_419 (pc' := 420) rfl ?_
  refine l_arg hX hSc (k := 1) rfl rfl (by omega) hL dL_law_420 rfl dL_law_421 rfl dL_law_422 rfl dL_law_423 rfl dL_law_424 (pc' := 425) rfl ?_
  refine l_arg hX hSc (k := 2) rfl rfl (by omega) hL dL_law_425 rfl dL_law_426 rfl dL_law_427 rfl dL_law_428 rfl dL_law_429 (pc' := 430) rfl ?_
  refine a_cV2i hX cv_L_61 (x_where (lS_rng _ _) (lS_rng _ _) hB hP hS hd) rfl (by decide) ⟨by decide, by decide⟩ (Nat.le_of_ble_eq_true rfl) dL_law_430 (pc' := 433) rfl ?_
  have hc : ∀ a : Nat, 62 ≤ a → Z a = Z a := fun _ _ => rfl
  obtain ⟨qP, qS, qd4, qd, qz, q15, qN, qV, qn, qt, qW⟩ := hR.q (by omega) hc
  refine a_aload_n hX rfl rfl dL_law_433 (pc' := 434) rfl ?_
  refine l_arg hX hSc (k := 1) rfl rfl (by omega) hL dL_law_434 rfl dL_law_435 rfl dL_law_436 rfl dL_law_437 rfl dL_law_438 (pc' := 439) rfl ?_
  refine l_arg hX hSc (k := 2) rfl rfl (by omega) hL dL_law_439 rfl dL_law_440 rfl dL_law_441 rfl dL_law_442 rfl dL_law_443 (pc' := 444) rfl ?_
  refine a_cV2I hX cv_L_64 (q_where (lS_rng _ _) (lS_rng _ _) qd4 hB qP qS qd) rfl (by decide) ⟨by decide, by decide⟩ (Nat.le_of_ble_eq_true rfl) dL_law_444 (pc' := 447) rfl (fun x2 Z2 Y2 g2 => ?_)
  obtain ⟨e2, t2, hB2, rfl⟩ := g2
  rw [hR.2.1.2, hR.2.2.1.2] at e2
  rw [e2]
  have F : Rel (i + 1) Z2 Y2 := hR.sm t2.sm (okVr_eq (t2.1 70 (by decide)) (t2.1 71 (by decide)) (t2.1 72 (by decide)) qV) hB2 hR.2.2.2.2.2.2.1 (by omega)
  refine l_eq hX dL_law_447 (tgt := 973) (by decide) ?_
  exact K _ _ F
set_option maxHeartbeats 4000000 in
set_option maxRecDepth 100000 in
theorem lk_12 {X : aX} {G : aG} {b L : Nat} {xs : Nat → Int32} {rt : Option FieldType} (hX : aOK X G RL cL_law 4 rt 10 358) (hSc : lSc X b L xs) (hL : L ≤ 3072) {i : Int} {Z : aZ} {Y : aY} (hi : 0 ≤ i ∧ i + 6 ≤ L) (hR : Rel i Z Y) (K : ∀ (Z' : aZ) (Y' : aY), Rel (i + 1) Z' Y' → AW X G 973 [some (.ref b), some (.ref (G.1 0)), some (.ref (G.1 62)), some (.int (aI i))] [] Z' Y') : AW X G 452 [some (.ref b), some (.ref (G.1 0)), some (.ref (G.1 62)), some (.int (aI i))] [] Z Y := by
  obtain ⟨hB, hP, hS, hd4, hd, hT, hA, hW⟩ := hR.c (by omega)
  refine a_aload_n hX rfl rfl dL_law_452 (pc' := 453) rfl ?_
  refine l_arg hX hSc (k := 1) rfl rfl (by omega) hL dL_law_453 rfl dL_law_454 rfl dL_law_455 rfl dL_law_456 rfl dL_law_457 (pc' := 458) rfl ?_
  refine a_cV1i hX cv_L_65 (x_umbrellas (lS_rng _ _) hB hP hS hd) rfl (by decide) ⟨by decide, by decide⟩ (Nat.le_of_ble_eq_true rfl) dL_law_458 (pc' := 461) rfl ?_
  have hc : ∀ a : Nat, 62 ≤ a → Z a = Z a := fun _ _ => rfl
  obtain ⟨qP, qS, qd4, qd, qz, q15, qN, qV, qn, qt, qW⟩ := hR.q (by omega) hc
  refine a_aload_n hX rfl rfl dL_law_461 (pc' := 462) rfl ?_
  refine l_arg hX hSc (k := 1) rfl rfl (by omega) hL dL_law_462 rfl dL_law_463 rfl dL_law_464 rfl dL_law_465 rfl dL_law_466 (pc' := 467) rfl ?_
  refine a_cV1I hX cv_L_68 (q_umbrellas (lS_rng _ _) qd4 hB qP qS qd) rfl (by decide) ⟨by decide, by decide⟩ (Nat.le_of_ble_eq_true rfl) dL_law_467 (pc' := 470) rfl (fun x2 Z2 Y2 g2 => ?_)
  obtain ⟨e2, t2, hB2, rfl⟩ := g2
  rw [hR.2.1.2, hR.2.2.1.2] at e2
  rw [e2]
  have F : Rel (i + 1) Z2 Y2 := hR.sm t2.sm (okVr_eq (t2.1 70 (by decide)) (t2.1 71 (by decide)) (t2.1 72 (by decide)) qV) hB2 hR.2.2.2.2.2.2.1 (by omega)
  refine l_eq hX dL_law_470 (tgt := 973) (by decide) ?_
  exact K _ _ F
set_option maxHeartbeats 4000000 in
set_option maxRecDepth 100000 in
theorem lk_13 {X : aX} {G : aG} {b L : Nat} {xs : Nat → Int32} {rt : Option FieldType} (hX : aOK X G RL cL_law 4 rt 10 358) (hSc : lSc X b L xs) (hL : L ≤ 3072) {i : Int} {Z : aZ} {Y : aY} (hi : 0 ≤ i ∧ i + 6 ≤ L) (hR : Rel i Z Y) (K : ∀ (Z' : aZ) (Y' : aY), Rel (i + 1) Z' Y' → AW X G 973 [some (.ref b), some (.ref (G.1 0)), some (.ref (G.1 62)), some (.int (aI i))] [] Z' Y') : AW X G 475 [some (.ref b), some (.ref (G.1 0)), some (.ref (G.1 62)), some (.int (aI i))] [] Z Y := by
  obtain ⟨hB, hP, hS, hd4, hd, hT, hA, hW⟩ := hR.c (by omega)
  refine a_aload_n hX rfl rfl dL_law_475 (pc' := 476) rfl ?_
  refine a_cV0I hX cv_L_69 (x_most hB hP hS hd) rfl (by decide) ⟨by decide, by decide⟩ (Nat.le_of_ble_eq_true rfl) dL_law_476 (pc' := 479) rfl (fun x1 Z1 Y1 g1 => ?_)
  obtain ⟨e1, u1, hB1, rfl⟩ := g1
  have s1 : sm Z Z1 := sm.c (fun a ha => u1 a (by omega))
  have hc : ∀ a : Nat, 62 ≤ a → Z1 a = Z a := fun a ha => u1 a (by omega)
  obtain ⟨qP, qS, qd4, qd, qz, q15, qN, qV, qn, qt, qW⟩ := hR.q (by omega) hc
  refine a_aload_n hX rfl rfl dL_law_479 (pc' := 480) rfl ?_
  refine a_cV0I hX cv_L_72 (q_most q15 hB1 qP qS qd) rfl (by decide) ⟨by decide, by decide⟩ (Nat.le_of_ble_eq_true rfl) dL_law_480 (pc' := 483) rfl (fun x2 Z2 Y2 g2 => ?_)
  obtain ⟨e2, t2, hB2, rfl⟩ := g2
  rw [hR.eQ hc, hR.eR hc] at e2
  have s2 : sm Z1 Z2 := sm.c (fun a ha => t2 a (by omega))
  have F : Rel (i + 1) Z2 Y2 := hR.sm (s1.tr s2) (okVr_eq (t2 70 (by decide)) (t2 71 (by decide)) (t2 72 (by decide)) qV) hB2 hR.2.2.2.2.2.2.1 (by omega)
  rw [e2, e1]
  refine l_eq hX dL_law_483 (tgt := 973) (by decide) ?_
  exact K _ _ F
set_option maxHeartbeats 4000000 in
set_option maxRecDepth 100000 in
theorem lk_14 {X : aX} {G : aG} {b L : Nat} {xs : Nat → Int32} {rt : Option FieldType} (hX : aOK X G RL cL_law 4 rt 10 358) (hSc : lSc X b L xs) (hL : L ≤ 3072) {i : Int} {Z : aZ} {Y : aY} (hi : 0 ≤ i ∧ i + 6 ≤ L) (hR : Rel i Z Y) (K : ∀ (Z' : aZ) (Y' : aY), Rel (i + 1) Z' Y' → AW X G 973 [some (.ref b), some (.ref (G.1 0)), some (.ref (G.1 62)), some (.int (aI i))] [] Z' Y') : AW X G 488 [some (.ref b), some (.ref (G.1 0)), some (.ref (G.1 62)), some (.int (aI i))] [] Z Y := by
  obtain ⟨hB, hP, hS, hd4, hd, hT, hA, hW⟩ := hR.c (by omega)
  refine a_aload_n hX rfl rfl dL_law_488 (pc' := 489) rfl ?_
  refine l_arg hX hSc (k := 1) rfl rfl (by omega) hL dL_law_489 rfl dL_law_490 rfl dL_law_491 rfl dL_law_492 rfl dL_law_493 (pc' := 494) rfl ?_
  refine a_cV1I hX cv_L_73 (x_lacks (lS_rng _ _) hB hP hS hd) rfl (by decide) ⟨by decide, by decide⟩ (Nat.le_of_ble_eq_true rfl) dL_law_494 (pc' := 497) rfl (fun x1 Z1 Y1 g1 => ?_)
  obtain ⟨e1, u1, hB1, rfl⟩ := g1
  have s1 : sm Z Z1 := sm.c (fun a ha => u1 a (by omega))
  have hc : ∀ a : Nat, 62 ≤ a → Z1 a = Z a := fun a ha => u1 a (by omega)
  obtain ⟨qP, qS, qd4, qd, qz, q15, qN, qV, qn, qt, qW⟩ := hR.q (by omega) hc
  refine a_aload_n hX rfl rfl dL_law_497 (pc' := 498) rfl ?_
  refine l_arg hX hSc (k := 1) rfl rfl (by omega) hL dL_law_498 rfl dL_law_499 rfl dL_law_500 rfl dL_law_501 rfl dL_law_502 (pc' := 503) rfl ?_
  refine a_cV1i hX cv_L_76 (q_lacks (lS_rng _ _) hB1 qP qS qd) rfl (by decide) ⟨by decide, by decide⟩ (Nat.le_of_ble_eq_true rfl) dL_law_503 (pc' := 506) rfl ?_
  rw [hR.eQ hc, hR.eR hc, e1]
  have F : Rel (i + 1) Z1 Y1 := hR.sm s1 qV hB1 hR.2.2.2.2.2.2.1 (by omega)
  refine l_eq hX dL_law_506 (tgt := 973) (by decide) ?_
  exact K _ _ F
set_option maxHeartbeats 4000000 in
set_option maxRecDepth 100000 in
theorem lk_15 {X : aX} {G : aG} {b L : Nat} {xs : Nat → Int32} {rt : Option FieldType} (hX : aOK X G RL cL_law 4 rt 10 358) (hSc : lSc X b L xs) (hL : L ≤ 3072) {i : Int} {Z : aZ} {Y : aY} (hi : 0 ≤ i ∧ i + 6 ≤ L) (hR : Rel i Z Y) (K : ∀ (Z' : aZ) (Y' : aY), Rel (i + 1) Z' Y' → AW X G 973 [some (.ref b), some (.ref (G.1 0)), some (.ref (G.1 62)), some (.int (aI i))] [] Z' Y') : AW X G 511 [some (.ref b), some (.ref (G.1 0)), some (.ref (G.1 62)), some (.int (aI i))] [] Z Y := by
  obtain ⟨hB, hP, hS, hd4, hd, hT, hA, hW⟩ := hR.c (by omega)
  refine a_aload_n hX rfl rfl dL_law_511 (pc' := 512) rfl ?_
  refine a_cV0I hX cv_L_77 (x_puffs hB hP hS hd) rfl (by decide) ⟨by decide, by decide⟩ (Nat.le_of_ble_eq_true rfl) dL_law_512 (pc' := 515) rfl (fun x1 Z1 Y1 g1 => ?_)
  obtain ⟨e1, u1, hB1, rfl⟩ := g1
  have s1 : sm Z Z1 := sm.c (fun a ha => u1 a (by omega))
  have hc : ∀ a : Nat, 62 ≤ a → Z1 a = Z a := fun a ha => u1 a (by omega)
  obtain ⟨qP, qS, qd4, qd, qz, q15, qN, qV, qn, qt, qW⟩ := hR.q (by omega) hc
  refine a_aload_n hX rfl rfl dL_law_515 (pc' := 516) rfl ?_
  refine a_cV0I hX cv_L_80 (q_puffs q15 qd4 hB1 qP qS qd) rfl (by decide) ⟨by decide, by decide⟩ (Nat.le_of_ble_eq_true rfl) dL_law_516 (pc' := 519) rfl (fun x2 Z2 Y2 g2 => ?_)
  obtain ⟨e2, t2, hB2, rfl⟩ := g2
  rw [hR.eQ hc, hR.eR hc] at e2
  have s2 : sm Z1 Z2 := t2.sm
  have F : Rel (i + 1) Z2 Y2 := hR.sm (s1.tr s2) (okVr_eq (t2.1 70 (by decide) (by decide)) (t2.1 71 (by decide) (by decide)) (t2.1 72 (by decide) (by decide)) qV) hB2 hR.2.2.2.2.2.2.1 (by omega)
  rw [qPuffs_all hP hS] at e2
  rw [e2, e1]
  refine l_eq hX dL_law_519 (tgt := 973) (by decide) ?_
  exact K _ _ F
set_option maxHeartbeats 4000000 in
set_option maxRecDepth 100000 in
theorem lk_16 {X : aX} {G : aG} {b L : Nat} {xs : Nat → Int32} {rt : Option FieldType} (hX : aOK X G RL cL_law 4 rt 10 358) (hSc : lSc X b L xs) (hL : L ≤ 3072) {i : Int} {Z : aZ} {Y : aY} (hi : 0 ≤ i ∧ i + 6 ≤ L) (hR : Rel i Z Y) (K : ∀ (Z' : aZ) (Y' : aY), Rel (i + 1) Z' Y' → AW X G 973 [some (.ref b), some (.ref (G.1 0)), some (.ref (G.1 62)), some (.int (aI i))] [] Z' Y') : AW X G 524 [some (.ref b), some (.ref (G.1 0)), some (.ref (G.1 62)), some (.int (aI i))] [] Z Y := by
  obtain ⟨hB, hP, hS, hd4, hd, hT, hA, hW⟩ := hR.c (by omega)
  refine a_aload_n hX rfl rfl dL_law_524 (pc' := 525) rfl ?_
  refine l_arg hX hSc (k := 1) rfl rfl (by omega) hL dL_law_525 rfl dL_law_526 rfl dL_law_527 rfl dL_law_528 rfl dL_law_529 (pc' := 530) rfl ?_
  refine l_long hX hSc (k := 2) (k2 := 3) rfl rfl (by omega) (by omega) hL w_1176 dL_law_530 rfl dL_law_531 rfl dL_law_532 rfl dL_law_533 rfl dL_law_534 rfl dL_law_535 rfl dL_law_536 rfl dL_law_538 rfl dL_law_539 rfl dL_law_540 rfl dL_law_541 rfl dL_law_542 rfl dL_law_543 rfl dL_law_544 rfl dL_law_545 rfl dL_law_548 rfl dL_law_549 (pc' := 550) rfl ?_
  refine a_cV2I hX cv_L_83 (x_judge (lS_rng _ _) (aJ_rng _) hd4 hB hP hS hd) rfl (by decide) ⟨by decide, by decide⟩ (Nat.le_of_ble_eq_true rfl) dL_law_550 (pc' := 553) rfl (fun x1 Z1 Y1 g1 => ?_)
  obtain ⟨e1, u1, hB1, rfl⟩ := g1
  have s1 : sm Z Z1 := sm.c (fun a ha => u1 a (by omega) (by omega) (by omega))
  have hc : ∀ a : Nat, 62 ≤ a → Z1 a = Z a := fun a ha => u1 a (by omega) (by omega) (by omega)
  obtain ⟨qP, qS, qd4, qd, qz, q15, qN, qV, qn, qt, qW⟩ := hR.q (by omega) hc
  refine a_aload_n hX rfl rfl dL_law_553 (pc' := 554) rfl ?_
  refine l_arg hX hSc (k := 1) rfl rfl (by omega) hL dL_law_554 rfl dL_law_555 rfl dL_law_556 rfl dL_law_557 rfl dL_law_558 (pc' := 559) rfl ?_
  refine l_long hX hSc (k := 2) (k2 := 3) rfl rfl (by omega) (by omega) hL w_1176 dL_law_559 rfl dL_law_560 rfl dL_law_561 rfl dL_law_562 rfl dL_law_563 rfl dL_law_564 rfl dL_law_565 rfl dL_law_567 rfl dL_law_568 rfl dL_law_569 rfl dL_law_570 rfl dL_law_571 rfl dL_law_572 rfl dL_law_573 rfl dL_law_574 rfl dL_law_577 rfl dL_law_578 (pc' := 579) rfl ?_
  refine a_cV2I hX cv_L_87 (q_judge (lS_rng _ _) (aJ_rng _) qd4 hB1 qP qS qd) rfl (by decide) ⟨by decide, by decide⟩ (Nat.le_of_ble_eq_true rfl) dL_law_579 (pc' := 582) rfl (fun x2 Z2 Y2 g2 => ?_)
  obtain ⟨e2, t2, hB2, rfl⟩ := g2
  rw [hR.eQ hc, hR.eR hc] at e2
  have s2 : sm Z1 Z2 := t2.sm
  have F : Rel (i + 1) Z2 Y2 := hR.sm (s1.tr s2) (okVr_eq (t2.1 70 (by decide)) (t2.1 71 (by decide)) (t2.1 72 (by decide)) qV) hB2 hR.2.2.2.2.2.2.1 (by omega)
  rw [e2, e1]
  refine l_eq hX dL_law_582 (tgt := 973) (by decide) ?_
  exact K _ _ F
set_option maxHeartbeats 4000000 in
set_option maxRecDepth 100000 in
theorem lk_17 {X : aX} {G : aG} {b L : Nat} {xs : Nat → Int32} {rt : Option FieldType} (hX : aOK X G RL cL_law 4 rt 10 358) (hSc : lSc X b L xs) (hL : L ≤ 3072) {i : Int} {Z : aZ} {Y : aY} (hi : 0 ≤ i ∧ i + 6 ≤ L) (hR : Rel i Z Y) (K : ∀ (Z' : aZ) (Y' : aY), Rel (i + 1) Z' Y' → AW X G 973 [some (.ref b), some (.ref (G.1 0)), some (.ref (G.1 62)), some (.int (aI i))] [] Z' Y') : AW X G 587 [some (.ref b), some (.ref (G.1 0)), some (.ref (G.1 62)), some (.int (aI i))] [] Z Y := by
  obtain ⟨hB, hP, hS, hd4, hd, hT, hA, hW⟩ := hR.c (by omega)
  refine a_aload_n hX rfl rfl dL_law_587 (pc' := 588) rfl ?_
  refine l_arg hX hSc (k := 1) rfl rfl (by omega) hL dL_law_588 rfl dL_law_589 rfl dL_law_590 rfl dL_law_591 rfl dL_law_592 (pc' := 593) rfl ?_
  refine l_arg hX hSc (k := 2) rfl rfl (by omega) hL dL_law_593 rfl dL_law_594 rfl dL_law_595 rfl dL_law_596 rfl dL_law_597 (pc' := 598) rfl ?_
  refine a_cV2I hX cv_L_88 (x_see (lS_rng _ _) (lS_rng _ _) hB hW) rfl (by decide) ⟨by decide, by decide⟩ (Nat.le_of_ble_eq_true rfl) dL_law_598 (pc' := 601) rfl (fun x1 Z1 Y1 g1 => ?_)
  have hc : ∀ a : Nat, 62 ≤ a → Z1 a = Z a := fun a ha => by
    rw [g1.2.1]
    split
    · rw [aU_row (by omega), aU_row (by omega), aU_row (by omega)]
    · rfl
  obtain ⟨qP, qS, qd4, qd, qz, q15, qN, qV, qn, qt, qW⟩ := hR.q (by omega) hc
  refine a_aload_n hX rfl rfl dL_law_601 (pc' := 602) rfl ?_
  refine l_arg hX hSc (k := 1) rfl rfl (by omega) hL dL_law_602 rfl dL_law_603 rfl dL_law_604 rfl dL_law_605 rfl dL_law_606 (pc' := 607) rfl ?_
  refine l_arg hX hSc (k := 2) rfl rfl (by omega) hL dL_law_607 rfl dL_law_608 rfl dL_law_609 rfl dL_law_610 rfl dL_law_611 (pc' := 612) rfl ?_
  refine a_cV2I hX cv_L_91 (q_see (lS_rng _ _) (lS_rng _ _) g1.2.2.1 qW.1) rfl (by decide) ⟨by decide, by decide⟩ (Nat.le_of_ble_eq_true rfl) dL_law_612 (pc' := 615) rfl (fun x2 Z2 Y2 g2 => ?_)
  have F0 := rl_see hR g1 g2
  rw [F0.1]
  have F := F0.2.mono (show i ≤ i + 1 by omega)
  refine l_eq hX dL_law_615 (tgt := 973) (by decide) ?_
  exact K _ _ F
set_option maxHeartbeats 4000000 in
set_option maxRecDepth 100000 in
theorem lk_18 {X : aX} {G : aG} {b L : Nat} {xs : Nat → Int32} {rt : Option FieldType} (hX : aOK X G RL cL_law 4 rt 10 358) (hSc : lSc X b L xs) (hL : L ≤ 3072) {i : Int} {Z : aZ} {Y : aY} (hi : 0 ≤ i ∧ i + 6 ≤ L) (hR : Rel i Z Y) (K : ∀ (Z' : aZ) (Y' : aY), Rel (i + 1) Z' Y' → AW X G 973 [some (.ref b), some (.ref (G.1 0)), some (.ref (G.1 62)), some (.int (aI i))] [] Z' Y') : AW X G 620 [some (.ref b), some (.ref (G.1 0)), some (.ref (G.1 62)), some (.int (aI i))] [] Z Y := by
  obtain ⟨hB, hP, hS, hd4, hd, hT, hA, hW⟩ := hR.c (by omega)
  refine a_aload_n hX rfl rfl dL_law_620 (pc' := 621) rfl ?_
  refine a_cV0I hX cv_L_92 (x_unsee hB) rfl (by decide) ⟨by decide, by decide⟩ (Nat.le_of_ble_eq_true rfl) dL_law_621 (pc' := 624) rfl (fun x1 Z1 Y1 g1 => ?_)
  have hc : ∀ a : Nat, 62 ≤ a → Z1 a = Z a := fun a ha => by rw [g1.2.1, aU_row (by omega)]
  obtain ⟨qP, qS, qd4, qd, qz, q15, qN, qV, qn, qt, qW⟩ := hR.q (by omega) hc
  refine a_aload_n hX rfl rfl dL_law_624 (pc' := 625) rfl ?_
  refine a_cV0I hX cv_L_95 (q_unsee g1.2.2.1) rfl (by decide) ⟨by decide, by decide⟩ (Nat.le_of_ble_eq_true rfl) dL_law_625 (pc' := 628) rfl (fun x2 Z2 Y2 g2 => ?_)
  have F0 := rl_unsee hR g1 g2
  rw [F0.1]
  have F := F0.2.mono (show i ≤ i + 1 by omega)
  refine l_eq hX dL_law_628 (tgt := 973) (by decide) ?_
  exact K _ _ F
set_option maxHeartbeats 4000000 in
set_option maxRecDepth 100000 in
theorem lk_19 {X : aX} {G : aG} {b L : Nat} {xs : Nat → Int32} {rt : Option FieldType} (hX : aOK X G RL cL_law 4 rt 10 358) (hSc : lSc X b L xs) (hL : L ≤ 3072) {i : Int} {Z : aZ} {Y : aY} (hi : 0 ≤ i ∧ i + 6 ≤ L) (hR : Rel i Z Y) (K : ∀ (Z' : aZ) (Y' : aY), Rel (i + 1) Z' Y' → AW X G 973 [some (.ref b), some (.ref (G.1 0)), some (.ref (G.1 62)), some (.int (aI i))] [] Z' Y') : AW X G 633 [some (.ref b), some (.ref (G.1 0)), some (.ref (G.1 62)), some (.int (aI i))] [] Z Y := by
  obtain ⟨hB, hP, hS, hd4, hd, hT, hA, hW⟩ := hR.c (by omega)
  refine a_aload_n hX rfl rfl dL_law_633 (pc' := 634) rfl ?_
  refine l_arg hX hSc (k := 1) rfl rfl (by omega) hL dL_law_634 rfl dL_law_635 rfl dL_law_636 rfl dL_law_637 rfl dL_law_638 (pc' := 639) rfl ?_
  refine a_cV1i hX cv_L_96 (x_began (lS_rng _ _) hB hP hW) rfl (by decide) ⟨by decide, by decide⟩ (Nat.le_of_ble_eq_true rfl) dL_law_639 (pc' := 642) rfl ?_
  have hc : ∀ a : Nat, 62 ≤ a → Z a = Z a := fun _ _ => rfl
  obtain ⟨qP, qS, qd4, qd, qz, q15, qN, qV, qn, qt, qW⟩ := hR.q (by omega) hc
  refine a_aload_n hX rfl rfl dL_law_642 (pc' := 643) rfl ?_
  refine l_arg hX hSc (k := 1) rfl rfl (by omega) hL dL_law_643 rfl dL_law_644 rfl dL_law_645 rfl dL_law_646 rfl dL_law_647 (pc' := 648) rfl ?_
  refine a_cV1i hX cv_L_99 (q_began (lS_rng _ _) hB qP qW) rfl (by decide) ⟨by decide, by decide⟩ (Nat.le_of_ble_eq_true rfl) dL_law_648 (pc' := 651) rfl ?_
  rw [hR.2.1.2, hR.2.2.2.2.2.1.2.1, hR.2.2.2.2.2.1.2.2.1, hR.2.2.2.2.2.1.2.2.2]
  have F : Rel (i + 1) Z Y := hR.mono (by omega)
  refine l_eq hX dL_law_651 (tgt := 973) (by decide) ?_
  exact K _ _ F
set_option maxHeartbeats 4000000 in
set_option maxRecDepth 100000 in
theorem lk_20 {X : aX} {G : aG} {b L : Nat} {xs : Nat → Int32} {rt : Option FieldType} (hX : aOK X G RL cL_law 4 rt 10 358) (hSc : lSc X b L xs) (hL : L ≤ 3072) {i : Int} {Z : aZ} {Y : aY} (hi : 0 ≤ i ∧ i + 6 ≤ L) (hR : Rel i Z Y) (K : ∀ (Z' : aZ) (Y' : aY), Rel (i + 1) Z' Y' → AW X G 973 [some (.ref b), some (.ref (G.1 0)), some (.ref (G.1 62)), some (.int (aI i))] [] Z' Y') : AW X G 656 [some (.ref b), some (.ref (G.1 0)), some (.ref (G.1 62)), some (.int (aI i))] [] Z Y := by
  obtain ⟨hB, hP, hS, hd4, hd, hT, hA, hW⟩ := hR.c (by omega)
  refine a_aload_n hX rfl rfl dL_law_656 (pc' := 657) rfl ?_
  refine l_arg hX hSc (k := 1) rfl rfl (by omega) hL dL_law_657 rfl dL_law_658 rfl dL_law_659 rfl dL_law_660 rfl dL_law_661 (pc' := 662) rfl ?_
  refine l_arg hX hSc (k := 2) rfl rfl (by omega) hL dL_law_662 rfl dL_law_663 rfl dL_law_664 rfl dL_law_665 rfl dL_law_666 (pc' := 667) rfl ?_
  refine l_bool hX (lS_rng _ _) dL_law_667 rfl dL_law_670 rfl dL_law_671 rfl dL_law_674 (pc' := 675) rfl ?_
  refine a_cV2I hX cv_L_100 (x_share (u := (decide ((lS xs (i + 2)) ≠ 0))) (lS_rng _ _) hB hP hS hd) rfl (by decide) ⟨by decide, by decide⟩ (Nat.le_of_ble_eq_true rfl) dL_law_675 (pc' := 678) rfl (fun x1 Z1 Y1 g1 => ?_)
  obtain ⟨e1, u1, hB1, rfl⟩ := g1
  have s1 : sm Z Z1 := sm.c (fun a ha => u1 a (by omega))
  have hc : ∀ a : Nat, 62 ≤ a → Z1 a = Z a := fun a ha => u1 a (by omega)
  obtain ⟨qP, qS, qd4, qd, qz, q15, qN, qV, qn, qt, qW⟩ := hR.q (by omega) hc
  refine a_aload_n hX rfl rfl dL_law_678 (pc' := 679) rfl ?_
  refine l_arg hX hSc (k := 1) rfl rfl (by omega) hL dL_law_679 rfl dL_law_680 rfl dL_law_681 rfl dL_law_682 rfl dL_law_683 (pc' := 684) rfl ?_
  refine l_arg hX hSc (k := 2) rfl rfl (by omega) hL dL_law_684 rfl dL_law_685 rfl dL_law_686 rfl dL_law_687 rfl dL_law_688 (pc' := 689) rfl ?_
  refine l_bool hX (lS_rng _ _) dL_law_689 rfl dL_law_692 rfl dL_law_693 rfl dL_law_696 (pc' := 697) rfl ?_
  refine a_cV2I hX cv_L_103 (q_share (u := (decide ((lS xs (i + 2)) ≠ 0))) (lS_rng _ _) q15 hB1 qP qS qd) rfl (by decide) ⟨by decide, by decide⟩ (Nat.le_of_ble_eq_true rfl) dL_law_697 (pc' := 700) rfl (fun x2 Z2 Y2 g2 => ?_)
  obtain ⟨e2, t2, hB2, rfl⟩ := g2
  rw [hR.eQ hc, hR.eR hc] at e2
  have s2 : sm Z1 Z2 := sm.c (fun a ha => t2 a (by omega))
  have F : Rel (i + 1) Z2 Y2 := hR.sm (s1.tr s2) (okVr_eq (t2 70 (by decide)) (t2 71 (by decide)) (t2 72 (by decide)) qV) hB2 hR.2.2.2.2.2.2.1 (by omega)
  rw [e2, e1]
  refine l_eq hX dL_law_700 (tgt := 973) (by decide) ?_
  exact K _ _ F
set_option maxHeartbeats 4000000 in
set_option maxRecDepth 100000 in
theorem lk_21 {X : aX} {G : aG} {b L : Nat} {xs : Nat → Int32} {rt : Option FieldType} (hX : aOK X G RL cL_law 4 rt 10 358) (hSc : lSc X b L xs) (hL : L ≤ 3072) {i : Int} {Z : aZ} {Y : aY} (hi : 0 ≤ i ∧ i + 6 ≤ L) (hR : Rel i Z Y) (K : ∀ (Z' : aZ) (Y' : aY), Rel (i + 1) Z' Y' → AW X G 973 [some (.ref b), some (.ref (G.1 0)), some (.ref (G.1 62)), some (.int (aI i))] [] Z' Y') : AW X G 705 [some (.ref b), some (.ref (G.1 0)), some (.ref (G.1 62)), some (.int (aI i))] [] Z Y := by
  obtain ⟨hB, hP, hS, hd4, hd, hT, hA, hW⟩ := hR.c (by omega)
  refine a_aload_n hX rfl rfl dL_law_705 (pc' := 706) rfl ?_
  refine l_arg hX hSc (k := 1) rfl rfl (by omega) hL dL_law_706 rfl dL_law_707 rfl dL_law_708 rfl dL_law_709 rfl dL_law_710 (pc' := 711) rfl ?_
  refine l_arg hX hSc (k := 2) rfl rfl (by omega) hL dL_law_711 rfl dL_law_712 rfl dL_law_713 rfl dL_law_714 rfl dL_law_715 (pc' := 716) rfl ?_
  refine l_arg hX hSc (k := 3) rfl rfl (by omega) hL dL_law_716 rfl dL_law_717 rfl dL_law_718 rfl dL_law_719 rfl dL_law_720 (pc' := 721) rfl ?_
  refine a_cV3I hX cv_L_104 (x_rests (lS_rng _ _) (lS_rng _ _) (lS_rng _ _) hB hP hS hd) rfl (by decide) ⟨by decide, by decide⟩ (Nat.le_of_ble_eq_true rfl) dL_law_721 (pc' := 724) rfl (fun x1 Z1 Y1 g1 => ?_)
  obtain ⟨e1, u1, hB1, rfl⟩ := g1
  have s1 : sm Z Z1 := sm.c (fun a ha => u1 a (by omega))
  have hc : ∀ a : Nat, 62 ≤ a → Z1 a = Z a := fun a ha => u1 a (by omega)
  obtain ⟨qP, qS, qd4, qd, qz, q15, qN, qV, qn, qt, qW⟩ := hR.q (by omega) hc
  refine a_aload_n hX rfl rfl dL_law_724 (pc' := 725) rfl ?_
  refine l_arg hX hSc (k := 1) rfl rfl (by omega) hL dL_law_725 rfl dL_law_726 rfl dL_law_727 rfl dL_law_728 rfl dL_law_729 (pc' := 730) rfl ?_
  refine l_arg hX hSc (k := 2) rfl rfl (by omega) hL dL_law_730 rfl dL_law_731 rfl dL_law_732 rfl dL_law_733 rfl dL_law_734 (pc' := 735) rfl ?_
  refine l_arg hX hSc (k := 3) rfl rfl (by omega) hL dL_law_735 rfl dL_law_736 rfl dL_law_737 rfl dL_law_738 rfl dL_law_739 (pc' := 740) rfl ?_
  refine a_cV3I hX cv_L_108 (q_rests (lS_rng _ _) (lS_rng _ _) (lS_rng _ _) qd4 hB1 qP qS qd) rfl (by decide) ⟨by decide, by decide⟩ (Nat.le_of_ble_eq_true rfl) dL_law_740 (pc' := 743) rfl (fun x2 Z2 Y2 g2 => ?_)
  obtain ⟨e2, t2, hB2, rfl⟩ := g2
  rw [hR.eQ hc, hR.eR hc] at e2
  have s2 : sm Z1 Z2 := t2.sm
  have F : Rel (i + 1) Z2 Y2 := hR.sm (s1.tr s2) (okVr_eq (t2.1 70 (by decide)) (t2.1 71 (by decide)) (t2.1 72 (by decide)) qV) hB2 hR.2.2.2.2.2.2.1 (by omega)
  rw [e2, e1]
  refine l_eq hX dL_law_743 (tgt := 973) (by decide) ?_
  exact K _ _ F
set_option maxHeartbeats 4000000 in
set_option maxRecDepth 100000 in
theorem lk_22 {X : aX} {G : aG} {b L : Nat} {xs : Nat → Int32} {rt : Option FieldType} (hX : aOK X G RL cL_law 4 rt 10 358) (hSc : lSc X b L xs) (hL : L ≤ 3072) {i : Int} {Z : aZ} {Y : aY} (hi : 0 ≤ i ∧ i + 6 ≤ L) (hR : Rel i Z Y) (K : ∀ (Z' : aZ) (Y' : aY), Rel (i + 1) Z' Y' → AW X G 973 [some (.ref b), some (.ref (G.1 0)), some (.ref (G.1 62)), some (.int (aI i))] [] Z' Y') : AW X G 748 [some (.ref b), some (.ref (G.1 0)), some (.ref (G.1 62)), some (.int (aI i))] [] Z Y := by
  obtain ⟨hB, hP, hS, hd4, hd, hT, hA, hW⟩ := hR.c (by omega)
  refine a_aload_n hX rfl rfl dL_law_748 (pc' := 749) rfl ?_
  refine l_arg hX hSc (k := 1) rfl rfl (by omega) hL dL_law_749 rfl dL_law_750 rfl dL_law_751 rfl dL_law_752 rfl dL_law_753 (pc' := 754) rfl ?_
  refine l_arg hX hSc (k := 2) rfl rfl (by omega) hL dL_law_754 rfl dL_law_755 rfl dL_law_756 rfl dL_law_757 rfl dL_law_758 (pc' := 759) rfl ?_
  refine l_arg hX hSc (k := 3) rfl rfl (by omega) hL dL_law_759 rfl dL_law_760 rfl dL_law_761 rfl dL_law_762 rfl dL_law_763 (pc' := 764) rfl ?_
  refine l_arg hX hSc (k := 4) rfl rfl (by omega) hL dL_law_764 rfl dL_law_765 rfl dL_law_766 rfl dL_law_767 rfl dL_law_768 (pc' := 769) rfl ?_
  refine l_arg hX hSc (k := 5) rfl rfl (by omega) hL dL_law_769 rfl dL_law_770 rfl dL_law_771 rfl dL_law_772 rfl dL_law_773 (pc' := 774) rfl ?_
  refine l_bool hX (lS_rng _ _) dL_law_774 rfl dL_law_777 rfl dL_law_778 rfl dL_law_781 (pc' := 782) rfl ?_
  refine a_cV5I hX cv_L_109 (x_fails (u := (decide ((lS xs (i + 5)) ≠ 0))) (lS_rng _ _) (lS_rng _ _) (lS_rng _ _) (lS_rng _ _) hB hP hS hd) rfl (by decide) ⟨by decide, by decide⟩ (Nat.le_of_ble_eq_true rfl) dL_law_782 (pc' := 785) rfl (fun x1 Z1 Y1 g1 => ?_)
  obtain ⟨e1, u1, hB1, rfl⟩ := g1
  have s1 : sm Z Z1 := sm.c (fun a ha => u1 a (by omega) (by omega) (by omega))
  have hc : ∀ a : Nat, 62 ≤ a → Z1 a = Z a := fun a ha => u1 a (by omega) (by omega) (by omega)
  obtain ⟨qP, qS, qd4, qd, qz, q15, qN, qV, qn, qt, qW⟩ := hR.q (by omega) hc
  refine a_aload_n hX rfl rfl dL_law_785 (pc' := 786) rfl ?_
  refine l_arg hX hSc (k := 1) rfl rfl (by omega) hL dL_law_786 rfl dL_law_787 rfl dL_law_788 rfl dL_law_789 rfl dL_law_790 (pc' := 791) rfl ?_
  refine l_arg hX hSc (k := 2) rfl rfl (by omega) hL dL_law_791 rfl dL_law_792 rfl dL_law_793 rfl dL_law_794 rfl dL_law_795 (pc' := 796) rfl ?_
  refine l_arg hX hSc (k := 3) rfl rfl (by omega) hL dL_law_796 rfl dL_law_797 rfl dL_law_798 rfl dL_law_799 rfl dL_law_800 (pc' := 801) rfl ?_
  refine l_arg hX hSc (k := 4) rfl rfl (by omega) hL dL_law_801 rfl dL_law_802 rfl dL_law_803 rfl dL_law_804 rfl dL_law_805 (pc' := 806) rfl ?_
  refine l_arg hX hSc (k := 5) rfl rfl (by omega) hL dL_law_806 rfl dL_law_807 rfl dL_law_808 rfl dL_law_809 rfl dL_law_810 (pc' := 811) rfl ?_
  refine l_bool hX (lS_rng _ _) dL_law_811 rfl dL_law_814 rfl dL_law_815 rfl dL_law_818 (pc' := 819) rfl ?_
  refine a_cV5I hX cv_L_113 (q_fails (u := (decide ((lS xs (i + 5)) ≠ 0))) (lS_rng _ _) (lS_rng _ _) (lS_rng _ _) (lS_rng _ _) qd4 hB1 qP qS qd) rfl (by decide) ⟨by decide, by decide⟩ (Nat.le_of_ble_eq_true rfl) dL_law_819 (pc' := 822) rfl (fun x2 Z2 Y2 g2 => ?_)
  obtain ⟨e2, t2, hB2, rfl⟩ := g2
  rw [hR.eQ hc, hR.eR hc] at e2
  have s2 : sm Z1 Z2 := t2.sm
  have F : Rel (i + 1) Z2 Y2 := hR.sm (s1.tr s2) (okVr_eq (t2.1 70 (by decide)) (t2.1 71 (by decide)) (t2.1 72 (by decide)) qV) hB2 hR.2.2.2.2.2.2.1 (by omega)
  rw [e2, e1]
  refine l_eq hX dL_law_822 (tgt := 973) (by decide) ?_
  exact K _ _ F
set_option maxHeartbeats 4000000 in
set_option maxRecDepth 100000 in
theorem lk_23 {X : aX} {G : aG} {b L : Nat} {xs : Nat → Int32} {rt : Option FieldType} (hX : aOK X G RL cL_law 4 rt 10 358) (hSc : lSc X b L xs) (hL : L ≤ 3072) {i : Int} {Z : aZ} {Y : aY} (hi : 0 ≤ i ∧ i + 6 ≤ L) (hR : Rel i Z Y) (K : ∀ (Z' : aZ) (Y' : aY), Rel (i + 1) Z' Y' → AW X G 973 [some (.ref b), some (.ref (G.1 0)), some (.ref (G.1 62)), some (.int (aI i))] [] Z' Y') : AW X G 827 [some (.ref b), some (.ref (G.1 0)), some (.ref (G.1 62)), some (.int (aI i))] [] Z Y := by
  obtain ⟨hB, hP, hS, hd4, hd, hT, hA, hW⟩ := hR.c (by omega)
  refine a_aload_n hX rfl rfl dL_law_827 (pc' := 828) rfl ?_
  refine l_long hX hSc (k := 1) (k2 := 2) rfl rfl (by omega) (by omega) hL w_1176 dL_law_828 rfl dL_law_829 rfl dL_law_830 rfl dL_law_831 rfl dL_law_832 rfl dL_law_833 rfl dL_law_834 rfl dL_law_836 rfl dL_law_837 rfl dL_law_838 rfl dL_law_839 rfl dL_law_840 rfl dL_law_841 rfl dL_law_842 rfl dL_law_843 rfl dL_law_846 rfl dL_law_847 (pc' := 848) rfl ?_
  refine a_cV1J hX cv_L_114 (x_seed hB) rfl (by decide) ⟨by decide, by decide⟩ (Nat.le_of_ble_eq_true rfl) dL_law_848 (pc' := 851) rfl (fun x1 Z1 Y1 g1 => ?_)
  have hc : ∀ a : Nat, 62 ≤ a → Z1 a = Z a := fun a ha => by rw [g1.2.1]
  obtain ⟨qP, qS, qd4, qd, qz, q15, qN, qV, qn, qt, qW⟩ := hR.q (by omega) hc
  refine a_aload_n hX rfl rfl dL_law_851 (pc' := 852) rfl ?_
  refine l_long hX hSc (k := 1) (k2 := 2) rfl rfl (by omega) (by omega) hL w_1176 dL_law_852 rfl dL_law_853 rfl dL_law_854 rfl dL_law_855 rfl dL_law_856 rfl dL_law_857 rfl dL_law_858 rfl dL_law_860 rfl dL_law_861 rfl dL_law_862 rfl dL_law_863 rfl dL_law_864 rfl dL_law_865 rfl dL_law_866 rfl dL_law_867 rfl dL_law_870 rfl dL_law_871 (pc' := 872) rfl ?_
  refine a_cV1J hX cv_L_118 (q_seed (by rw [g1.2.1]; exact hB)) rfl (by decide) ⟨by decide, by decide⟩ (Nat.le_of_ble_eq_true rfl) dL_law_872 (pc' := 875) rfl (fun x2 Z2 Y2 g2 => ?_)
  have F0 := rl_seed hR g1 g2
  rw [F0.1]
  have F := F0.2.mono (show i ≤ i + 1 by omega)
  refine l_eqJ hX dL_law_875 rfl dL_law_876 (tgt := 973) (by decide) ?_
  exact K _ _ F
set_option maxHeartbeats 4000000 in
set_option maxRecDepth 100000 in
theorem lk_24 {X : aX} {G : aG} {b L : Nat} {xs : Nat → Int32} {rt : Option FieldType} (hX : aOK X G RL cL_law 4 rt 10 358) (hSc : lSc X b L xs) (hL : L ≤ 3072) {i : Int} {Z : aZ} {Y : aY} (hi : 0 ≤ i ∧ i + 6 ≤ L) (hR : Rel i Z Y) (K : ∀ (Z' : aZ) (Y' : aY), Rel (i + 1) Z' Y' → AW X G 973 [some (.ref b), some (.ref (G.1 0)), some (.ref (G.1 62)), some (.int (aI i))] [] Z' Y') : AW X G 881 [some (.ref b), some (.ref (G.1 0)), some (.ref (G.1 62)), some (.int (aI i))] [] Z Y := by
  obtain ⟨hB, hP, hS, hd4, hd, hT, hA, hW⟩ := hR.c (by omega)
  refine a_aload_n hX rfl rfl dL_law_881 (pc' := 882) rfl ?_
  refine l_arg hX hSc (k := 1) rfl rfl (by omega) hL dL_law_882 rfl dL_law_883 rfl dL_law_884 rfl dL_law_885 rfl dL_law_886 (pc' := 887) rfl ?_
  refine a_cV1I hX cv_L_119 (x_seasons (lS_rng _ _) hd4 hB hP hS hd) rfl (by decide) ⟨by decide, by decide⟩ (Nat.le_of_ble_eq_true rfl) dL_law_887 (pc' := 890) rfl (fun x1 Z1 Y1 g1 => ?_)
  obtain ⟨e1, y1, y2, u1, hB1⟩ := id g1
  have s1 : sm Z Z1 := sm.c (fun a ha => u1 a (by omega) (by omega))
  have hc : ∀ a : Nat, 62 ≤ a → Z1 a = Z a := fun a ha => u1 a (by omega) (by omega)
  obtain ⟨qP, qS, qd4, qd, qz, q15, qN, qV, qn, qt, qW⟩ := hR.q (by omega) hc
  refine a_aload_n hX rfl rfl dL_law_890 (pc' := 891) rfl ?_
  refine l_arg hX hSc (k := 1) rfl rfl (by omega) hL dL_law_891 rfl dL_law_892 rfl dL_law_893 rfl dL_law_894 rfl dL_law_895 (pc' := 896) rfl ?_
  refine a_cV1I hX cv_L_122 (q_seasons (lS_rng _ _) qz qd4 g1.2.2.2.2 qP qS qd) rfl (by decide) ⟨by decide, by decide⟩ (Nat.le_of_ble_eq_true rfl) dL_law_896 (pc' := 899) rfl (fun x2 Z2 Y2 g2 => ?_)
  obtain ⟨e2, y3, y4, t2, hB2⟩ := g2
  have yy : Y1 62 = Y 0 := by rw [y2 62 (by decide)]; exact hR.2.2.2.2.2.2.1
  rw [hR.eQ hc, hR.eR hc, yy] at e2
  rw [yy] at y3
  have F : Rel (i + 1) Z2 Y2 := hR.sm (s1.tr t2.sm) (okVr_eq (t2.1 70 (by decide)) (t2.1 71 (by decide)) (t2.1 72 (by decide)) qV) hB2 (by rw [y3, y4 0 (by decide), y1]) (by omega)
  rw [e2, e1]
  refine l_eq hX dL_law_899 (tgt := 973) (by decide) ?_
  exact K _ _ F
set_option maxHeartbeats 4000000 in
set_option maxRecDepth 100000 in
theorem lk_25 {X : aX} {G : aG} {b L : Nat} {xs : Nat → Int32} {rt : Option FieldType} (hX : aOK X G RL cL_law 4 rt 10 358) (hSc : lSc X b L xs) (hL : L ≤ 3072) {i : Int} {Z : aZ} {Y : aY} (hi : 0 ≤ i ∧ i + 6 ≤ L) (hR : Rel i Z Y) (K : ∀ (Z' : aZ) (Y' : aY), Rel (i + 1) Z' Y' → AW X G 973 [some (.ref b), some (.ref (G.1 0)), some (.ref (G.1 62)), some (.int (aI i))] [] Z' Y') : AW X G 904 [some (.ref b), some (.ref (G.1 0)), some (.ref (G.1 62)), some (.int (aI i))] [] Z Y := by
  obtain ⟨hB, hP, hS, hd4, hd, hT, hA, hW⟩ := hR.c (by omega)
  refine a_aload_n hX rfl rfl dL_law_904 (pc' := 905) rfl ?_
  refine l_arg hX hSc (k := 1) rfl rfl (by omega) hL dL_law_905 rfl dL_law_906 rfl dL_law_907 rfl dL_law_908 rfl dL_law_909 (pc' := 910) rfl ?_
  refine a_cV1I hX cv_L_123 (x_keep (lS_rng _ _) hB hP hS hd) rfl (by decide) ⟨by decide, by decide⟩ (Nat.le_of_ble_eq_true rfl) dL_law_910 (pc' := 913) rfl (fun x1 Z1 Y1 g1 => ?_)
  have hc : ∀ a : Nat, 62 ≤ a → Z1 a = Z a := fun a ha => by
    have d := g1.2.1
    by_cases c : 0 ≤ (lS xs (i + 1)) ∧ (lS xs (i + 1)) < 2
    · rw [if_pos c] at d
      exact d.2.2.2 a (by omega) (by omega)
    · rw [if_neg c] at d
      rw [d]
  obtain ⟨qP, qS, qd4, qd, qz, q15, qN, qV, qn, qt, qW⟩ := hR.q (by omega) hc
  refine a_aload_n hX rfl rfl dL_law_913 (pc' := 914) rfl ?_
  refine l_arg hX hSc (k := 1) rfl rfl (by omega) hL dL_law_914 rfl dL_law_915 rfl dL_law_916 rfl dL_law_917 rfl dL_law_918 (pc' := 919) rfl ?_
  refine a_cV1I hX cv_L_126 (q_keep (lS_rng _ _) g1.2.2.1) rfl (by decide) ⟨by decide, by decide⟩ (Nat.le_of_ble_eq_true rfl) dL_law_919 (pc' := 922) rfl (fun x2 Z2 Y2 g2 => ?_)
  have F0 := rl_keep hR g1 g2
  rw [F0.1]
  have F := F0.2.mono (show i ≤ i + 1 by omega)
  refine l_eq hX dL_law_922 (tgt := 973) (by decide) ?_
  exact K _ _ F
set_option maxHeartbeats 4000000 in
set_option maxRecDepth 100000 in
theorem lk_26 {X : aX} {G : aG} {b L : Nat} {xs : Nat → Int32} {rt : Option FieldType} (hX : aOK X G RL cL_law 4 rt 10 358) (hSc : lSc X b L xs) (hL : L ≤ 3072) {i : Int} {Z : aZ} {Y : aY} (hi : 0 ≤ i ∧ i + 6 ≤ L) (hR : Rel i Z Y) (K : ∀ (Z' : aZ) (Y' : aY), Rel (i + 1) Z' Y' → AW X G 973 [some (.ref b), some (.ref (G.1 0)), some (.ref (G.1 62)), some (.int (aI i))] [] Z' Y') : AW X G 927 [some (.ref b), some (.ref (G.1 0)), some (.ref (G.1 62)), some (.int (aI i))] [] Z Y := by
  obtain ⟨hB, hP, hS, hd4, hd, hT, hA, hW⟩ := hR.c (by omega)
  refine a_aload_n hX rfl rfl dL_law_927 (pc' := 928) rfl ?_
  refine l_arg hX hSc (k := 1) rfl rfl (by omega) hL dL_law_928 rfl dL_law_929 rfl dL_law_930 rfl dL_law_931 rfl dL_law_932 (pc' := 933) rfl ?_
  refine a_cV1I hX cv_L_127 (x_again (lS_rng _ _) (fun q1 q2 => by
      have q3 := (hR.2.2.2.2.1 (lS xs (i + 1)) (by omega)).2 q2
      refine ⟨q3.1.1, ?_⟩
      have q4 := q3.1.2.2
      have q5 : vRow Z (57 + (lS xs (i + 1)).toNat) 15 = Z (57 + (lS xs (i + 1)).toNat) 15 := by rw [vRow_M]; rfl
      rw [q5] at q4
      omega) hB hP hS hd) rfl (by decide) ⟨by decide, by decide⟩ (Nat.le_of_ble_eq_true rfl) dL_law_933 (pc' := 936) rfl (fun x1 Z1 Y1 g1 => ?_)
  have hc : ∀ a : Nat, 62 ≤ a → Z1 a = Z a := fun a ha => by
    have d := g1.2.1
    by_cases c : (0 ≤ (lS xs (i + 1)) ∧ (lS xs (i + 1)) < 2) ∧ Z 59 (lS xs (i + 1)) ≠ 0
    · rw [if_pos c] at d
      exact d.2.2.2 a (by omega) (by omega)
    · rw [if_neg c] at d
      rw [d]
  obtain ⟨qP, qS, qd4, qd, qz, q15, qN, qV, qn, qt, qW⟩ := hR.q (by omega) hc
  refine a_aload_n hX rfl rfl dL_law_936 (pc' := 937) rfl ?_
  refine l_arg hX hSc (k := 1) rfl rfl (by omega) hL dL_law_937 rfl dL_law_938 rfl dL_law_939 rfl dL_law_940 rfl dL_law_941 (pc' := 942) rfl ?_
  refine a_cV1I hX cv_L_130 (q_again (lS_rng _ _) g1.2.2.1) rfl (by decide) ⟨by decide, by decide⟩ (Nat.le_of_ble_eq_true rfl) dL_law_942 (pc' := 945) rfl (fun x2 Z2 Y2 g2 => ?_)
  have F0 := rl_again hR g1 g2
  rw [F0.1]
  have F := F0.2.mono (show i ≤ i + 1 by omega)
  refine l_eq hX dL_law_945 (tgt := 973) (by decide) ?_
  exact K _ _ F
set_option maxHeartbeats 4000000 in
set_option maxRecDepth 100000 in
theorem lk_27 {X : aX} {G : aG} {b L : Nat} {xs : Nat → Int32} {rt : Option FieldType} (hX : aOK X G RL cL_law 4 rt 10 358) (hSc : lSc X b L xs) (hL : L ≤ 3072) {i : Int} {Z : aZ} {Y : aY} (hi : 0 ≤ i ∧ i + 6 ≤ L) (hR : Rel i Z Y) (K : ∀ (Z' : aZ) (Y' : aY), Rel (i + 1) Z' Y' → AW X G 973 [some (.ref b), some (.ref (G.1 0)), some (.ref (G.1 62)), some (.int (aI i))] [] Z' Y') : AW X G 950 [some (.ref b), some (.ref (G.1 0)), some (.ref (G.1 62)), some (.int (aI i))] [] Z Y := by
  obtain ⟨hB, hP, hS, hd4, hd, hT, hA, hW⟩ := hR.c (by omega)
  refine a_aload_n hX rfl rfl dL_law_950 (pc' := 951) rfl ?_
  refine l_arg hX hSc (k := 1) rfl rfl (by omega) hL dL_law_951 rfl dL_law_952 rfl dL_law_953 rfl dL_law_954 rfl dL_law_955 (pc' := 956) rfl ?_
  refine a_cV1i hX cv_L_131 (x_count (lS_rng _ _) hB hP hS hd) rfl (by decide) ⟨by decide, by decide⟩ (Nat.le_of_ble_eq_true rfl) dL_law_956 (pc' := 959) rfl ?_
  have hc : ∀ a : Nat, 62 ≤ a → Z a = Z a := fun _ _ => rfl
  obtain ⟨qP, qS, qd4, qd, qz, q15, qN, qV, qn, qt, qW⟩ := hR.q (by omega) hc
  refine a_aload_n hX rfl rfl dL_law_959 (pc' := 960) rfl ?_
  refine l_arg hX hSc (k := 1) rfl rfl (by omega) hL dL_law_960 rfl dL_law_961 rfl dL_law_962 rfl dL_law_963 rfl dL_law_964 (pc' := 965) rfl ?_
  refine a_cV1i hX cv_L_134 (q_count (lS_rng _ _) hB qP qS qd) rfl (by decide) ⟨by decide, by decide⟩ (Nat.le_of_ble_eq_true rfl) dL_law_965 (pc' := 968) rfl ?_
  have v0 : Z 62 0 = Z 3 8 := by rw [← vQ_0 (Z := Z), hR.2.1.2, vP_0]
  have v1 : Z 62 1 = Z 3 9 := by rw [← vQ_1 (Z := Z), hR.2.1.2, vP_1]
  have v2 : Z 62 2 = Z 3 10 := by rw [← vQ_2 (Z := Z), hR.2.1.2, vP_2]
  rw [hR.2.1.2, hR.2.2.1.2, v0, v1, v2, hR.1.2.1, hR.2.2.2.1.2.2.1, hR.2.2.2.2.2.1.2.1, ← sFilled_oz hP hR.2.2.1.1.2.1, vS_15, vS_14, vS_13]
  have F : Rel (i + 1) Z Y := hR.mono (by omega)
  refine l_eq hX dL_law_968 (tgt := 973) (by decide) ?_
  exact K _ _ F

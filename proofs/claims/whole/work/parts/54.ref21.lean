theorem fgR_of {Z Z' : aZ} {a b x : Int} (h : (qFg Z a b ∧ x = Z 73 (Z 62 18) - 48 ∧ Z' = aU Z 62 18 (Z 62 18 + 1)) ∨ (¬ qFg Z a b ∧ x = 0 ∧ Z' = aU Z 62 19 (if Z 62 19 = -9 then Z 62 18 else Z 62 19))) : fgR Z Z' a b x := fgOf h

set_option maxHeartbeats 4000000 in
set_option maxRecDepth 100000 in
theorem q_readPart {G : aG} {Z : aZ} {Y : aY} {l : Int} (hl : 0 ≤ l ∧ l ≤ 255) (el : l = Z 73 (Z 62 18)) (hC : okCm Z) (hV : okVr Z) (hi : 0 ≤ Z 62 18 ∧ Z 62 18 < Z 62 17) (hn : Z 62 17 ≤ 52) (h9 : Z 62 19 = -9) (hB : aB Z) : aSV G yX10_readPart cX10_readPart 2 none 2 49 [.ref (G.1 62), .int (aI l)] Z Y (fun Z' Y' => rdPost Z Z' ∧ aB Z' ∧ Y' = Y) := by
  refine aS.of (own := RX10) (by decide +kernel) rfl 0 (Nat.le_of_ble_eq_true rfl) (fun X hX hE => ?_)
  show AW X G 0 [some (.ref (G.1 62)), some (.int (aI l))] [] Z Y
  obtain ⟨hC1, hC2, hC3⟩ := id hC
  refine a_iload_n hX rfl rfl dX10_readPart_0 (pc' := 1) rfl ?_
  refine a_bipush hX rfl dX10_readPart_1 (pc' := 3) rfl ?_
  refine a_icmp_ne hX (by omega) (by omega) dX10_readPart_3 (pc' := 6) rfl (tgt := 52) (by decide) (fun c3 => ?_) (fun c3 => ?_)
  · refine a_iload_n hX rfl rfl dX10_readPart_52 (pc' := 53) rfl ?_
    refine a_bipush hX rfl dX10_readPart_53 (pc' := 55) rfl ?_
    refine a_icmp_ne hX (by omega) (by omega) dX10_readPart_55 (pc' := 58) rfl (tgt := 145) (by decide) (fun c55 => ?_) (fun c55 => ?_)
    · refine a_iload_n hX rfl rfl dX10_readPart_145 (pc' := 146) rfl ?_
      refine a_bipush hX rfl dX10_readPart_146 (pc' := 148) rfl ?_
      refine a_icmp_ne hX (by omega) (by omega) dX10_readPart_148 (pc' := 151) rfl (tgt := 258) (by decide) (fun c148 => ?_) (fun c148 => ?_)
      · refine a_aload_n hX rfl rfl dX10_readPart_258 (pc' := 259) rfl ?_
        refine a_aload_n hX rfl rfl dX10_readPart_259 (pc' := 260) rfl ?_
        refine a_getfI hX (ji := 18) rfl hB fl_X10_78 rfl (by decide) rfl dX10_readPart_260 (pc' := 263) rfl (fun hb => ?_)
        refine a_putfIB hX fl_X10_75 nf_9_19 (ji := 19) rfl rfl (by decide) rfl hB (by omega) dX10_readPart_263 (pc' := 266) rfl (fun hB => ?_)
        refine a_vret hX dX10_readPart_266 (hE _ _ _ ?_)
        refine ⟨rfl, ?_, hB, rfl⟩
        first
          | exact rdW (by omega) (by omega) hC hV hi hn rfl h9 g35
          | exact rdC (by omega) (by omega) hC hV hi hn rfl h9 g89 g109 g128
          | exact rdS (by omega) (by omega) hC hV hi hn rfl h9 g182 g202 g222 g241
          | exact rdX hC hV hi hn (fun q => by omega) (fun q => by omega) (fun q => by omega)
      · refine a_aload_n hX rfl rfl dX10_readPart_151 (pc' := 152) rfl ?_
        refine a_getfI hX (ji := 15) rfl hB fl_X10_87 rfl (by decide) rfl dX10_readPart_152 (pc' := 155) rfl (fun hb => ?_)
        refine a_iconst hX dX10_readPart_155 (pc' := 156) rfl ?_
        refine a_icmp_ge hX (by omega) (by omega) dX10_readPart_156 (pc' := 159) rfl (tgt := 258) (by decide) (fun c156 => ?_) (fun c156 => ?_)
        · refine a_aload_n hX rfl rfl dX10_readPart_258 (pc' := 259) rfl ?_
          refine a_aload_n hX rfl rfl dX10_readPart_259 (pc' := 260) rfl ?_
          refine a_getfI hX (ji := 18) rfl hB fl_X10_78 rfl (by decide) rfl dX10_readPart_260 (pc' := 263) rfl (fun hb => ?_)
          refine a_putfIB hX fl_X10_75 nf_9_19 (ji := 19) rfl rfl (by decide) rfl hB (by omega) dX10_readPart_263 (pc' := 266) rfl (fun hB => ?_)
          refine a_vret hX dX10_readPart_266 (hE _ _ _ ?_)
          refine ⟨rfl, ?_, hB, rfl⟩
          first
            | exact rdW (by omega) (by omega) hC hV hi hn rfl h9 g35
            | exact rdC (by omega) (by omega) hC hV hi hn rfl h9 g89 g109 g128
            | exact rdS (by omega) (by omega) hC hV hi hn rfl h9 g182 g202 g222 g241
            | exact rdX hC hV hi hn (fun q => by omega) (fun q => by omega) (fun q => by omega)
        · refine a_aload_n hX rfl rfl dX10_readPart_159 (pc' := 160) rfl ?_
          refine a_dup hX rfl dX10_readPart_160 (pc' := 161) rfl ?_
          refine a_getfI hX (ji := 18) rfl hB fl_X10_78 rfl (by decide) rfl dX10_readPart_161 (pc' := 164) rfl (fun hb => ?_)
          refine a_iconst hX dX10_readPart_164 (pc' := 165) rfl ?_
          refine a_iadd hX dX10_readPart_165 (pc' := 166) rfl ?_
          refine a_putfIB hX fl_X10_78 nf_9_18 (ji := 18) rfl rfl (by decide) rfl hB (by omega) dX10_readPart_166 (pc' := 169) rfl (fun hB => ?_)
          refine a_aload_n hX rfl rfl dX10_readPart_169 (pc' := 170) rfl ?_
          refine a_getfR hX (r := 72) fl_X10_37 rfl (by decide) rfl dX10_readPart_170 (pc' := 173) rfl ?_
          refine a_iconst hX dX10_readPart_173 (pc' := 174) rfl ?_
          refine a_aload_n hX rfl rfl dX10_readPart_174 (pc' := 175) rfl ?_
          refine a_getfI hX (ji := 15) rfl hB fl_X10_87 rfl (by decide) rfl dX10_readPart_175 (pc' := 178) rfl (fun hb => ?_)
          have r178 : (aU Z 62 18 (Z 62 18 + 1)) 62 15 = Z 62 15 := aU_nj (by decide)
          rw [r178]
          have m182 : (aU Z 62 18 (Z 62 18 + 1)) 62 17 = Z 62 17 := aU_nj (by decide)
          have i182 : 0 ≤ (aU Z 62 18 (Z 62 18 + 1)) 62 18 ∧ (aU Z 62 18 (Z 62 18 + 1)) 62 18 ≤ 53 := by rw [aU_eq]; omega
          refine a_imul hX dX10_readPart_178 (pc' := 179) rfl ?_
          refine a_aload_n hX rfl rfl dX10_readPart_179 (pc' := 180) rfl ?_
          refine a_iconst hX dX10_readPart_180 (pc' := 181) rfl ?_
          refine a_iconst hX dX10_readPart_181 (pc' := 182) rfl ?_
          refine a_cV2I hX cv_X10_94 (q_figureOf (by omega) (by omega) hB (by omega) (by omega)) rfl (by decide) ⟨by decide, by decide⟩ (Nat.le_of_ble_eq_true rfl) dX10_readPart_182 (pc' := 185) rfl (fun x182 Z182 Y182 h182 => ?_)
          obtain ⟨g182, hB, rfl⟩ := h182
          have g182 := fgR_of g182
          have hx182 := fgS_hi g182.1 (by decide)
          have hi182 := fgS_i g182.1
          refine a_iastB hX rfl (by decide) (by decide) (by omega) hB (by omega) dX10_readPart_185 (pc' := 186) rfl (fun hB => ?_)
          refine a_aload_n hX rfl rfl dX10_readPart_186 (pc' := 187) rfl ?_
          refine a_getfR hX (r := 72) fl_X10_37 rfl (by decide) rfl dX10_readPart_187 (pc' := 190) rfl ?_
          refine a_iconst hX dX10_readPart_190 (pc' := 191) rfl ?_
          refine a_aload_n hX rfl rfl dX10_readPart_191 (pc' := 192) rfl ?_
          refine a_getfI hX (ji := 15) rfl hB fl_X10_87 rfl (by decide) rfl dX10_readPart_192 (pc' := 195) rfl (fun hb => ?_)
          have r195 : (aU Z182 72 (4 * Z 62 15) x182) 62 15 = Z 62 15 := by rw [aU_ne (by decide), g182.2.2 15 (by decide) (by decide)]; exact r178
          rw [r195]
          have m202 : (aU Z182 72 (4 * Z 62 15) x182) 62 17 = Z 62 17 := by rw [aU_ne (by decide), g182.2.2 17 (by decide) (by decide), m182]
          have i202 : 0 ≤ (aU Z182 72 (4 * Z 62 15) x182) 62 18 ∧ (aU Z182 72 (4 * Z 62 15) x182) 62 18 ≤ 54 := by rw [aU_ne (by decide)]; omega
          refine a_imul hX dX10_readPart_195 (pc' := 196) rfl ?_
          refine a_iconst hX dX10_readPart_196 (pc' := 197) rfl ?_
          refine a_iadd hX dX10_readPart_197 (pc' := 198) rfl ?_
          refine a_aload_n hX rfl rfl dX10_readPart_198 (pc' := 199) rfl ?_
          refine a_iconst hX dX10_readPart_199 (pc' := 200) rfl ?_
          refine a_bipush hX rfl dX10_readPart_200 (pc' := 202) rfl ?_
          refine a_cV2I hX cv_X10_94 (q_figureOf (by omega) (by omega) hB (by omega) (by omega)) rfl (by decide) ⟨by decide, by decide⟩ (Nat.le_of_ble_eq_true rfl) dX10_readPart_202 (pc' := 205) rfl (fun x202 Z202 Y202 h202 => ?_)
          obtain ⟨g202, hB, rfl⟩ := h202
          have g202 := fgR_of g202
          have hx202 := fgS_hi g202.1 (by decide)
          have hi202 := fgS_i g202.1
          refine a_iastB hX rfl (by decide) (by decide) (by omega) hB (by omega) dX10_readPart_205 (pc' := 206) rfl (fun hB => ?_)
          refine a_aload_n hX rfl rfl dX10_readPart_206 (pc' := 207) rfl ?_
          refine a_getfR hX (r := 72) fl_X10_37 rfl (by decide) rfl dX10_readPart_207 (pc' := 210) rfl ?_
          refine a_iconst hX dX10_readPart_210 (pc' := 211) rfl ?_
          refine a_aload_n hX rfl rfl dX10_readPart_211 (pc' := 212) rfl ?_
          refine a_getfI hX (ji := 15) rfl hB fl_X10_87 rfl (by decide) rfl dX10_readPart_212 (pc' := 215) rfl (fun hb => ?_)
          have r215 : (aU Z202 72 (4 * Z 62 15 + 1) x202) 62 15 = Z 62 15 := by rw [aU_ne (by decide), g202.2.2 15 (by decide) (by decide)]; exact r195
          rw [r215]
          have m222 : (aU Z202 72 (4 * Z 62 15 + 1) x202) 62 17 = Z 62 17 := by rw [aU_ne (by decide), g202.2.2 17 (by decide) (by decide), m202]
          have i222 : 0 ≤ (aU Z202 72 (4 * Z 62 15 + 1) x202) 62 18 ∧ (aU Z202 72 (4 * Z 62 15 + 1) x202) 62 18 ≤ 55 := by rw [aU_ne (by decide)]; omega
          refine a_imul hX dX10_readPart_215 (pc' := 216) rfl ?_
          refine a_iconst hX dX10_readPart_216 (pc' := 217) rfl ?_
          refine a_iadd hX dX10_readPart_217 (pc' := 218) rfl ?_
          refine a_aload_n hX rfl rfl dX10_readPart_218 (pc' := 219) rfl ?_
          refine a_iconst hX dX10_readPart_219 (pc' := 220) rfl ?_
          refine a_bipush hX rfl dX10_readPart_220 (pc' := 222) rfl ?_
          refine a_cV2I hX cv_X10_94 (q_figureOf (by omega) (by omega) hB (by omega) (by omega)) rfl (by decide) ⟨by decide, by decide⟩ (Nat.le_of_ble_eq_true rfl) dX10_readPart_222 (pc' := 225) rfl (fun x222 Z222 Y222 h222 => ?_)
          obtain ⟨g222, hB, rfl⟩ := h222
          have g222 := fgR_of g222
          have hx222 := fgS_hi g222.1 (by decide)
          have hi222 := fgS_i g222.1
          refine a_iastB hX rfl (by decide) (by decide) (by omega) hB (by omega) dX10_readPart_225 (pc' := 226) rfl (fun hB => ?_)
          refine a_aload_n hX rfl rfl dX10_readPart_226 (pc' := 227) rfl ?_
          refine a_getfR hX (r := 72) fl_X10_37 rfl (by decide) rfl dX10_readPart_227 (pc' := 230) rfl ?_
          refine a_iconst hX dX10_readPart_230 (pc' := 231) rfl ?_
          refine a_aload_n hX rfl rfl dX10_readPart_231 (pc' := 232) rfl ?_
          refine a_getfI hX (ji := 15) rfl hB fl_X10_87 rfl (by decide) rfl dX10_readPart_232 (pc' := 235) rfl (fun hb => ?_)
          have r235 : (aU Z222 72 (4 * Z 62 15 + 2) x222) 62 15 = Z 62 15 := by rw [aU_ne (by decide), g222.2.2 15 (by decide) (by decide)]; exact r215
          rw [r235]
          have m241 : (aU Z222 72 (4 * Z 62 15 + 2) x222) 62 17 = Z 62 17 := by rw [aU_ne (by decide), g222.2.2 17 (by decide) (by decide), m222]
          have i241 : 0 ≤ (aU Z222 72 (4 * Z 62 15 + 2) x222) 62 18 ∧ (aU Z222 72 (4 * Z 62 15 + 2) x222) 62 18 ≤ 56 := by rw [aU_ne (by decide)]; omega
          refine a_imul hX dX10_readPart_235 (pc' := 236) rfl ?_
          refine a_iconst hX dX10_readPart_236 (pc' := 237) rfl ?_
          refine a_iadd hX dX10_readPart_237 (pc' := 238) rfl ?_
          refine a_aload_n hX rfl rfl dX10_readPart_238 (pc' := 239) rfl ?_
          refine a_iconst hX dX10_readPart_239 (pc' := 240) rfl ?_
          refine a_iconst hX dX10_readPart_240 (pc' := 241) rfl ?_
          refine a_cV2I hX cv_X10_94 (q_figureOf (by omega) (by omega) hB (by omega) (by omega)) rfl (by decide) ⟨by decide, by decide⟩ (Nat.le_of_ble_eq_true rfl) dX10_readPart_241 (pc' := 244) rfl (fun x241 Z241 Y241 h241 => ?_)
          obtain ⟨g241, hB, rfl⟩ := h241
          have g241 := fgR_of g241
          have hx241 := fgS_hi g241.1 (by decide)
          have hi241 := fgS_i g241.1
          refine a_iastB hX rfl (by decide) (by decide) (by omega) hB (by omega) dX10_readPart_244 (pc' := 245) rfl (fun hB => ?_)
          refine a_aload_n hX rfl rfl dX10_readPart_245 (pc' := 246) rfl ?_
          refine a_dup hX rfl dX10_readPart_246 (pc' := 247) rfl ?_
          refine a_getfI hX (ji := 15) rfl hB fl_X10_87 rfl (by decide) rfl dX10_readPart_247 (pc' := 250) rfl (fun hb => ?_)
          have r250 : (aU Z241 72 (4 * Z 62 15 + 3) x241) 62 15 = Z 62 15 := by rw [aU_ne (by decide), g241.2.2 15 (by decide) (by decide)]; exact r235
          rw [r250]
          refine a_iconst hX dX10_readPart_250 (pc' := 251) rfl ?_
          refine a_iadd hX dX10_readPart_251 (pc' := 252) rfl ?_
          refine a_putfIB hX fl_X10_87 nf_9_15 (ji := 15) rfl rfl (by decide) rfl hB (by omega) dX10_readPart_252 (pc' := 255) rfl (fun hB => ?_)
          refine a_goto hX dX10_readPart_255 (tgt := 266) (by decide) ?_
          refine a_vret hX dX10_readPart_266 (hE _ _ _ ?_)
          refine ⟨rfl, ?_, hB, rfl⟩
          first
            | exact rdW (by omega) (by omega) hC hV hi hn rfl h9 g35
            | exact rdC (by omega) (by omega) hC hV hi hn rfl h9 g89 g109 g128
            | exact rdS (by omega) (by omega) hC hV hi hn rfl h9 g182 g202 g222 g241
            | exact rdX hC hV hi hn (fun q => by omega) (fun q => by omega) (fun q => by omega)
    · refine a_aload_n hX rfl rfl dX10_readPart_58 (pc' := 59) rfl ?_
      refine a_getfI hX (ji := 14) rfl hB fl_X10_84 rfl (by decide) rfl dX10_readPart_59 (pc' := 62) rfl (fun hb => ?_)
      refine a_iconst hX dX10_readPart_62 (pc' := 63) rfl ?_
      refine a_icmp_ge hX (by omega) (by omega) dX10_readPart_63 (pc' := 66) rfl (tgt := 145) (by decide) (fun c63 => ?_) (fun c63 => ?_)
      · refine a_iload_n hX rfl rfl dX10_readPart_145 (pc' := 146) rfl ?_
        refine a_bipush hX rfl dX10_readPart_146 (pc' := 148) rfl ?_
        refine a_icmp_ne hX (by omega) (by omega) dX10_readPart_148 (pc' := 151) rfl (tgt := 258) (by decide) (fun c148 => ?_) (fun c148 => ?_)
        · refine a_aload_n hX rfl rfl dX10_readPart_258 (pc' := 259) rfl ?_
          refine a_aload_n hX rfl rfl dX10_readPart_259 (pc' := 260) rfl ?_
          refine a_getfI hX (ji := 18) rfl hB fl_X10_78 rfl (by decide) rfl dX10_readPart_260 (pc' := 263) rfl (fun hb => ?_)
          refine a_putfIB hX fl_X10_75 nf_9_19 (ji := 19) rfl rfl (by decide) rfl hB (by omega) dX10_readPart_263 (pc' := 266) rfl (fun hB => ?_)
          refine a_vret hX dX10_readPart_266 (hE _ _ _ ?_)
          refine ⟨rfl, ?_, hB, rfl⟩
          first
            | exact rdW (by omega) (by omega) hC hV hi hn rfl h9 g35
            | exact rdC (by omega) (by omega) hC hV hi hn rfl h9 g89 g109 g128
            | exact rdS (by omega) (by omega) hC hV hi hn rfl h9 g182 g202 g222 g241
            | exact rdX hC hV hi hn (fun q => by omega) (fun q => by omega) (fun q => by omega)
        · refine a_aload_n hX rfl rfl dX10_readPart_151 (pc' := 152) rfl ?_
          refine a_getfI hX (ji := 15) rfl hB fl_X10_87 rfl (by decide) rfl dX10_readPart_152 (pc' := 155) rfl (fun hb => ?_)
          refine a_iconst hX dX10_readPart_155 (pc' := 156) rfl ?_
          refine a_icmp_ge hX (by omega) (by omega) dX10_readPart_156 (pc' := 159) rfl (tgt := 258) (by decide) (fun c156 => ?_) (fun c156 => ?_)
          · refine a_aload_n hX rfl rfl dX10_readPart_258 (pc' := 259) rfl ?_
            refine a_aload_n hX rfl rfl dX10_readPart_259 (pc' := 260) rfl ?_
            refine a_getfI hX (ji := 18) rfl hB fl_X10_78 rfl (by decide) rfl dX10_readPart_260 (pc' := 263) rfl (fun hb => ?_)
            refine a_putfIB hX fl_X10_75 nf_9_19 (ji := 19) rfl rfl (by decide) rfl hB (by omega) dX10_readPart_263 (pc' := 266) rfl (fun hB => ?_)
            refine a_vret hX dX10_readPart_266 (hE _ _ _ ?_)
            refine ⟨rfl, ?_, hB, rfl⟩
            first
              | exact rdW (by omega) (by omega) hC hV hi hn rfl h9 g35
              | exact rdC (by omega) (by omega) hC hV hi hn rfl h9 g89 g109 g128
              | exact rdS (by omega) (by omega) hC hV hi hn rfl h9 g182 g202 g222 g241
              | exact rdX hC hV hi hn (fun q => by omega) (fun q => by omega) (fun q => by omega)
          · refine a_aload_n hX rfl rfl dX10_readPart_159 (pc' := 160) rfl ?_
            refine a_dup hX rfl dX10_readPart_160 (pc' := 161) rfl ?_
            refine a_getfI hX (ji := 18) rfl hB fl_X10_78 rfl (by decide) rfl dX10_readPart_161 (pc' := 164) rfl (fun hb => ?_)
            refine a_iconst hX dX10_readPart_164 (pc' := 165) rfl ?_
            refine a_iadd hX dX10_readPart_165 (pc' := 166) rfl ?_
            refine a_putfIB hX fl_X10_78 nf_9_18 (ji := 18) rfl rfl (by decide) rfl hB (by omega) dX10_readPart_166 (pc' := 169) rfl (fun hB => ?_)
            refine a_aload_n hX rfl rfl dX10_readPart_169 (pc' := 170) rfl ?_
            refine a_getfR hX (r := 72) fl_X10_37 rfl (by decide) rfl dX10_readPart_170 (pc' := 173) rfl ?_
            refine a_iconst hX dX10_readPart_173 (pc' := 174) rfl ?_
            refine a_aload_n hX rfl rfl dX10_readPart_174 (pc' := 175) rfl ?_
            refine a_getfI hX (ji := 15) rfl hB fl_X10_87 rfl (by decide) rfl dX10_readPart_175 (pc' := 178) rfl (fun hb => ?_)
            have r178 : (aU Z 62 18 (Z 62 18 + 1)) 62 15 = Z 62 15 := aU_nj (by decide)
            rw [r178]
            have m182 : (aU Z 62 18 (Z 62 18 + 1)) 62 17 = Z 62 17 := aU_nj (by decide)
            have i182 : 0 ≤ (aU Z 62 18 (Z 62 18 + 1)) 62 18 ∧ (aU Z 62 18 (Z 62 18 + 1)) 62 18 ≤ 53 := by rw [aU_eq]; omega
            refine a_imul hX dX10_readPart_178 (pc' := 179) rfl ?_
            refine a_aload_n hX rfl rfl dX10_readPart_179 (pc' := 180) rfl ?_
            refine a_iconst hX dX10_readPart_180 (pc' := 181) rfl ?_
            refine a_iconst hX dX10_readPart_181 (pc' := 182) rfl ?_
            refine a_cV2I hX cv_X10_94 (q_figureOf (by omega) (by omega) hB (by omega) (by omega)) rfl (by decide) ⟨by decide, by decide⟩ (Nat.le_of_ble_eq_true rfl) dX10_readPart_182 (pc' := 185) rfl (fun x182 Z182 Y182 h182 => ?_)
            obtain ⟨g182, hB, rfl⟩ := h182
            have g182 := fgR_of g182
            have hx182 := fgS_hi g182.1 (by decide)
            have hi182 := fgS_i g182.1
            refine a_iastB hX rfl (by decide) (by decide) (by omega) hB (by omega) dX10_readPart_185 (pc' := 186) rfl (fun hB => ?_)
            refine a_aload_n hX rfl rfl dX10_readPart_186 (pc' := 187) rfl ?_
            refine a_getfR hX (r := 72) fl_X10_37 rfl (by decide) rfl dX10_readPart_187 (pc' := 190) rfl ?_
            refine a_iconst hX dX10_readPart_190 (pc' := 191) rfl ?_
            refine a_aload_n hX rfl rfl dX10_readPart_191 (pc' := 192) rfl ?_
            refine a_getfI hX (ji := 15) rfl hB fl_X10_87 rfl (by decide) rfl dX10_readPart_192 (pc' := 195) rfl (fun hb => ?_)
            have r195 : (aU Z182 72 (4 * Z 62 15) x182) 62 15 = Z 62 15 := by rw [aU_ne (by decide), g182.2.2 15 (by decide) (by decide)]; exact r178
            rw [r195]
            have m202 : (aU Z182 72 (4 * Z 62 15) x182) 62 17 = Z 62 17 := by rw [aU_ne (by decide), g182.2.2 17 (by decide) (by decide), m182]
            have i202 : 0 ≤ (aU Z182 72 (4 * Z 62 15) x182) 62 18 ∧ (aU Z182 72 (4 * Z 62 15) x182) 62 18 ≤ 54 := by rw [aU_ne (by decide)]; omega
            refine a_imul hX dX10_readPart_195 (pc' := 196) rfl ?_
            refine a_iconst hX dX10_readPart_196 (pc' := 197) rfl ?_
            refine a_iadd hX dX10_readPart_197 (pc' := 198) rfl ?_
            refine a_aload_n hX rfl rfl dX10_readPart_198 (pc' := 199) rfl ?_
            refine a_iconst hX dX10_readPart_199 (pc' := 200) rfl ?_
            refine a_bipush hX rfl dX10_readPart_200 (pc' := 202) rfl ?_
            refine a_cV2I hX cv_X10_94 (q_figureOf (by omega) (by omega) hB (by omega) (by omega)) rfl (by decide) ⟨by decide, by decide⟩ (Nat.le_of_ble_eq_true rfl) dX10_readPart_202 (pc' := 205) rfl (fun x202 Z202 Y202 h202 => ?_)
            obtain ⟨g202, hB, rfl⟩ := h202
            have g202 := fgR_of g202
            have hx202 := fgS_hi g202.1 (by decide)
            have hi202 := fgS_i g202.1
            refine a_iastB hX rfl (by decide) (by decide) (by omega) hB (by omega) dX10_readPart_205 (pc' := 206) rfl (fun hB => ?_)
            refine a_aload_n hX rfl rfl dX10_readPart_206 (pc' := 207) rfl ?_
            refine a_getfR hX (r := 72) fl_X10_37 rfl (by decide) rfl dX10_readPart_207 (pc' := 210) rfl ?_
            refine a_iconst hX dX10_readPart_210 (pc' := 211) rfl ?_
            refine a_aload_n hX rfl rfl dX10_readPart_211 (pc' := 212) rfl ?_
            refine a_getfI hX (ji := 15) rfl hB fl_X10_87 rfl (by decide) rfl dX10_readPart_212 (pc' := 215) rfl (fun hb => ?_)
            have r215 : (aU Z202 72 (4 * Z 62 15 + 1) x202) 62 15 = Z 62 15 := by rw [aU_ne (by decide), g202.2.2 15 (by decide) (by decide)]; exact r195
            rw [r215]
            have m222 : (aU Z202 72 (4 * Z 62 15 + 1) x202) 62 17 = Z 62 17 := by rw [aU_ne (by decide), g202.2.2 17 (by decide) (by decide), m202]
            have i222 : 0 ≤ (aU Z202 72 (4 * Z 62 15 + 1) x202) 62 18 ∧ (aU Z202 72 (4 * Z 62 15 + 1) x202) 62 18 ≤ 55 := by rw [aU_ne (by decide)]; omega
            refine a_imul hX dX10_readPart_215 (pc' := 216) rfl ?_
            refine a_iconst hX dX10_readPart_216 (pc' := 217) rfl ?_
            refine a_iadd hX dX10_readPart_217 (pc' := 218) rfl ?_
            refine a_aload_n hX rfl rfl dX10_readPart_218 (pc' := 219) rfl ?_
            refine a_iconst hX dX10_readPart_219 (pc' := 220) rfl ?_
            refine a_bipush hX rfl dX10_readPart_220 (pc' := 222) rfl ?_
            refine a_cV2I hX cv_X10_94 (q_figureOf (by omega) (by omega) hB (by omega) (by omega)) rfl (by decide) ⟨by decide, by decide⟩ (Nat.le_of_ble_eq_true rfl) dX10_readPart_222 (pc' := 225) rfl (fun x222 Z222 Y222 h222 => ?_)
            obtain ⟨g222, hB, rfl⟩ := h222
            have g222 := fgR_of g222
            have hx222 := fgS_hi g222.1 (by decide)
            have hi222 := fgS_i g222.1
            refine a_iastB hX rfl (by decide) (by decide) (by omega) hB (by omega) dX10_readPart_225 (pc' := 226) rfl (fun hB => ?_)
            refine a_aload_n hX rfl rfl dX10_readPart_226 (pc' := 227) rfl ?_
            refine a_getfR hX (r := 72) fl_X10_37 rfl (by decide) rfl dX10_readPart_227 (pc' := 230) rfl ?_
            refine a_iconst hX dX10_readPart_230 (pc' := 231) rfl ?_
            refine a_aload_n hX rfl rfl dX10_readPart_231 (pc' := 232) rfl ?_
            refine a_getfI hX (ji := 15) rfl hB fl_X10_87 rfl (by decide) rfl dX10_readPart_232 (pc' := 235) rfl (fun hb => ?_)
            have r235 : (aU Z222 72 (4 * Z 62 15 + 2) x222) 62 15 = Z 62 15 := by rw [aU_ne (by decide), g222.2.2 15 (by decide) (by decide)]; exact r215
            rw [r235]
            have m241 : (aU Z222 72 (4 * Z 62 15 + 2) x222) 62 17 = Z 62 17 := by rw [aU_ne (by decide), g222.2.2 17 (by decide) (by decide), m222]
            have i241 : 0 ≤ (aU Z222 72 (4 * Z 62 15 + 2) x222) 62 18 ∧ (aU Z222 72 (4 * Z 62 15 + 2) x222) 62 18 ≤ 56 := by rw [aU_ne (by decide)]; omega
            refine a_imul hX dX10_readPart_235 (pc' := 236) rfl ?_
            refine a_iconst hX dX10_readPart_236 (pc' := 237) rfl ?_
            refine a_iadd hX dX10_readPart_237 (pc' := 238) rfl ?_
            refine a_aload_n hX rfl rfl dX10_readPart_238 (pc' := 239) rfl ?_
            refine a_iconst hX dX10_readPart_239 (pc' := 240) rfl ?_
            refine a_iconst hX dX10_readPart_240 (pc' := 241) rfl ?_
            refine a_cV2I hX cv_X10_94 (q_figureOf (by omega) (by omega) hB (by omega) (by omega)) rfl (by decide) ⟨by decide, by decide⟩ (Nat.le_of_ble_eq_true rfl) dX10_readPart_241 (pc' := 244) rfl (fun x241 Z241 Y241 h241 => ?_)
            obtain ⟨g241, hB, rfl⟩ := h241
            have g241 := fgR_of g241
            have hx241 := fgS_hi g241.1 (by decide)
            have hi241 := fgS_i g241.1
            refine a_iastB hX rfl (by decide) (by decide) (by omega) hB (by omega) dX10_readPart_244 (pc' := 245) rfl (fun hB => ?_)
            refine a_aload_n hX rfl rfl dX10_readPart_245 (pc' := 246) rfl ?_
            refine a_dup hX rfl dX10_readPart_246 (pc' := 247) rfl ?_
            refine a_getfI hX (ji := 15) rfl hB fl_X10_87 rfl (by decide) rfl dX10_readPart_247 (pc' := 250) rfl (fun hb => ?_)
            have r250 : (aU Z241 72 (4 * Z 62 15 + 3) x241) 62 15 = Z 62 15 := by rw [aU_ne (by decide), g241.2.2 15 (by decide) (by decide)]; exact r235
            rw [r250]
            refine a_iconst hX dX10_readPart_250 (pc' := 251) rfl ?_
            refine a_iadd hX dX10_readPart_251 (pc' := 252) rfl ?_
            refine a_putfIB hX fl_X10_87 nf_9_15 (ji := 15) rfl rfl (by decide) rfl hB (by omega) dX10_readPart_252 (pc' := 255) rfl (fun hB => ?_)
            refine a_goto hX dX10_readPart_255 (tgt := 266) (by decide) ?_
            refine a_vret hX dX10_readPart_266 (hE _ _ _ ?_)
            refine ⟨rfl, ?_, hB, rfl⟩
            first
              | exact rdW (by omega) (by omega) hC hV hi hn rfl h9 g35
              | exact rdC (by omega) (by omega) hC hV hi hn rfl h9 g89 g109 g128
              | exact rdS (by omega) (by omega) hC hV hi hn rfl h9 g182 g202 g222 g241
              | exact rdX hC hV hi hn (fun q => by omega) (fun q => by omega) (fun q => by omega)
      · refine a_aload_n hX rfl rfl dX10_readPart_66 (pc' := 67) rfl ?_
        refine a_dup hX rfl dX10_readPart_67 (pc' := 68) rfl ?_
        refine a_getfI hX (ji := 18) rfl hB fl_X10_78 rfl (by decide) rfl dX10_readPart_68 (pc' := 71) rfl (fun hb => ?_)
        refine a_iconst hX dX10_readPart_71 (pc' := 72) rfl ?_
        refine a_iadd hX dX10_readPart_72 (pc' := 73) rfl ?_
        refine a_putfIB hX fl_X10_78 nf_9_18 (ji := 18) rfl rfl (by decide) rfl hB (by omega) dX10_readPart_73 (pc' := 76) rfl (fun hB => ?_)
        refine a_aload_n hX rfl rfl dX10_readPart_76 (pc' := 77) rfl ?_
        refine a_getfR hX (r := 71) fl_X10_34 rfl (by decide) rfl dX10_readPart_77 (pc' := 80) rfl ?_
        refine a_iconst hX dX10_readPart_80 (pc' := 81) rfl ?_
        refine a_aload_n hX rfl rfl dX10_readPart_81 (pc' := 82) rfl ?_
        refine a_getfI hX (ji := 14) rfl hB fl_X10_84 rfl (by decide) rfl dX10_readPart_82 (pc' := 85) rfl (fun hb => ?_)
        have r85 : (aU Z 62 18 (Z 62 18 + 1)) 62 14 = Z 62 14 := aU_nj (by decide)
        rw [r85]
        have m89 : (aU Z 62 18 (Z 62 18 + 1)) 62 17 = Z 62 17 := aU_nj (by decide)
        have i89 : 0 ≤ (aU Z 62 18 (Z 62 18 + 1)) 62 18 ∧ (aU Z 62 18 (Z 62 18 + 1)) 62 18 ≤ 53 := by rw [aU_eq]; omega
        refine a_imul hX dX10_readPart_85 (pc' := 86) rfl ?_
        refine a_aload_n hX rfl rfl dX10_readPart_86 (pc' := 87) rfl ?_
        refine a_iconst hX dX10_readPart_87 (pc' := 88) rfl ?_
        refine a_iconst hX dX10_readPart_88 (pc' := 89) rfl ?_
        refine a_cV2I hX cv_X10_94 (q_figureOf (by omega) (by omega) hB (by omega) (by omega)) rfl (by decide) ⟨by decide, by decide⟩ (Nat.le_of_ble_eq_true rfl) dX10_readPart_89 (pc' := 92) rfl (fun x89 Z89 Y89 h89 => ?_)
        obtain ⟨g89, hB, rfl⟩ := h89
        have g89 := fgR_of g89
        have hx89 := fgS_hi g89.1 (by decide)
        have hi89 := fgS_i g89.1
        refine a_iastB hX rfl (by decide) (by decide) (by omega) hB (by omega) dX10_readPart_92 (pc' := 93) rfl (fun hB => ?_)
        refine a_aload_n hX rfl rfl dX10_readPart_93 (pc' := 94) rfl ?_
        refine a_getfR hX (r := 71) fl_X10_34 rfl (by decide) rfl dX10_readPart_94 (pc' := 97) rfl ?_
        refine a_iconst hX dX10_readPart_97 (pc' := 98) rfl ?_
        refine a_aload_n hX rfl rfl dX10_readPart_98 (pc' := 99) rfl ?_
        refine a_getfI hX (ji := 14) rfl hB fl_X10_84 rfl (by decide) rfl dX10_readPart_99 (pc' := 102) rfl (fun hb => ?_)
        have r102 : (aU Z89 71 (3 * Z 62 14) x89) 62 14 = Z 62 14 := by rw [aU_ne (by decide), g89.2.2 14 (by decide) (by decide)]; exact r85
        rw [r102]
        have m109 : (aU Z89 71 (3 * Z 62 14) x89) 62 17 = Z 62 17 := by rw [aU_ne (by decide), g89.2.2 17 (by decide) (by decide), m89]
        have i109 : 0 ≤ (aU Z89 71 (3 * Z 62 14) x89) 62 18 ∧ (aU Z89 71 (3 * Z 62 14) x89) 62 18 ≤ 54 := by rw [aU_ne (by decide)]; omega
        refine a_imul hX dX10_readPart_102 (pc' := 103) rfl ?_
        refine a_iconst hX dX10_readPart_103 (pc' := 104) rfl ?_
        refine a_iadd hX dX10_readPart_104 (pc' := 105) rfl ?_
        refine a_aload_n hX rfl rfl dX10_readPart_105 (pc' := 106) rfl ?_
        refine a_iconst hX dX10_readPart_106 (pc' := 107) rfl ?_
        refine a_bipush hX rfl dX10_readPart_107 (pc' := 109) rfl ?_
        refine a_cV2I hX cv_X10_94 (q_figureOf (by omega) (by omega) hB (by omega) (by omega)) rfl (by decide) ⟨by decide, by decide⟩ (Nat.le_of_ble_eq_true rfl) dX10_readPart_109 (pc' := 112) rfl (fun x109 Z109 Y109 h109 => ?_)
        obtain ⟨g109, hB, rfl⟩ := h109
        have g109 := fgR_of g109
        have hx109 := fgS_hi g109.1 (by decide)
        have hi109 := fgS_i g109.1
        refine a_iastB hX rfl (by decide) (by decide) (by omega) hB (by omega) dX10_readPart_112 (pc' := 113) rfl (fun hB => ?_)
        refine a_aload_n hX rfl rfl dX10_readPart_113 (pc' := 114) rfl ?_
        refine a_getfR hX (r := 71) fl_X10_34 rfl (by decide) rfl dX10_readPart_114 (pc' := 117) rfl ?_
        refine a_iconst hX dX10_readPart_117 (pc' := 118) rfl ?_
        refine a_aload_n hX rfl rfl dX10_readPart_118 (pc' := 119) rfl ?_
        refine a_getfI hX (ji := 14) rfl hB fl_X10_84 rfl (by decide) rfl dX10_readPart_119 (pc' := 122) rfl (fun hb => ?_)
        have r122 : (aU Z109 71 (3 * Z 62 14 + 1) x109) 62 14 = Z 62 14 := by rw [aU_ne (by decide), g109.2.2 14 (by decide) (by decide)]; exact r102
        rw [r122]
        have m128 : (aU Z109 71 (3 * Z 62 14 + 1) x109) 62 17 = Z 62 17 := by rw [aU_ne (by decide), g109.2.2 17 (by decide) (by decide), m109]
        have i128 : 0 ≤ (aU Z109 71 (3 * Z 62 14 + 1) x109) 62 18 ∧ (aU Z109 71 (3 * Z 62 14 + 1) x109) 62 18 ≤ 55 := by rw [aU_ne (by decide)]; omega
        refine a_imul hX dX10_readPart_122 (pc' := 123) rfl ?_
        refine a_iconst hX dX10_readPart_123 (pc' := 124) rfl ?_
        refine a_iadd hX dX10_readPart_124 (pc' := 125) rfl ?_
        refine a_aload_n hX rfl rfl dX10_readPart_125 (pc' := 126) rfl ?_
        refine a_iconst hX dX10_readPart_126 (pc' := 127) rfl ?_
        refine a_iconst hX dX10_readPart_127 (pc' := 128) rfl ?_
        refine a_cV2I hX cv_X10_94 (q_figureOf (by omega) (by omega) hB (by omega) (by omega)) rfl (by decide) ⟨by decide, by decide⟩ (Nat.le_of_ble_eq_true rfl) dX10_readPart_128 (pc' := 131) rfl (fun x128 Z128 Y128 h128 => ?_)
        obtain ⟨g128, hB, rfl⟩ := h128
        have g128 := fgR_of g128
        have hx128 := fgS_hi g128.1 (by decide)
        have hi128 := fgS_i g128.1
        refine a_iastB hX rfl (by decide) (by decide) (by omega) hB (by omega) dX10_readPart_131 (pc' := 132) rfl (fun hB => ?_)
        refine a_aload_n hX rfl rfl dX10_readPart_132 (pc' := 133) rfl ?_
        refine a_dup hX rfl dX10_readPart_133 (pc' := 134) rfl ?_
        refine a_getfI hX (ji := 14) rfl hB fl_X10_84 rfl (by decide) rfl dX10_readPart_134 (pc' := 137) rfl (fun hb => ?_)
        have r137 : (aU Z128 71 (3 * Z 62 14 + 2) x128) 62 14 = Z 62 14 := by rw [aU_ne (by decide), g128.2.2 14 (by decide) (by decide)]; exact r122
        rw [r137]
        refine a_iconst hX dX10_readPart_137 (pc' := 138) rfl ?_
        refine a_iadd hX dX10_readPart_138 (pc' := 139) rfl ?_
        refine a_putfIB hX fl_X10_84 nf_9_14 (ji := 14) rfl rfl (by decide) rfl hB (by omega) dX10_readPart_139 (pc' := 142) rfl (fun hB => ?_)
        refine a_goto hX dX10_readPart_142 (tgt := 266) (by decide) ?_
        refine a_vret hX dX10_readPart_266 (hE _ _ _ ?_)
        refine ⟨rfl, ?_, hB, rfl⟩
        first
          | exact rdW (by omega) (by omega) hC hV hi hn rfl h9 g35
          | exact rdC (by omega) (by omega) hC hV hi hn rfl h9 g89 g109 g128
          | exact rdS (by omega) (by omega) hC hV hi hn rfl h9 g182 g202 g222 g241
          | exact rdX hC hV hi hn (fun q => by omega) (fun q => by omega) (fun q => by omega)
  · refine a_aload_n hX rfl rfl dX10_readPart_6 (pc' := 7) rfl ?_
    refine a_getfI hX (ji := 13) rfl hB fl_X10_81 rfl (by decide) rfl dX10_readPart_7 (pc' := 10) rfl (fun hb => ?_)
    refine a_iconst hX dX10_readPart_10 (pc' := 11) rfl ?_
    refine a_icmp_ge hX (by omega) (by omega) dX10_readPart_11 (pc' := 14) rfl (tgt := 52) (by decide) (fun c11 => ?_) (fun c11 => ?_)
    · refine a_iload_n hX rfl rfl dX10_readPart_52 (pc' := 53) rfl ?_
      refine a_bipush hX rfl dX10_readPart_53 (pc' := 55) rfl ?_
      refine a_icmp_ne hX (by omega) (by omega) dX10_readPart_55 (pc' := 58) rfl (tgt := 145) (by decide) (fun c55 => ?_) (fun c55 => ?_)
      · refine a_iload_n hX rfl rfl dX10_readPart_145 (pc' := 146) rfl ?_
        refine a_bipush hX rfl dX10_readPart_146 (pc' := 148) rfl ?_
        refine a_icmp_ne hX (by omega) (by omega) dX10_readPart_148 (pc' := 151) rfl (tgt := 258) (by decide) (fun c148 => ?_) (fun c148 => ?_)
        · refine a_aload_n hX rfl rfl dX10_readPart_258 (pc' := 259) rfl ?_
          refine a_aload_n hX rfl rfl dX10_readPart_259 (pc' := 260) rfl ?_
          refine a_getfI hX (ji := 18) rfl hB fl_X10_78 rfl (by decide) rfl dX10_readPart_260 (pc' := 263) rfl (fun hb => ?_)
          refine a_putfIB hX fl_X10_75 nf_9_19 (ji := 19) rfl rfl (by decide) rfl hB (by omega) dX10_readPart_263 (pc' := 266) rfl (fun hB => ?_)
          refine a_vret hX dX10_readPart_266 (hE _ _ _ ?_)
          refine ⟨rfl, ?_, hB, rfl⟩
          first
            | exact rdW (by omega) (by omega) hC hV hi hn rfl h9 g35
            | exact rdC (by omega) (by omega) hC hV hi hn rfl h9 g89 g109 g128
            | exact rdS (by omega) (by omega) hC hV hi hn rfl h9 g182 g202 g222 g241
            | exact rdX hC hV hi hn (fun q => by omega) (fun q => by omega) (fun q => by omega)
        · refine a_aload_n hX rfl rfl dX10_readPart_151 (pc' := 152) rfl ?_
          refine a_getfI hX (ji := 15) rfl hB fl_X10_87 rfl (by decide) rfl dX10_readPart_152 (pc' := 155) rfl (fun hb => ?_)
          refine a_iconst hX dX10_readPart_155 (pc' := 156) rfl ?_
          refine a_icmp_ge hX (by omega) (by omega) dX10_readPart_156 (pc' := 159) rfl (tgt := 258) (by decide) (fun c156 => ?_) (fun c156 => ?_)
          · refine a_aload_n hX rfl rfl dX10_readPart_258 (pc' := 259) rfl ?_
            refine a_aload_n hX rfl rfl dX10_readPart_259 (pc' := 260) rfl ?_
            refine a_getfI hX (ji := 18) rfl hB fl_X10_78 rfl (by decide) rfl dX10_readPart_260 (pc' := 263) rfl (fun hb => ?_)
            refine a_putfIB hX fl_X10_75 nf_9_19 (ji := 19) rfl rfl (by decide) rfl hB (by omega) dX10_readPart_263 (pc' := 266) rfl (fun hB => ?_)
            refine a_vret hX dX10_readPart_266 (hE _ _ _ ?_)
            refine ⟨rfl, ?_, hB, rfl⟩
            first
              | exact rdW (by omega) (by omega) hC hV hi hn rfl h9 g35
              | exact rdC (by omega) (by omega) hC hV hi hn rfl h9 g89 g109 g128
              | exact rdS (by omega) (by omega) hC hV hi hn rfl h9 g182 g202 g222 g241
              | exact rdX hC hV hi hn (fun q => by omega) (fun q => by omega) (fun q => by omega)
          · refine a_aload_n hX rfl rfl dX10_readPart_159 (pc' := 160) rfl ?_
            refine a_dup hX rfl dX10_readPart_160 (pc' := 161) rfl ?_
            refine a_getfI hX (ji := 18) rfl hB fl_X10_78 rfl (by decide) rfl dX10_readPart_161 (pc' := 164) rfl (fun hb => ?_)
            refine a_iconst hX dX10_readPart_164 (pc' := 165) rfl ?_
            refine a_iadd hX dX10_readPart_165 (pc' := 166) rfl ?_
            refine a_putfIB hX fl_X10_78 nf_9_18 (ji := 18) rfl rfl (by decide) rfl hB (by omega) dX10_readPart_166 (pc' := 169) rfl (fun hB => ?_)
            refine a_aload_n hX rfl rfl dX10_readPart_169 (pc' := 170) rfl ?_
            refine a_getfR hX (r := 72) fl_X10_37 rfl (by decide) rfl dX10_readPart_170 (pc' := 173) rfl ?_
            refine a_iconst hX dX10_readPart_173 (pc' := 174) rfl ?_
            refine a_aload_n hX rfl rfl dX10_readPart_174 (pc' := 175) rfl ?_
            refine a_getfI hX (ji := 15) rfl hB fl_X10_87 rfl (by decide) rfl dX10_readPart_175 (pc' := 178) rfl (fun hb => ?_)
            have r178 : (aU Z 62 18 (Z 62 18 + 1)) 62 15 = Z 62 15 := aU_nj (by decide)
            rw [r178]
            have m182 : (aU Z 62 18 (Z 62 18 + 1)) 62 17 = Z 62 17 := aU_nj (by decide)
            have i182 : 0 ≤ (aU Z 62 18 (Z 62 18 + 1)) 62 18 ∧ (aU Z 62 18 (Z 62 18 + 1)) 62 18 ≤ 53 := by rw [aU_eq]; omega
            refine a_imul hX dX10_readPart_178 (pc' := 179) rfl ?_
            refine a_aload_n hX rfl rfl dX10_readPart_179 (pc' := 180) rfl ?_
            refine a_iconst hX dX10_readPart_180 (pc' := 181) rfl ?_
            refine a_iconst hX dX10_readPart_181 (pc' := 182) rfl ?_
            refine a_cV2I hX cv_X10_94 (q_figureOf (by omega) (by omega) hB (by omega) (by omega)) rfl (by decide) ⟨by decide, by decide⟩ (Nat.le_of_ble_eq_true rfl) dX10_readPart_182 (pc' := 185) rfl (fun x182 Z182 Y182 h182 => ?_)
            obtain ⟨g182, hB, rfl⟩ := h182
            have g182 := fgR_of g182
            have hx182 := fgS_hi g182.1 (by decide)
            have hi182 := fgS_i g182.1
            refine a_iastB hX rfl (by decide) (by decide) (by omega) hB (by omega) dX10_readPart_185 (pc' := 186) rfl (fun hB => ?_)
            refine a_aload_n hX rfl rfl dX10_readPart_186 (pc' := 187) rfl ?_
            refine a_getfR hX (r := 72) fl_X10_37 rfl (by decide) rfl dX10_readPart_187 (pc' := 190) rfl ?_
            refine a_iconst hX dX10_readPart_190 (pc' := 191) rfl ?_
            refine a_aload_n hX rfl rfl dX10_readPart_191 (pc' := 192) rfl ?_
            refine a_getfI hX (ji := 15) rfl hB fl_X10_87 rfl (by decide) rfl dX10_readPart_192 (pc' := 195) rfl (fun hb => ?_)
            have r195 : (aU Z182 72 (4 * Z 62 15) x182) 62 15 = Z 62 15 := by rw [aU_ne (by decide), g182.2.2 15 (by decide) (by decide)]; exact r178
            rw [r195]
            have m202 : (aU Z182 72 (4 * Z 62 15) x182) 62 17 = Z 62 17 := by rw [aU_ne (by decide), g182.2.2 17 (by decide) (by decide), m182]
            have i202 : 0 ≤ (aU Z182 72 (4 * Z 62 15) x182) 62 18 ∧ (aU Z182 72 (4 * Z 62 15) x182) 62 18 ≤ 54 := by rw [aU_ne (by decide)]; omega
            refine a_imul hX dX10_readPart_195 (pc' := 196) rfl ?_
            refine a_iconst hX dX10_readPart_196 (pc' := 197) rfl ?_
            refine a_iadd hX dX10_readPart_197 (pc' := 198) rfl ?_
            refine a_aload_n hX rfl rfl dX10_readPart_198 (pc' := 199) rfl ?_
            refine a_iconst hX dX10_readPart_199 (pc' := 200) rfl ?_
            refine a_bipush hX rfl dX10_readPart_200 (pc' := 202) rfl ?_
            refine a_cV2I hX cv_X10_94 (q_figureOf (by omega) (by omega) hB (by omega) (by omega)) rfl (by decide) ⟨by decide, by decide⟩ (Nat.le_of_ble_eq_true rfl) dX10_readPart_202 (pc' := 205) rfl (fun x202 Z202 Y202 h202 => ?_)
            obtain ⟨g202, hB, rfl⟩ := h202
            have g202 := fgR_of g202
            have hx202 := fgS_hi g202.1 (by decide)
            have hi202 := fgS_i g202.1
            refine a_iastB hX rfl (by decide) (by decide) (by omega) hB (by omega) dX10_readPart_205 (pc' := 206) rfl (fun hB => ?_)
            refine a_aload_n hX rfl rfl dX10_readPart_206 (pc' := 207) rfl ?_
            refine a_getfR hX (r := 72) fl_X10_37 rfl (by decide) rfl dX10_readPart_207 (pc' := 210) rfl ?_
            refine a_iconst hX dX10_readPart_210 (pc' := 211) rfl ?_
            refine a_aload_n hX rfl rfl dX10_readPart_211 (pc' := 212) rfl ?_
            refine a_getfI hX (ji := 15) rfl hB fl_X10_87 rfl (by decide) rfl dX10_readPart_212 (pc' := 215) rfl (fun hb => ?_)
            have r215 : (aU Z202 72 (4 * Z 62 15 + 1) x202) 62 15 = Z 62 15 := by rw [aU_ne (by decide), g202.2.2 15 (by decide) (by decide)]; exact r195
            rw [r215]
            have m222 : (aU Z202 72 (4 * Z 62 15 + 1) x202) 62 17 = Z 62 17 := by rw [aU_ne (by decide), g202.2.2 17 (by decide) (by decide), m202]
            have i222 : 0 ≤ (aU Z202 72 (4 * Z 62 15 + 1) x202) 62 18 ∧ (aU Z202 72 (4 * Z 62 15 + 1) x202) 62 18 ≤ 55 := by rw [aU_ne (by decide)]; omega
            refine a_imul hX dX10_readPart_215 (pc' := 216) rfl ?_
            refine a_iconst hX dX10_readPart_216 (pc' := 217) rfl ?_
            refine a_iadd hX dX10_readPart_217 (pc' := 218) rfl ?_
            refine a_aload_n hX rfl rfl dX10_readPart_218 (pc' := 219) rfl ?_
            refine a_iconst hX dX10_readPart_219 (pc' := 220) rfl ?_
            refine a_bipush hX rfl dX10_readPart_220 (pc' := 222) rfl ?_
            refine a_cV2I hX cv_X10_94 (q_figureOf (by omega) (by omega) hB (by omega) (by omega)) rfl (by decide) ⟨by decide, by decide⟩ (Nat.le_of_ble_eq_true rfl) dX10_readPart_222 (pc' := 225) rfl (fun x222 Z222 Y222 h222 => ?_)
            obtain ⟨g222, hB, rfl⟩ := h222
            have g222 := fgR_of g222
            have hx222 := fgS_hi g222.1 (by decide)
            have hi222 := fgS_i g222.1
            refine a_iastB hX rfl (by decide) (by decide) (by omega) hB (by omega) dX10_readPart_225 (pc' := 226) rfl (fun hB => ?_)
            refine a_aload_n hX rfl rfl dX10_readPart_226 (pc' := 227) rfl ?_
            refine a_getfR hX (r := 72) fl_X10_37 rfl (by decide) rfl dX10_readPart_227 (pc' := 230) rfl ?_
            refine a_iconst hX dX10_readPart_230 (pc' := 231) rfl ?_
            refine a_aload_n hX rfl rfl dX10_readPart_231 (pc' := 232) rfl ?_
            refine a_getfI hX (ji := 15) rfl hB fl_X10_87 rfl (by decide) rfl dX10_readPart_232 (pc' := 235) rfl (fun hb => ?_)
            have r235 : (aU Z222 72 (4 * Z 62 15 + 2) x222) 62 15 = Z 62 15 := by rw [aU_ne (by decide), g222.2.2 15 (by decide) (by decide)]; exact r215
            rw [r235]
            have m241 : (aU Z222 72 (4 * Z 62 15 + 2) x222) 62 17 = Z 62 17 := by rw [aU_ne (by decide), g222.2.2 17 (by decide) (by decide), m222]
            have i241 : 0 ≤ (aU Z222 72 (4 * Z 62 15 + 2) x222) 62 18 ∧ (aU Z222 72 (4 * Z 62 15 + 2) x222) 62 18 ≤ 56 := by rw [aU_ne (by decide)]; omega
            refine a_imul hX dX10_readPart_235 (pc' := 236) rfl ?_
            refine a_iconst hX dX10_readPart_236 (pc' := 237) rfl ?_
            refine a_iadd hX dX10_readPart_237 (pc' := 238) rfl ?_
            refine a_aload_n hX rfl rfl dX10_readPart_238 (pc' := 239) rfl ?_
            refine a_iconst hX dX10_readPart_239 (pc' := 240) rfl ?_
            refine a_iconst hX dX10_readPart_240 (pc' := 241) rfl ?_
            refine a_cV2I hX cv_X10_94 (q_figureOf (by omega) (by omega) hB (by omega) (by omega)) rfl (by decide) ⟨by decide, by decide⟩ (Nat.le_of_ble_eq_true rfl) dX10_readPart_241 (pc' := 244) rfl (fun x241 Z241 Y241 h241 => ?_)
            obtain ⟨g241, hB, rfl⟩ := h241
            have g241 := fgR_of g241
            have hx241 := fgS_hi g241.1 (by decide)
            have hi241 := fgS_i g241.1
            refine a_iastB hX rfl (by decide) (by decide) (by omega) hB (by omega) dX10_readPart_244 (pc' := 245) rfl (fun hB => ?_)
            refine a_aload_n hX rfl rfl dX10_readPart_245 (pc' := 246) rfl ?_
            refine a_dup hX rfl dX10_readPart_246 (pc' := 247) rfl ?_
            refine a_getfI hX (ji := 15) rfl hB fl_X10_87 rfl (by decide) rfl dX10_readPart_247 (pc' := 250) rfl (fun hb => ?_)
            have r250 : (aU Z241 72 (4 * Z 62 15 + 3) x241) 62 15 = Z 62 15 := by rw [aU_ne (by decide), g241.2.2 15 (by decide) (by decide)]; exact r235
            rw [r250]
            refine a_iconst hX dX10_readPart_250 (pc' := 251) rfl ?_
            refine a_iadd hX dX10_readPart_251 (pc' := 252) rfl ?_
            refine a_putfIB hX fl_X10_87 nf_9_15 (ji := 15) rfl rfl (by decide) rfl hB (by omega) dX10_readPart_252 (pc' := 255) rfl (fun hB => ?_)
            refine a_goto hX dX10_readPart_255 (tgt := 266) (by decide) ?_
            refine a_vret hX dX10_readPart_266 (hE _ _ _ ?_)
            refine ⟨rfl, ?_, hB, rfl⟩
            first
              | exact rdW (by omega) (by omega) hC hV hi hn rfl h9 g35
              | exact rdC (by omega) (by omega) hC hV hi hn rfl h9 g89 g109 g128
              | exact rdS (by omega) (by omega) hC hV hi hn rfl h9 g182 g202 g222 g241
              | exact rdX hC hV hi hn (fun q => by omega) (fun q => by omega) (fun q => by omega)
      · refine a_aload_n hX rfl rfl dX10_readPart_58 (pc' := 59) rfl ?_
        refine a_getfI hX (ji := 14) rfl hB fl_X10_84 rfl (by decide) rfl dX10_readPart_59 (pc' := 62) rfl (fun hb => ?_)
        refine a_iconst hX dX10_readPart_62 (pc' := 63) rfl ?_
        refine a_icmp_ge hX (by omega) (by omega) dX10_readPart_63 (pc' := 66) rfl (tgt := 145) (by decide) (fun c63 => ?_) (fun c63 => ?_)
        · refine a_iload_n hX rfl rfl dX10_readPart_145 (pc' := 146) rfl ?_
          refine a_bipush hX rfl dX10_readPart_146 (pc' := 148) rfl ?_
          refine a_icmp_ne hX (by omega) (by omega) dX10_readPart_148 (pc' := 151) rfl (tgt := 258) (by decide) (fun c148 => ?_) (fun c148 => ?_)
          · refine a_aload_n hX rfl rfl dX10_readPart_258 (pc' := 259) rfl ?_
            refine a_aload_n hX rfl rfl dX10_readPart_259 (pc' := 260) rfl ?_
            refine a_getfI hX (ji := 18) rfl hB fl_X10_78 rfl (by decide) rfl dX10_readPart_260 (pc' := 263) rfl (fun hb => ?_)
            refine a_putfIB hX fl_X10_75 nf_9_19 (ji := 19) rfl rfl (by decide) rfl hB (by omega) dX10_readPart_263 (pc' := 266) rfl (fun hB => ?_)
            refine a_vret hX dX10_readPart_266 (hE _ _ _ ?_)
            refine ⟨rfl, ?_, hB, rfl⟩
            first
              | exact rdW (by omega) (by omega) hC hV hi hn rfl h9 g35
              | exact rdC (by omega) (by omega) hC hV hi hn rfl h9 g89 g109 g128
              | exact rdS (by omega) (by omega) hC hV hi hn rfl h9 g182 g202 g222 g241
              | exact rdX hC hV hi hn (fun q => by omega) (fun q => by omega) (fun q => by omega)
          · refine a_aload_n hX rfl rfl dX10_readPart_151 (pc' := 152) rfl ?_
            refine a_getfI hX (ji := 15) rfl hB fl_X10_87 rfl (by decide) rfl dX10_readPart_152 (pc' := 155) rfl (fun hb => ?_)
            refine a_iconst hX dX10_readPart_155 (pc' := 156) rfl ?_
            refine a_icmp_ge hX (by omega) (by omega) dX10_readPart_156 (pc' := 159) rfl (tgt := 258) (by decide) (fun c156 => ?_) (fun c156 => ?_)
            · refine a_aload_n hX rfl rfl dX10_readPart_258 (pc' := 259) rfl ?_
              refine a_aload_n hX rfl rfl dX10_readPart_259 (pc' := 260) rfl ?_
              refine a_getfI hX (ji := 18) rfl hB fl_X10_78 rfl (by decide) rfl dX10_readPart_260 (pc' := 263) rfl (fun hb => ?_)
              refine a_putfIB hX fl_X10_75 nf_9_19 (ji := 19) rfl rfl (by decide) rfl hB (by omega) dX10_readPart_263 (pc' := 266) rfl (fun hB => ?_)
              refine a_vret hX dX10_readPart_266 (hE _ _ _ ?_)
              refine ⟨rfl, ?_, hB, rfl⟩
              first
                | exact rdW (by omega) (by omega) hC hV hi hn rfl h9 g35
                | exact rdC (by omega) (by omega) hC hV hi hn rfl h9 g89 g109 g128
                | exact rdS (by omega) (by omega) hC hV hi hn rfl h9 g182 g202 g222 g241
                | exact rdX hC hV hi hn (fun q => by omega) (fun q => by omega) (fun q => by omega)
            · refine a_aload_n hX rfl rfl dX10_readPart_159 (pc' := 160) rfl ?_
              refine a_dup hX rfl dX10_readPart_160 (pc' := 161) rfl ?_
              refine a_getfI hX (ji := 18) rfl hB fl_X10_78 rfl (by decide) rfl dX10_readPart_161 (pc' := 164) rfl (fun hb => ?_)
              refine a_iconst hX dX10_readPart_164 (pc' := 165) rfl ?_
              refine a_iadd hX dX10_readPart_165 (pc' := 166) rfl ?_
              refine a_putfIB hX fl_X10_78 nf_9_18 (ji := 18) rfl rfl (by decide) rfl hB (by omega) dX10_readPart_166 (pc' := 169) rfl (fun hB => ?_)
              refine a_aload_n hX rfl rfl dX10_readPart_169 (pc' := 170) rfl ?_
              refine a_getfR hX (r := 72) fl_X10_37 rfl (by decide) rfl dX10_readPart_170 (pc' := 173) rfl ?_
              refine a_iconst hX dX10_readPart_173 (pc' := 174) rfl ?_
              refine a_aload_n hX rfl rfl dX10_readPart_174 (pc' := 175) rfl ?_
              refine a_getfI hX (ji := 15) rfl hB fl_X10_87 rfl (by decide) rfl dX10_readPart_175 (pc' := 178) rfl (fun hb => ?_)
              have r178 : (aU Z 62 18 (Z 62 18 + 1)) 62 15 = Z 62 15 := aU_nj (by decide)
              rw [r178]
              have m182 : (aU Z 62 18 (Z 62 18 + 1)) 62 17 = Z 62 17 := aU_nj (by decide)
              have i182 : 0 ≤ (aU Z 62 18 (Z 62 18 + 1)) 62 18 ∧ (aU Z 62 18 (Z 62 18 + 1)) 62 18 ≤ 53 := by rw [aU_eq]; omega
              refine a_imul hX dX10_readPart_178 (pc' := 179) rfl ?_
              refine a_aload_n hX rfl rfl dX10_readPart_179 (pc' := 180) rfl ?_
              refine a_iconst hX dX10_readPart_180 (pc' := 181) rfl ?_
              refine a_iconst hX dX10_readPart_181 (pc' := 182) rfl ?_
              refine a_cV2I hX cv_X10_94 (q_figureOf (by omega) (by omega) hB (by omega) (by omega)) rfl (by decide) ⟨by decide, by decide⟩ (Nat.le_of_ble_eq_true rfl) dX10_readPart_182 (pc' := 185) rfl (fun x182 Z182 Y182 h182 => ?_)
              obtain ⟨g182, hB, rfl⟩ := h182
              have g182 := fgR_of g182
              have hx182 := fgS_hi g182.1 (by decide)
              have hi182 := fgS_i g182.1
              refine a_iastB hX rfl (by decide) (by decide) (by omega) hB (by omega) dX10_readPart_185 (pc' := 186) rfl (fun hB => ?_)
              refine a_aload_n hX rfl rfl dX10_readPart_186 (pc' := 187) rfl ?_
              refine a_getfR hX (r := 72) fl_X10_37 rfl (by decide) rfl dX10_readPart_187 (pc' := 190) rfl ?_
              refine a_iconst hX dX10_readPart_190 (pc' := 191) rfl ?_
              refine a_aload_n hX rfl rfl dX10_readPart_191 (pc' := 192) rfl ?_
              refine a_getfI hX (ji := 15) rfl hB fl_X10_87 rfl (by decide) rfl dX10_readPart_192 (pc' := 195) rfl (fun hb => ?_)
              have r195 : (aU Z182 72 (4 * Z 62 15) x182) 62 15 = Z 62 15 := by rw [aU_ne (by decide), g182.2.2 15 (by decide) (by decide)]; exact r178
              rw [r195]
              have m202 : (aU Z182 72 (4 * Z 62 15) x182) 62 17 = Z 62 17 := by rw [aU_ne (by decide), g182.2.2 17 (by decide) (by decide), m182]
              have i202 : 0 ≤ (aU Z182 72 (4 * Z 62 15) x182) 62 18 ∧ (aU Z182 72 (4 * Z 62 15) x182) 62 18 ≤ 54 := by rw [aU_ne (by decide)]; omega
              refine a_imul hX dX10_readPart_195 (pc' := 196) rfl ?_
              refine a_iconst hX dX10_readPart_196 (pc' := 197) rfl ?_
              refine a_iadd hX dX10_readPart_197 (pc' := 198) rfl ?_
              refine a_aload_n hX rfl rfl dX10_readPart_198 (pc' := 199) rfl ?_
              refine a_iconst hX dX10_readPart_199 (pc' := 200) rfl ?_
              refine a_bipush hX rfl dX10_readPart_200 (pc' := 202) rfl ?_
              refine a_cV2I hX cv_X10_94 (q_figureOf (by omega) (by omega) hB (by omega) (by omega)) rfl (by decide) ⟨by decide, by decide⟩ (Nat.le_of_ble_eq_true rfl) dX10_readPart_202 (pc' := 205) rfl (fun x202 Z202 Y202 h202 => ?_)
              obtain ⟨g202, hB, rfl⟩ := h202
              have g202 := fgR_of g202
              have hx202 := fgS_hi g202.1 (by decide)
              have hi202 := fgS_i g202.1
              refine a_iastB hX rfl (by decide) (by decide) (by omega) hB (by omega) dX10_readPart_205 (pc' := 206) rfl (fun hB => ?_)
              refine a_aload_n hX rfl rfl dX10_readPart_206 (pc' := 207) rfl ?_
              refine a_getfR hX (r := 72) fl_X10_37 rfl (by decide) rfl dX10_readPart_207 (pc' := 210) rfl ?_
              refine a_iconst hX dX10_readPart_210 (pc' := 211) rfl ?_
              refine a_aload_n hX rfl rfl dX10_readPart_211 (pc' := 212) rfl ?_
              refine a_getfI hX (ji := 15) rfl hB fl_X10_87 rfl (by decide) rfl dX10_readPart_212 (pc' := 215) rfl (fun hb => ?_)
              have r215 : (aU Z202 72 (4 * Z 62 15 + 1) x202) 62 15 = Z 62 15 := by rw [aU_ne (by decide), g202.2.2 15 (by decide) (by decide)]; exact r195
              rw [r215]
              have m222 : (aU Z202 72 (4 * Z 62 15 + 1) x202) 62 17 = Z 62 17 := by rw [aU_ne (by decide), g202.2.2 17 (by decide) (by decide), m202]
              have i222 : 0 ≤ (aU Z202 72 (4 * Z 62 15 + 1) x202) 62 18 ∧ (aU Z202 72 (4 * Z 62 15 + 1) x202) 62 18 ≤ 55 := by rw [aU_ne (by decide)]; omega
              refine a_imul hX dX10_readPart_215 (pc' := 216) rfl ?_
              refine a_iconst hX dX10_readPart_216 (pc' := 217) rfl ?_
              refine a_iadd hX dX10_readPart_217 (pc' := 218) rfl ?_
              refine a_aload_n hX rfl rfl dX10_readPart_218 (pc' := 219) rfl ?_
              refine a_iconst hX dX10_readPart_219 (pc' := 220) rfl ?_
              refine a_bipush hX rfl dX10_readPart_220 (pc' := 222) rfl ?_
              refine a_cV2I hX cv_X10_94 (q_figureOf (by omega) (by omega) hB (by omega) (by omega)) rfl (by decide) ⟨by decide, by decide⟩ (Nat.le_of_ble_eq_true rfl) dX10_readPart_222 (pc' := 225) rfl (fun x222 Z222 Y222 h222 => ?_)
              obtain ⟨g222, hB, rfl⟩ := h222
              have g222 := fgR_of g222
              have hx222 := fgS_hi g222.1 (by decide)
              have hi222 := fgS_i g222.1
              refine a_iastB hX rfl (by decide) (by decide) (by omega) hB (by omega) dX10_readPart_225 (pc' := 226) rfl (fun hB => ?_)
              refine a_aload_n hX rfl rfl dX10_readPart_226 (pc' := 227) rfl ?_
              refine a_getfR hX (r := 72) fl_X10_37 rfl (by decide) rfl dX10_readPart_227 (pc' := 230) rfl ?_
              refine a_iconst hX dX10_readPart_230 (pc' := 231) rfl ?_
              refine a_aload_n hX rfl rfl dX10_readPart_231 (pc' := 232) rfl ?_
              refine a_getfI hX (ji := 15) rfl hB fl_X10_87 rfl (by decide) rfl dX10_readPart_232 (pc' := 235) rfl (fun hb => ?_)
              have r235 : (aU Z222 72 (4 * Z 62 15 + 2) x222) 62 15 = Z 62 15 := by rw [aU_ne (by decide), g222.2.2 15 (by decide) (by decide)]; exact r215
              rw [r235]
              have m241 : (aU Z222 72 (4 * Z 62 15 + 2) x222) 62 17 = Z 62 17 := by rw [aU_ne (by decide), g222.2.2 17 (by decide) (by decide), m222]
              have i241 : 0 ≤ (aU Z222 72 (4 * Z 62 15 + 2) x222) 62 18 ∧ (aU Z222 72 (4 * Z 62 15 + 2) x222) 62 18 ≤ 56 := by rw [aU_ne (by decide)]; omega
              refine a_imul hX dX10_readPart_235 (pc' := 236) rfl ?_
              refine a_iconst hX dX10_readPart_236 (pc' := 237) rfl ?_
              refine a_iadd hX dX10_readPart_237 (pc' := 238) rfl ?_
              refine a_aload_n hX rfl rfl dX10_readPart_238 (pc' := 239) rfl ?_
              refine a_iconst hX dX10_readPart_239 (pc' := 240) rfl ?_
              refine a_iconst hX dX10_readPart_240 (pc' := 241) rfl ?_
              refine a_cV2I hX cv_X10_94 (q_figureOf (by omega) (by omega) hB (by omega) (by omega)) rfl (by decide) ⟨by decide, by decide⟩ (Nat.le_of_ble_eq_true rfl) dX10_readPart_241 (pc' := 244) rfl (fun x241 Z241 Y241 h241 => ?_)
              obtain ⟨g241, hB, rfl⟩ := h241
              have g241 := fgR_of g241
              have hx241 := fgS_hi g241.1 (by decide)
              have hi241 := fgS_i g241.1
              refine a_iastB hX rfl (by decide) (by decide) (by omega) hB (by omega) dX10_readPart_244 (pc' := 245) rfl (fun hB => ?_)
              refine a_aload_n hX rfl rfl dX10_readPart_245 (pc' := 246) rfl ?_
              refine a_dup hX rfl dX10_readPart_246 (pc' := 247) rfl ?_
              refine a_getfI hX (ji := 15) rfl hB fl_X10_87 rfl (by decide) rfl dX10_readPart_247 (pc' := 250) rfl (fun hb => ?_)
              have r250 : (aU Z241 72 (4 * Z 62 15 + 3) x241) 62 15 = Z 62 15 := by rw [aU_ne (by decide), g241.2.2 15 (by decide) (by decide)]; exact r235
              rw [r250]
              refine a_iconst hX dX10_readPart_250 (pc' := 251) rfl ?_
              refine a_iadd hX dX10_readPart_251 (pc' := 252) rfl ?_
              refine a_putfIB hX fl_X10_87 nf_9_15 (ji := 15) rfl rfl (by decide) rfl hB (by omega) dX10_readPart_252 (pc' := 255) rfl (fun hB => ?_)
              refine a_goto hX dX10_readPart_255 (tgt := 266) (by decide) ?_
              refine a_vret hX dX10_readPart_266 (hE _ _ _ ?_)
              refine ⟨rfl, ?_, hB, rfl⟩
              first
                | exact rdW (by omega) (by omega) hC hV hi hn rfl h9 g35
                | exact rdC (by omega) (by omega) hC hV hi hn rfl h9 g89 g109 g128
                | exact rdS (by omega) (by omega) hC hV hi hn rfl h9 g182 g202 g222 g241
                | exact rdX hC hV hi hn (fun q => by omega) (fun q => by omega) (fun q => by omega)
        · refine a_aload_n hX rfl rfl dX10_readPart_66 (pc' := 67) rfl ?_
          refine a_dup hX rfl dX10_readPart_67 (pc' := 68) rfl ?_
          refine a_getfI hX (ji := 18) rfl hB fl_X10_78 rfl (by decide) rfl dX10_readPart_68 (pc' := 71) rfl (fun hb => ?_)
          refine a_iconst hX dX10_readPart_71 (pc' := 72) rfl ?_
          refine a_iadd hX dX10_readPart_72 (pc' := 73) rfl ?_
          refine a_putfIB hX fl_X10_78 nf_9_18 (ji := 18) rfl rfl (by decide) rfl hB (by omega) dX10_readPart_73 (pc' := 76) rfl (fun hB => ?_)
          refine a_aload_n hX rfl rfl dX10_readPart_76 (pc' := 77) rfl ?_
          refine a_getfR hX (r := 71) fl_X10_34 rfl (by decide) rfl dX10_readPart_77 (pc' := 80) rfl ?_
          refine a_iconst hX dX10_readPart_80 (pc' := 81) rfl ?_
          refine a_aload_n hX rfl rfl dX10_readPart_81 (pc' := 82) rfl ?_
          refine a_getfI hX (ji := 14) rfl hB fl_X10_84 rfl (by decide) rfl dX10_readPart_82 (pc' := 85) rfl (fun hb => ?_)
          have r85 : (aU Z 62 18 (Z 62 18 + 1)) 62 14 = Z 62 14 := aU_nj (by decide)
          rw [r85]
          have m89 : (aU Z 62 18 (Z 62 18 + 1)) 62 17 = Z 62 17 := aU_nj (by decide)
          have i89 : 0 ≤ (aU Z 62 18 (Z 62 18 + 1)) 62 18 ∧ (aU Z 62 18 (Z 62 18 + 1)) 62 18 ≤ 53 := by rw [aU_eq]; omega
          refine a_imul hX dX10_readPart_85 (pc' := 86) rfl ?_
          refine a_aload_n hX rfl rfl dX10_readPart_86 (pc' := 87) rfl ?_
          refine a_iconst hX dX10_readPart_87 (pc' := 88) rfl ?_
          refine a_iconst hX dX10_readPart_88 (pc' := 89) rfl ?_
          refine a_cV2I hX cv_X10_94 (q_figureOf (by omega) (by omega) hB (by omega) (by omega)) rfl (by decide) ⟨by decide, by decide⟩ (Nat.le_of_ble_eq_true rfl) dX10_readPart_89 (pc' := 92) rfl (fun x89 Z89 Y89 h89 => ?_)
          obtain ⟨g89, hB, rfl⟩ := h89
          have g89 := fgR_of g89
          have hx89 := fgS_hi g89.1 (by decide)
          have hi89 := fgS_i g89.1
          refine a_iastB hX rfl (by decide) (by decide) (by omega) hB (by omega) dX10_readPart_92 (pc' := 93) rfl (fun hB => ?_)
          refine a_aload_n hX rfl rfl dX10_readPart_93 (pc' := 94) rfl ?_
          refine a_getfR hX (r := 71) fl_X10_34 rfl (by decide) rfl dX10_readPart_94 (pc' := 97) rfl ?_
          refine a_iconst hX dX10_readPart_97 (pc' := 98) rfl ?_
          refine a_aload_n hX rfl rfl dX10_readPart_98 (pc' := 99) rfl ?_
          refine a_getfI hX (ji := 14) rfl hB fl_X10_84 rfl (by decide) rfl dX10_readPart_99 (pc' := 102) rfl (fun hb => ?_)
          have r102 : (aU Z89 71 (3 * Z 62 14) x89) 62 14 = Z 62 14 := by rw [aU_ne (by decide), g89.2.2 14 (by decide) (by decide)]; exact r85
          rw [r102]
          have m109 : (aU Z89 71 (3 * Z 62 14) x89) 62 17 = Z 62 17 := by rw [aU_ne (by decide), g89.2.2 17 (by decide) (by decide), m89]
          have i109 : 0 ≤ (aU Z89 71 (3 * Z 62 14) x89) 62 18 ∧ (aU Z89 71 (3 * Z 62 14) x89) 62 18 ≤ 54 := by rw [aU_ne (by decide)]; omega
          refine a_imul hX dX10_readPart_102 (pc' := 103) rfl ?_
          refine a_iconst hX dX10_readPart_103 (pc' := 104) rfl ?_
          refine a_iadd hX dX10_readPart_104 (pc' := 105) rfl ?_
          refine a_aload_n hX rfl rfl dX10_readPart_105 (pc' := 106) rfl ?_
          refine a_iconst hX dX10_readPart_106 (pc' := 107) rfl ?_
          refine a_bipush hX rfl dX10_readPart_107 (pc' := 109) rfl ?_
          refine a_cV2I hX cv_X10_94 (q_figureOf (by omega) (by omega) hB (by omega) (by omega)) rfl (by decide) ⟨by decide, by decide⟩ (Nat.le_of_ble_eq_true rfl) dX10_readPart_109 (pc' := 112) rfl (fun x109 Z109 Y109 h109 => ?_)
          obtain ⟨g109, hB, rfl⟩ := h109
          have g109 := fgR_of g109
          have hx109 := fgS_hi g109.1 (by decide)
          have hi109 := fgS_i g109.1
          refine a_iastB hX rfl (by decide) (by decide) (by omega) hB (by omega) dX10_readPart_112 (pc' := 113) rfl (fun hB => ?_)
          refine a_aload_n hX rfl rfl dX10_readPart_113 (pc' := 114) rfl ?_
          refine a_getfR hX (r := 71) fl_X10_34 rfl (by decide) rfl dX10_readPart_114 (pc' := 117) rfl ?_
          refine a_iconst hX dX10_readPart_117 (pc' := 118) rfl ?_
          refine a_aload_n hX rfl rfl dX10_readPart_118 (pc' := 119) rfl ?_
          refine a_getfI hX (ji := 14) rfl hB fl_X10_84 rfl (by decide) rfl dX10_readPart_119 (pc' := 122) rfl (fun hb => ?_)
          have r122 : (aU Z109 71 (3 * Z 62 14 + 1) x109) 62 14 = Z 62 14 := by rw [aU_ne (by decide), g109.2.2 14 (by decide) (by decide)]; exact r102
          rw [r122]
          have m128 : (aU Z109 71 (3 * Z 62 14 + 1) x109) 62 17 = Z 62 17 := by rw [aU_ne (by decide), g109.2.2 17 (by decide) (by decide), m109]
          have i128 : 0 ≤ (aU Z109 71 (3 * Z 62 14 + 1) x109) 62 18 ∧ (aU Z109 71 (3 * Z 62 14 + 1) x109) 62 18 ≤ 55 := by rw [aU_ne (by decide)]; omega
          refine a_imul hX dX10_readPart_122 (pc' := 123) rfl ?_
          refine a_iconst hX dX10_readPart_123 (pc' := 124) rfl ?_
          refine a_iadd hX dX10_readPart_124 (pc' := 125) rfl ?_
          refine a_aload_n hX rfl rfl dX10_readPart_125 (pc' := 126) rfl ?_
          refine a_iconst hX dX10_readPart_126 (pc' := 127) rfl ?_
          refine a_iconst hX dX10_readPart_127 (pc' := 128) rfl ?_
          refine a_cV2I hX cv_X10_94 (q_figureOf (by omega) (by omega) hB (by omega) (by omega)) rfl (by decide) ⟨by decide, by decide⟩ (Nat.le_of_ble_eq_true rfl) dX10_readPart_128 (pc' := 131) rfl (fun x128 Z128 Y128 h128 => ?_)
          obtain ⟨g128, hB, rfl⟩ := h128
          have g128 := fgR_of g128
          have hx128 := fgS_hi g128.1 (by decide)
          have hi128 := fgS_i g128.1
          refine a_iastB hX rfl (by decide) (by decide) (by omega) hB (by omega) dX10_readPart_131 (pc' := 132) rfl (fun hB => ?_)
          refine a_aload_n hX rfl rfl dX10_readPart_132 (pc' := 133) rfl ?_
          refine a_dup hX rfl dX10_readPart_133 (pc' := 134) rfl ?_
          refine a_getfI hX (ji := 14) rfl hB fl_X10_84 rfl (by decide) rfl dX10_readPart_134 (pc' := 137) rfl (fun hb => ?_)
          have r137 : (aU Z128 71 (3 * Z 62 14 + 2) x128) 62 14 = Z 62 14 := by rw [aU_ne (by decide), g128.2.2 14 (by decide) (by decide)]; exact r122
          rw [r137]
          refine a_iconst hX dX10_readPart_137 (pc' := 138) rfl ?_
          refine a_iadd hX dX10_readPart_138 (pc' := 139) rfl ?_
          refine a_putfIB hX fl_X10_84 nf_9_14 (ji := 14) rfl rfl (by decide) rfl hB (by omega) dX10_readPart_139 (pc' := 142) rfl (fun hB => ?_)
          refine a_goto hX dX10_readPart_142 (tgt := 266) (by decide) ?_
          refine a_vret hX dX10_readPart_266 (hE _ _ _ ?_)
          refine ⟨rfl, ?_, hB, rfl⟩
          first
            | exact rdW (by omega) (by omega) hC hV hi hn rfl h9 g35
            | exact rdC (by omega) (by omega) hC hV hi hn rfl h9 g89 g109 g128
            | exact rdS (by omega) (by omega) hC hV hi hn rfl h9 g182 g202 g222 g241
            | exact rdX hC hV hi hn (fun q => by omega) (fun q => by omega) (fun q => by omega)
    · refine a_aload_n hX rfl rfl dX10_readPart_14 (pc' := 15) rfl ?_
      refine a_dup hX rfl dX10_readPart_15 (pc' := 16) rfl ?_
      refine a_getfI hX (ji := 18) rfl hB fl_X10_78 rfl (by decide) rfl dX10_readPart_16 (pc' := 19) rfl (fun hb => ?_)
      refine a_iconst hX dX10_readPart_19 (pc' := 20) rfl ?_
      refine a_iadd hX dX10_readPart_20 (pc' := 21) rfl ?_
      refine a_putfIB hX fl_X10_78 nf_9_18 (ji := 18) rfl rfl (by decide) rfl hB (by omega) dX10_readPart_21 (pc' := 24) rfl (fun hB => ?_)
      refine a_aload_n hX rfl rfl dX10_readPart_24 (pc' := 25) rfl ?_
      refine a_getfR hX (r := 70) fl_X10_31 rfl (by decide) rfl dX10_readPart_25 (pc' := 28) rfl ?_
      refine a_aload_n hX rfl rfl dX10_readPart_28 (pc' := 29) rfl ?_
      refine a_getfI hX (ji := 13) rfl hB fl_X10_81 rfl (by decide) rfl dX10_readPart_29 (pc' := 32) rfl (fun hb => ?_)
      have r32 : (aU Z 62 18 (Z 62 18 + 1)) 62 13 = Z 62 13 := aU_nj (by decide)
      rw [r32]
      have m35 : (aU Z 62 18 (Z 62 18 + 1)) 62 17 = Z 62 17 := aU_nj (by decide)
      have i35 : 0 ≤ (aU Z 62 18 (Z 62 18 + 1)) 62 18 ∧ (aU Z 62 18 (Z 62 18 + 1)) 62 18 ≤ 53 := by rw [aU_eq]; omega
      refine a_aload_n hX rfl rfl dX10_readPart_32 (pc' := 33) rfl ?_
      refine a_iconst hX dX10_readPart_33 (pc' := 34) rfl ?_
      refine a_iconst hX dX10_readPart_34 (pc' := 35) rfl ?_
      refine a_cV2I hX cv_X10_94 (q_figureOf (by omega) (by omega) hB (by omega) (by omega)) rfl (by decide) ⟨by decide, by decide⟩ (Nat.le_of_ble_eq_true rfl) dX10_readPart_35 (pc' := 38) rfl (fun x35 Z35 Y35 h35 => ?_)
      obtain ⟨g35, hB, rfl⟩ := h35
      have g35 := fgR_of g35
      have hx35 := fgS_hi g35.1 (by decide)
      have hi35 := fgS_i g35.1
      refine a_iastB hX rfl (by decide) (by decide) (by omega) hB (by omega) dX10_readPart_38 (pc' := 39) rfl (fun hB => ?_)
      refine a_aload_n hX rfl rfl dX10_readPart_39 (pc' := 40) rfl ?_
      refine a_dup hX rfl dX10_readPart_40 (pc' := 41) rfl ?_
      refine a_getfI hX (ji := 13) rfl hB fl_X10_81 rfl (by decide) rfl dX10_readPart_41 (pc' := 44) rfl (fun hb => ?_)
      have r44 : (aU Z35 70 (Z 62 13) x35) 62 13 = Z 62 13 := by rw [aU_ne (by decide), g35.2.2 13 (by decide) (by decide)]; exact r32
      rw [r44]
      refine a_iconst hX dX10_readPart_44 (pc' := 45) rfl ?_
      refine a_iadd hX dX10_readPart_45 (pc' := 46) rfl ?_
      refine a_putfIB hX fl_X10_81 nf_9_13 (ji := 13) rfl rfl (by decide) rfl hB (by omega) dX10_readPart_46 (pc' := 49) rfl (fun hB => ?_)
      refine a_goto hX dX10_readPart_49 (tgt := 266) (by decide) ?_
      refine a_vret hX dX10_readPart_266 (hE _ _ _ ?_)
      refine ⟨rfl, ?_, hB, rfl⟩
      first
        | exact rdW (by omega) (by omega) hC hV hi hn rfl h9 g35
        | exact rdC (by omega) (by omega) hC hV hi hn rfl h9 g89 g109 g128
        | exact rdS (by omega) (by omega) hC hV hi hn rfl h9 g182 g202 g222 g241
        | exact rdX hC hV hi hn (fun q => by omega) (fun q => by omega) (fun q => by omega)

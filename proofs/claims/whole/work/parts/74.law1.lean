/-! THE LAW: a case of its switch at a time -/
def INV (cells slots n : Nat) : Prop := cells + 120 ≤ 53 + n ∧ slots + 240 ≤ 38887 + gph n
theorem INV.step {cells slots n u : Nat} (hg : gch n) (h : INV cells slots n) : (cells + kc n u ≤ 600000 ∧ slots + ks n u ≤ 7302250) ∧ INV (cells + kc n u) (slots + ks n u) (gw n u) := by
  obtain ⟨h1, h2⟩ := h
  have g1 := gch_le (gw_ch (u := u) hg)
  have g2 := gw_n n u
  have g3 := gph_mono g2 g1.2
  have g4 : gph (gw n u) ≤ 108000 := by unfold gph; split <;> omega
  unfold INV kc ks
  omega
theorem cat_opt (v : Option Value) : ((v.toList ++ ([] : List Value)).map fun v => v.category).sum ≤ 8 := by
  cases v with
  | none => exact Nat.zero_le _
  | some v => cases v <;> exact Nat.le_of_ble_eq_true rfl
theorem law_in {i L j : Nat} (hi : i + 6 ≤ L) (hL : L ≤ 3072) (hj : j < 6) : vp_in (nI i + nI j) L := by
  rw [nI_add]; exact vp_in_nI (by omega) (by omega)
theorem lawc_0 {z : Zt} (E : EN z cL_law RL) (hR : RR z 100 600000 7302250) {b L : Nat} {xs : Nat → Int32} (hX : va_X b L xs (zs z) (zs z).heap) (hbl : b < (zs z).heap.size) (hbA : ¬ zA z b) {i : Nat} (hL : L ≤ 3072) (hi : i + 6 ≤ L) {ad am : Nat → Nat} {G : Nat → Nat → Int32} {V : Nat → Int32} {n : Nat} {H : Nat → Nat → Int32} {U : Nat → Int32} (S : SIM G V n H U) {cells slots : Nat} (I : INV cells slots n) (K : ∀ (ad' : Nat → Nat) (G' : Nat → Nat → Int32) (V' : Nat → Int32) (n' : Nat) (H' : Nat → Nat → Int32) (U' : Nat → Int32) (c' s' : Nat), ad' 0 = ad 0 → SIM G' V' n' H' U' → INV c' s' n' → WW z c' s' (WC (zk z) ad' G' V' n' ++ WM (zk z) am H' U') 586 [(0, .ref b), (1, .ref (ad 0)), (2, .ref (am 0)), (3, .int (nI i))] []) : WW z cells slots (WC (zk z) ad G V n ++ WM (zk z) am H U) 104 [(0, .ref b), (1, .ref (ad 0)), (2, .ref (am 0)), (3, .int (nI i))] [] := by
  obtain ⟨A, u, dC, dM, PC, PM, hdC, hdM, hC, hM, hh⟩ := b_row (l := zl z) (k := zk z) (ad := ad) (am := am) S (xs (nI i + 1).toNatClampNeg) (xs (nI i + 2).toNatClampNeg) (xs (nI i + 3).toNatClampNeg) (xs (nI i + 4).toNatClampNeg)
  refine r_aload_n E (q := 105) 1 dL_law_104 rfl rfl rfl ?_
  refine r_aload_n E (q := 106) 0 dL_law_105 rfl rfl rfl ?_
  refine r_iload_n E (q := 107) 3 dL_law_106 rfl rfl rfl ?_
  refine r_iconst E (q := 108) (v := 1) dL_law_107 (by decide) rfl ?_
  refine r_iadd E (q := 109) dL_law_108 rfl ?_
  refine r_sld E (q := 110) hX hbl hbA (law_in hi hL (j := 1) (by decide)) dL_law_109 rfl ?_
  refine r_aload_n E (q := 111) 0 dL_law_110 rfl rfl rfl ?_
  refine r_iload_n E (q := 112) 3 dL_law_111 rfl rfl rfl ?_
  refine r_iconst E (q := 113) (v := 2) dL_law_112 (by decide) rfl ?_
  refine r_iadd E (q := 114) dL_law_113 rfl ?_
  refine r_sld E (q := 115) hX hbl hbA (law_in hi hL (j := 2) (by decide)) dL_law_114 rfl ?_
  refine r_aload_n E (q := 116) 0 dL_law_115 rfl rfl rfl ?_
  refine r_iload_n E (q := 117) 3 dL_law_116 rfl rfl rfl ?_
  refine r_iconst E (q := 118) (v := 3) dL_law_117 (by decide) rfl ?_
  refine r_iadd E (q := 119) dL_law_118 rfl ?_
  refine r_sld E (q := 120) hX hbl hbA (law_in hi hL (j := 3) (by decide)) dL_law_119 rfl ?_
  refine r_aload_n E (q := 121) 0 dL_law_120 rfl rfl rfl ?_
  refine r_iload_n E (q := 122) 3 dL_law_121 rfl rfl rfl ?_
  refine r_iconst E (q := 123) (v := 4) dL_law_122 (by decide) rfl ?_
  refine r_iadd E (q := 124) dL_law_123 rfl ?_
  refine r_sld E (q := 125) hX hbl hbA (law_in hi hL (j := 4) (by decide)) dL_law_124 rfl ?_
  refine rV E cvL_13 hR (Fr.left (a := WC (zk z) ad G V n) (b := WM (zk z) am H U)) 0 wc_0 rfl [.int (xs (nI i + 1).toNatClampNeg), .int (xs (nI i + 2).toNatClampNeg), .int (xs (nI i + 3).toNatClampNeg), .int (xs (nI i + 4).toNatClampNeg)] hC (by omega) rfl rfl (Nat.le_of_ble_eq_true rfl) (INV.step S.2.2 I).1 dL_law_125 (fun v1 w1 h1 => ?_)
  refine r_aload_n E (q := 129) 2 dL_law_128 rfl rfl rfl ?_
  refine r_aload_n E (q := 130) 0 dL_law_129 rfl rfl rfl ?_
  refine r_iload_n E (q := 131) 3 dL_law_130 rfl rfl rfl ?_
  refine r_iconst E (q := 132) (v := 1) dL_law_131 (by decide) rfl ?_
  refine r_iadd E (q := 133) dL_law_132 rfl ?_
  refine r_sld E (q := 134) hX hbl hbA (law_in hi hL (j := 1) (by decide)) dL_law_133 rfl ?_
  refine r_aload_n E (q := 135) 0 dL_law_134 rfl rfl rfl ?_
  refine r_iload_n E (q := 136) 3 dL_law_135 rfl rfl rfl ?_
  refine r_iconst E (q := 137) (v := 2) dL_law_136 (by decide) rfl ?_
  refine r_iadd E (q := 138) dL_law_137 rfl ?_
  refine r_sld E (q := 139) hX hbl hbA (law_in hi hL (j := 2) (by decide)) dL_law_138 rfl ?_
  refine r_aload_n E (q := 140) 0 dL_law_139 rfl rfl rfl ?_
  refine r_iload_n E (q := 141) 3 dL_law_140 rfl rfl rfl ?_
  refine r_iconst E (q := 142) (v := 3) dL_law_141 (by decide) rfl ?_
  refine r_iadd E (q := 143) dL_law_142 rfl ?_
  refine r_sld E (q := 144) hX hbl hbA (law_in hi hL (j := 3) (by decide)) dL_law_143 rfl ?_
  refine r_aload_n E (q := 145) 0 dL_law_144 rfl rfl rfl ?_
  refine r_iload_n E (q := 146) 3 dL_law_145 rfl rfl rfl ?_
  refine r_iconst E (q := 147) (v := 4) dL_law_146 (by decide) rfl ?_
  refine r_iadd E (q := 148) dL_law_147 rfl ?_
  refine r_sld E (q := 149) hX hbl hbA (law_in hi hL (j := 4) (by decide)) dL_law_148 rfl ?_
  refine rV E cvL_17 hR (Fr.left (a := WM (zk z) am H U) (b := w1)) 0 wm_0 rfl [.int (xs (nI i + 1).toNatClampNeg), .int (xs (nI i + 2).toNatClampNeg), .int (xs (nI i + 3).toNatClampNeg), .int (xs (nI i + 4).toNatClampNeg)] hM (by omega) rfl rfl (cat_opt v1) (INV.step S.2.2 I).1 dL_law_149 (fun v2 w2 h2 => ?_)
  obtain ⟨rfl, rfl, ad', G', V', n', H', U', rfl, rfl, ea, S', rfl⟩ := hh v1 w1 v2 w2 h1 h2
  exact r_icmp_eq E (q := 155) 586 dL_law_152 (by decide) rfl (fun _ => K ad' G' V' _ H' U' _ _ ea S' (INV.step S.2.2 I).2) (fun q => absurd rfl q)
theorem lawc_1 {z : Zt} (E : EN z cL_law RL) (hR : RR z 100 600000 7302250) {b L : Nat} {xs : Nat → Int32} (hX : va_X b L xs (zs z) (zs z).heap) (hbl : b < (zs z).heap.size) (hbA : ¬ zA z b) {i : Nat} (hL : L ≤ 3072) (hi : i + 6 ≤ L) {ad am : Nat → Nat} {G : Nat → Nat → Int32} {V : Nat → Int32} {n : Nat} {H : Nat → Nat → Int32} {U : Nat → Int32} (S : SIM G V n H U) {cells slots : Nat} (I : INV cells slots n) (K : ∀ (ad' : Nat → Nat) (G' : Nat → Nat → Int32) (V' : Nat → Int32) (n' : Nat) (H' : Nat → Nat → Int32) (U' : Nat → Int32) (c' s' : Nat), ad' 0 = ad 0 → SIM G' V' n' H' U' → INV c' s' n' → WW z c' s' (WC (zk z) ad' G' V' n' ++ WM (zk z) am H' U') 586 [(0, .ref b), (1, .ref (ad 0)), (2, .ref (am 0)), (3, .int (nI i))] []) : WW z cells slots (WC (zk z) ad G V n ++ WM (zk z) am H U) 157 [(0, .ref b), (1, .ref (ad 0)), (2, .ref (am 0)), (3, .int (nI i))] [] := by
  obtain ⟨A, u, dC, dM, PC, PM, hdC, hdM, hC, hM, hh⟩ := b_clear (l := zl z) (k := zk z) (ad := ad) (am := am) S (xs (nI i + 1).toNatClampNeg)
  refine r_aload_n E (q := 158) 1 dL_law_157 rfl rfl rfl ?_
  refine r_aload_n E (q := 159) 0 dL_law_158 rfl rfl rfl ?_
  refine r_iload_n E (q := 160) 3 dL_law_159 rfl rfl rfl ?_
  refine r_iconst E (q := 161) (v := 1) dL_law_160 (by decide) rfl ?_
  refine r_iadd E (q := 162) dL_law_161 rfl ?_
  refine r_sld E (q := 163) hX hbl hbA (law_in hi hL (j := 1) (by decide)) dL_law_162 rfl ?_
  refine rV E cvL_18 hR (Fr.left (a := WC (zk z) ad G V n) (b := WM (zk z) am H U)) 0 wc_0 rfl [.int (xs (nI i + 1).toNatClampNeg)] hC (by omega) rfl rfl (Nat.le_of_ble_eq_true rfl) (INV.step S.2.2 I).1 dL_law_163 (fun v1 w1 h1 => ?_)
  refine r_aload_n E (q := 167) 2 dL_law_166 rfl rfl rfl ?_
  refine r_aload_n E (q := 168) 0 dL_law_167 rfl rfl rfl ?_
  refine r_iload_n E (q := 169) 3 dL_law_168 rfl rfl rfl ?_
  refine r_iconst E (q := 170) (v := 1) dL_law_169 (by decide) rfl ?_
  refine r_iadd E (q := 171) dL_law_170 rfl ?_
  refine r_sld E (q := 172) hX hbl hbA (law_in hi hL (j := 1) (by decide)) dL_law_171 rfl ?_
  refine rV E cvL_22 hR (Fr.left (a := WM (zk z) am H U) (b := w1)) 0 wm_0 rfl [.int (xs (nI i + 1).toNatClampNeg)] hM (by omega) rfl rfl (cat_opt v1) (INV.step S.2.2 I).1 dL_law_172 (fun v2 w2 h2 => ?_)
  obtain ⟨rfl, rfl, ad', G', V', n', H', U', rfl, rfl, ea, S', rfl⟩ := hh v1 w1 v2 w2 h1 h2
  exact r_icmp_eq E (q := 178) 586 dL_law_175 (by decide) rfl (fun _ => K ad' G' V' _ H' U' _ _ ea S' (INV.step S.2.2 I).2) (fun q => absurd rfl q)
theorem lawc_2 {z : Zt} (E : EN z cL_law RL) (hR : RR z 100 600000 7302250) {b L : Nat} {xs : Nat → Int32} (hX : va_X b L xs (zs z) (zs z).heap) (hbl : b < (zs z).heap.size) (hbA : ¬ zA z b) {i : Nat} (hL : L ≤ 3072) (hi : i + 6 ≤ L) {ad am : Nat → Nat} {G : Nat → Nat → Int32} {V : Nat → Int32} {n : Nat} {H : Nat → Nat → Int32} {U : Nat → Int32} (S : SIM G V n H U) {cells slots : Nat} (I : INV cells slots n) (K : ∀ (ad' : Nat → Nat) (G' : Nat → Nat → Int32) (V' : Nat → Int32) (n' : Nat) (H' : Nat → Nat → Int32) (U' : Nat → Int32) (c' s' : Nat), ad' 0 = ad 0 → SIM G' V' n' H' U' → INV c' s' n' → WW z c' s' (WC (zk z) ad' G' V' n' ++ WM (zk z) am H' U') 586 [(0, .ref b), (1, .ref (ad 0)), (2, .ref (am 0)), (3, .int (nI i))] []) : WW z cells slots (WC (zk z) ad G V n ++ WM (zk z) am H U) 180 [(0, .ref b), (1, .ref (ad 0)), (2, .ref (am 0)), (3, .int (nI i))] [] := by
  obtain ⟨A, u, dC, dM, PC, PM, hdC, hdM, hC, hM, hh⟩ := b_table (l := zl z) (k := zk z) (ad := ad) (am := am) S (xs (nI i + 1).toNatClampNeg) (xs (nI i + 2).toNatClampNeg)
  refine r_aload_n E (q := 181) 1 dL_law_180 rfl rfl rfl ?_
  refine r_aload_n E (q := 182) 0 dL_law_181 rfl rfl rfl ?_
  refine r_iload_n E (q := 183) 3 dL_law_182 rfl rfl rfl ?_
  refine r_iconst E (q := 184) (v := 1) dL_law_183 (by decide) rfl ?_
  refine r_iadd E (q := 185) dL_law_184 rfl ?_
  refine r_sld E (q := 186) hX hbl hbA (law_in hi hL (j := 1) (by decide)) dL_law_185 rfl ?_
  refine r_aload_n E (q := 187) 0 dL_law_186 rfl rfl rfl ?_
  refine r_iload_n E (q := 188) 3 dL_law_187 rfl rfl rfl ?_
  refine r_iconst E (q := 189) (v := 2) dL_law_188 (by decide) rfl ?_
  refine r_iadd E (q := 190) dL_law_189 rfl ?_
  refine r_sld E (q := 191) hX hbl hbA (law_in hi hL (j := 2) (by decide)) dL_law_190 rfl ?_
  refine rV E cvL_23 hR (Fr.left (a := WC (zk z) ad G V n) (b := WM (zk z) am H U)) 0 wc_0 rfl [.int (xs (nI i + 1).toNatClampNeg), .int (xs (nI i + 2).toNatClampNeg)] hC (by omega) rfl rfl (Nat.le_of_ble_eq_true rfl) (INV.step S.2.2 I).1 dL_law_191 (fun v1 w1 h1 => ?_)
  refine r_aload_n E (q := 195) 2 dL_law_194 rfl rfl rfl ?_
  refine r_aload_n E (q := 196) 0 dL_law_195 rfl rfl rfl ?_
  refine r_iload_n E (q := 197) 3 dL_law_196 rfl rfl rfl ?_
  refine r_iconst E (q := 198) (v := 1) dL_law_197 (by decide) rfl ?_
  refine r_iadd E (q := 199) dL_law_198 rfl ?_
  refine r_sld E (q := 200) hX hbl hbA (law_in hi hL (j := 1) (by decide)) dL_law_199 rfl ?_
  refine r_aload_n E (q := 201) 0 dL_law_200 rfl rfl rfl ?_
  refine r_iload_n E (q := 202) 3 dL_law_201 rfl rfl rfl ?_
  refine r_iconst E (q := 203) (v := 2) dL_law_202 (by decide) rfl ?_
  refine r_iadd E (q := 204) dL_law_203 rfl ?_
  refine r_sld E (q := 205) hX hbl hbA (law_in hi hL (j := 2) (by decide)) dL_law_204 rfl ?_
  refine rV E cvL_27 hR (Fr.left (a := WM (zk z) am H U) (b := w1)) 0 wm_0 rfl [.int (xs (nI i + 1).toNatClampNeg), .int (xs (nI i + 2).toNatClampNeg)] hM (by omega) rfl rfl (cat_opt v1) (INV.step S.2.2 I).1 dL_law_205 (fun v2 w2 h2 => ?_)
  obtain ⟨rfl, rfl, ad', G', V', n', H', U', rfl, rfl, ea, S', rfl⟩ := hh v1 w1 v2 w2 h1 h2
  exact r_icmp_eq E (q := 211) 586 dL_law_208 (by decide) rfl (fun _ => K ad' G' V' _ H' U' _ _ ea S' (INV.step S.2.2 I).2) (fun q => absurd rfl q)
theorem lawc_3 {z : Zt} (E : EN z cL_law RL) (hR : RR z 100 600000 7302250) {b L : Nat} {xs : Nat → Int32} (hX : va_X b L xs (zs z) (zs z).heap) (hbl : b < (zs z).heap.size) (hbA : ¬ zA z b) {i : Nat} (hL : L ≤ 3072) (hi : i + 6 ≤ L) {ad am : Nat → Nat} {G : Nat → Nat → Int32} {V : Nat → Int32} {n : Nat} {H : Nat → Nat → Int32} {U : Nat → Int32} (S : SIM G V n H U) {cells slots : Nat} (I : INV cells slots n) (K : ∀ (ad' : Nat → Nat) (G' : Nat → Nat → Int32) (V' : Nat → Int32) (n' : Nat) (H' : Nat → Nat → Int32) (U' : Nat → Int32) (c' s' : Nat), ad' 0 = ad 0 → SIM G' V' n' H' U' → INV c' s' n' → WW z c' s' (WC (zk z) ad' G' V' n' ++ WM (zk z) am H' U') 586 [(0, .ref b), (1, .ref (ad 0)), (2, .ref (am 0)), (3, .int (nI i))] []) : WW z cells slots (WC (zk z) ad G V n ++ WM (zk z) am H U) 213 [(0, .ref b), (1, .ref (ad 0)), (2, .ref (am 0)), (3, .int (nI i))] [] := by
  obtain ⟨A, u, dC, dM, PC, PM, hdC, hdM, hC, hM, hh⟩ := b_formula (l := zl z) (k := zk z) (ad := ad) (am := am) S (xs (nI i + 1).toNatClampNeg) (xs (nI i + 2).toNatClampNeg) (xs (nI i + 3).toNatClampNeg)
  refine r_aload_n E (q := 214) 1 dL_law_213 rfl rfl rfl ?_
  refine r_aload_n E (q := 215) 0 dL_law_214 rfl rfl rfl ?_
  refine r_iload_n E (q := 216) 3 dL_law_215 rfl rfl rfl ?_
  refine r_iconst E (q := 217) (v := 1) dL_law_216 (by decide) rfl ?_
  refine r_iadd E (q := 218) dL_law_217 rfl ?_
  refine r_sld E (q := 219) hX hbl hbA (law_in hi hL (j := 1) (by decide)) dL_law_218 rfl ?_
  refine r_aload_n E (q := 220) 0 dL_law_219 rfl rfl rfl ?_
  refine r_iload_n E (q := 221) 3 dL_law_220 rfl rfl rfl ?_
  refine r_iconst E (q := 222) (v := 2) dL_law_221 (by decide) rfl ?_
  refine r_iadd E (q := 223) dL_law_222 rfl ?_
  refine r_sld E (q := 224) hX hbl hbA (law_in hi hL (j := 2) (by decide)) dL_law_223 rfl ?_
  refine r_aload_n E (q := 225) 0 dL_law_224 rfl rfl rfl ?_
  refine r_iload_n E (q := 226) 3 dL_law_225 rfl rfl rfl ?_
  refine r_iconst E (q := 227) (v := 3) dL_law_226 (by decide) rfl ?_
  refine r_iadd E (q := 228) dL_law_227 rfl ?_
  refine r_sld E (q := 229) hX hbl hbA (law_in hi hL (j := 3) (by decide)) dL_law_228 rfl ?_
  refine rV E cvL_28 hR (Fr.left (a := WC (zk z) ad G V n) (b := WM (zk z) am H U)) 0 wc_0 rfl [.int (xs (nI i + 1).toNatClampNeg), .int (xs (nI i + 2).toNatClampNeg), .int (xs (nI i + 3).toNatClampNeg)] hC (by omega) rfl rfl (Nat.le_of_ble_eq_true rfl) (INV.step S.2.2 I).1 dL_law_229 (fun v1 w1 h1 => ?_)
  refine r_aload_n E (q := 233) 2 dL_law_232 rfl rfl rfl ?_
  refine r_aload_n E (q := 234) 0 dL_law_233 rfl rfl rfl ?_
  refine r_iload_n E (q := 235) 3 dL_law_234 rfl rfl rfl ?_
  refine r_iconst E (q := 236) (v := 1) dL_law_235 (by decide) rfl ?_
  refine r_iadd E (q := 237) dL_law_236 rfl ?_
  refine r_sld E (q := 238) hX hbl hbA (law_in hi hL (j := 1) (by decide)) dL_law_237 rfl ?_
  refine r_aload_n E (q := 239) 0 dL_law_238 rfl rfl rfl ?_
  refine r_iload_n E (q := 240) 3 dL_law_239 rfl rfl rfl ?_
  refine r_iconst E (q := 241) (v := 2) dL_law_240 (by decide) rfl ?_
  refine r_iadd E (q := 242) dL_law_241 rfl ?_
  refine r_sld E (q := 243) hX hbl hbA (law_in hi hL (j := 2) (by decide)) dL_law_242 rfl ?_
  refine r_aload_n E (q := 244) 0 dL_law_243 rfl rfl rfl ?_
  refine r_iload_n E (q := 245) 3 dL_law_244 rfl rfl rfl ?_
  refine r_iconst E (q := 246) (v := 3) dL_law_245 (by decide) rfl ?_
  refine r_iadd E (q := 247) dL_law_246 rfl ?_
  refine r_sld E (q := 248) hX hbl hbA (law_in hi hL (j := 3) (by decide)) dL_law_247 rfl ?_
  refine rV E cvL_32 hR (Fr.left (a := WM (zk z) am H U) (b := w1)) 0 wm_0 rfl [.int (xs (nI i + 1).toNatClampNeg), .int (xs (nI i + 2).toNatClampNeg), .int (xs (nI i + 3).toNatClampNeg)] hM (by omega) rfl rfl (cat_opt v1) (INV.step S.2.2 I).1 dL_law_248 (fun v2 w2 h2 => ?_)
  obtain ⟨rfl, rfl, ad', G', V', n', H', U', rfl, rfl, ea, S', rfl⟩ := hh v1 w1 v2 w2 h1 h2
  exact r_icmp_eq E (q := 254) 586 dL_law_251 (by decide) rfl (fun _ => K ad' G' V' _ H' U' _ _ ea S' (INV.step S.2.2 I).2) (fun q => absurd rfl q)
theorem lawc_4 {z : Zt} (E : EN z cL_law RL) (hR : RR z 100 600000 7302250) {b L : Nat} {xs : Nat → Int32} (hX : va_X b L xs (zs z) (zs z).heap) (hbl : b < (zs z).heap.size) (hbA : ¬ zA z b) {i : Nat} (hL : L ≤ 3072) (hi : i + 6 ≤ L) {ad am : Nat → Nat} {G : Nat → Nat → Int32} {V : Nat → Int32} {n : Nat} {H : Nat → Nat → Int32} {U : Nat → Int32} (S : SIM G V n H U) {cells slots : Nat} (I : INV cells slots n) (K : ∀ (ad' : Nat → Nat) (G' : Nat → Nat → Int32) (V' : Nat → Int32) (n' : Nat) (H' : Nat → Nat → Int32) (U' : Nat → Int32) (c' s' : Nat), ad' 0 = ad 0 → SIM G' V' n' H' U' → INV c' s' n' → WW z c' s' (WC (zk z) ad' G' V' n' ++ WM (zk z) am H' U') 586 [(0, .ref b), (1, .ref (ad 0)), (2, .ref (am 0)), (3, .int (nI i))] []) : WW z cells slots (WC (zk z) ad G V n ++ WM (zk z) am H U) 256 [(0, .ref b), (1, .ref (ad 0)), (2, .ref (am 0)), (3, .int (nI i))] [] := by
  obtain ⟨A, u, dC, dM, PC, PM, hdC, hdM, hC, hM, hh⟩ := b_formulaOf (l := zl z) (k := zk z) (ad := ad) (am := am) S (xs (nI i + 1).toNatClampNeg) (xs (nI i + 2).toNatClampNeg)
  refine r_aload_n E (q := 257) 1 dL_law_256 rfl rfl rfl ?_
  refine r_aload_n E (q := 258) 0 dL_law_257 rfl rfl rfl ?_
  refine r_iload_n E (q := 259) 3 dL_law_258 rfl rfl rfl ?_
  refine r_iconst E (q := 260) (v := 1) dL_law_259 (by decide) rfl ?_
  refine r_iadd E (q := 261) dL_law_260 rfl ?_
  refine r_sld E (q := 262) hX hbl hbA (law_in hi hL (j := 1) (by decide)) dL_law_261 rfl ?_
  refine r_aload_n E (q := 263) 0 dL_law_262 rfl rfl rfl ?_
  refine r_iload_n E (q := 264) 3 dL_law_263 rfl rfl rfl ?_
  refine r_iconst E (q := 265) (v := 2) dL_law_264 (by decide) rfl ?_
  refine r_iadd E (q := 266) dL_law_265 rfl ?_
  refine r_sld E (q := 267) hX hbl hbA (law_in hi hL (j := 2) (by decide)) dL_law_266 rfl ?_
  refine rV E cvL_33 hR (Fr.left (a := WC (zk z) ad G V n) (b := WM (zk z) am H U)) 0 wc_0 rfl [.int (xs (nI i + 1).toNatClampNeg), .int (xs (nI i + 2).toNatClampNeg)] hC (by omega) rfl rfl (Nat.le_of_ble_eq_true rfl) (INV.step S.2.2 I).1 dL_law_267 (fun v1 w1 h1 => ?_)
  refine r_aload_n E (q := 271) 2 dL_law_270 rfl rfl rfl ?_
  refine r_aload_n E (q := 272) 0 dL_law_271 rfl rfl rfl ?_
  refine r_iload_n E (q := 273) 3 dL_law_272 rfl rfl rfl ?_
  refine r_iconst E (q := 274) (v := 1) dL_law_273 (by decide) rfl ?_
  refine r_iadd E (q := 275) dL_law_274 rfl ?_
  refine r_sld E (q := 276) hX hbl hbA (law_in hi hL (j := 1) (by decide)) dL_law_275 rfl ?_
  refine r_aload_n E (q := 277) 0 dL_law_276 rfl rfl rfl ?_
  refine r_iload_n E (q := 278) 3 dL_law_277 rfl rfl rfl ?_
  refine r_iconst E (q := 279) (v := 2) dL_law_278 (by decide) rfl ?_
  refine r_iadd E (q := 280) dL_law_279 rfl ?_
  refine r_sld E (q := 281) hX hbl hbA (law_in hi hL (j := 2) (by decide)) dL_law_280 rfl ?_
  refine rV E cvL_36 hR (Fr.left (a := WM (zk z) am H U) (b := w1)) 0 wm_0 rfl [.int (xs (nI i + 1).toNatClampNeg), .int (xs (nI i + 2).toNatClampNeg)] hM (by omega) rfl rfl (cat_opt v1) (INV.step S.2.2 I).1 dL_law_281 (fun v2 w2 h2 => ?_)
  obtain ⟨rfl, rfl, ad', G', V', n', H', U', rfl, rfl, ea, S', rfl⟩ := hh v1 w1 v2 w2 h1 h2
  exact r_icmp_eq E (q := 287) 586 dL_law_284 (by decide) rfl (fun _ => K ad' G' V' _ H' U' _ _ ea S' (INV.step S.2.2 I).2) (fun q => absurd rfl q)
theorem lawc_5 {z : Zt} (E : EN z cL_law RL) (hR : RR z 100 600000 7302250) {b L : Nat} {xs : Nat → Int32} (hX : va_X b L xs (zs z) (zs z).heap) (hbl : b < (zs z).heap.size) (hbA : ¬ zA z b) {i : Nat} (hL : L ≤ 3072) (hi : i + 6 ≤ L) {ad am : Nat → Nat} {G : Nat → Nat → Int32} {V : Nat → Int32} {n : Nat} {H : Nat → Nat → Int32} {U : Nat → Int32} (S : SIM G V n H U) {cells slots : Nat} (I : INV cells slots n) (K : ∀ (ad' : Nat → Nat) (G' : Nat → Nat → Int32) (V' : Nat → Int32) (n' : Nat) (H' : Nat → Nat → Int32) (U' : Nat → Int32) (c' s' : Nat), ad' 0 = ad 0 → SIM G' V' n' H' U' → INV c' s' n' → WW z c' s' (WC (zk z) ad' G' V' n' ++ WM (zk z) am H' U') 586 [(0, .ref b), (1, .ref (ad 0)), (2, .ref (am 0)), (3, .int (nI i))] []) : WW z cells slots (WC (zk z) ad G V n ++ WM (zk z) am H U) 289 [(0, .ref b), (1, .ref (ad 0)), (2, .ref (am 0)), (3, .int (nI i))] [] := by
  obtain ⟨A, u, dC, dM, PC, PM, hdC, hdM, hC, hM, hh⟩ := b_node (l := zl z) (k := zk z) (ad := ad) (am := am) S (xs (nI i + 1).toNatClampNeg) (xs (nI i + 2).toNatClampNeg) (xs (nI i + 3).toNatClampNeg) (xs (nI i + 4).toNatClampNeg) (xs (nI i + 5).toNatClampNeg)
  refine r_aload_n E (q := 290) 1 dL_law_289 rfl rfl rfl ?_
  refine r_aload_n E (q := 291) 0 dL_law_290 rfl rfl rfl ?_
  refine r_iload_n E (q := 292) 3 dL_law_291 rfl rfl rfl ?_
  refine r_iconst E (q := 293) (v := 1) dL_law_292 (by decide) rfl ?_
  refine r_iadd E (q := 294) dL_law_293 rfl ?_
  refine r_sld E (q := 295) hX hbl hbA (law_in hi hL (j := 1) (by decide)) dL_law_294 rfl ?_
  refine r_aload_n E (q := 296) 0 dL_law_295 rfl rfl rfl ?_
  refine r_iload_n E (q := 297) 3 dL_law_296 rfl rfl rfl ?_
  refine r_iconst E (q := 298) (v := 2) dL_law_297 (by decide) rfl ?_
  refine r_iadd E (q := 299) dL_law_298 rfl ?_
  refine r_sld E (q := 300) hX hbl hbA (law_in hi hL (j := 2) (by decide)) dL_law_299 rfl ?_
  refine r_aload_n E (q := 301) 0 dL_law_300 rfl rfl rfl ?_
  refine r_iload_n E (q := 302) 3 dL_law_301 rfl rfl rfl ?_
  refine r_iconst E (q := 303) (v := 3) dL_law_302 (by decide) rfl ?_
  refine r_iadd E (q := 304) dL_law_303 rfl ?_
  refine r_sld E (q := 305) hX hbl hbA (law_in hi hL (j := 3) (by decide)) dL_law_304 rfl ?_
  refine r_aload_n E (q := 306) 0 dL_law_305 rfl rfl rfl ?_
  refine r_iload_n E (q := 307) 3 dL_law_306 rfl rfl rfl ?_
  refine r_iconst E (q := 308) (v := 4) dL_law_307 (by decide) rfl ?_
  refine r_iadd E (q := 309) dL_law_308 rfl ?_
  refine r_sld E (q := 310) hX hbl hbA (law_in hi hL (j := 4) (by decide)) dL_law_309 rfl ?_
  refine r_aload_n E (q := 311) 0 dL_law_310 rfl rfl rfl ?_
  refine r_iload_n E (q := 312) 3 dL_law_311 rfl rfl rfl ?_
  refine r_iconst E (q := 313) (v := 5) dL_law_312 (by decide) rfl ?_
  refine r_iadd E (q := 314) dL_law_313 rfl ?_
  refine r_sld E (q := 315) hX hbl hbA (law_in hi hL (j := 5) (by decide)) dL_law_314 rfl ?_
  refine rV E cvL_37 hR (Fr.left (a := WC (zk z) ad G V n) (b := WM (zk z) am H U)) 0 wc_0 rfl [.int (xs (nI i + 1).toNatClampNeg), .int (xs (nI i + 2).toNatClampNeg), .int (xs (nI i + 3).toNatClampNeg), .int (xs (nI i + 4).toNatClampNeg), .int (xs (nI i + 5).toNatClampNeg)] hC (by omega) rfl rfl (Nat.le_of_ble_eq_true rfl) (INV.step S.2.2 I).1 dL_law_315 (fun v1 w1 h1 => ?_)
  refine r_aload_n E (q := 319) 2 dL_law_318 rfl rfl rfl ?_
  refine r_aload_n E (q := 320) 0 dL_law_319 rfl rfl rfl ?_
  refine r_iload_n E (q := 321) 3 dL_law_320 rfl rfl rfl ?_
  refine r_iconst E (q := 322) (v := 1) dL_law_321 (by decide) rfl ?_
  refine r_iadd E (q := 323) dL_law_322 rfl ?_
  refine r_sld E (q := 324) hX hbl hbA (law_in hi hL (j := 1) (by decide)) dL_law_323 rfl ?_
  refine r_aload_n E (q := 325) 0 dL_law_324 rfl rfl rfl ?_
  refine r_iload_n E (q := 326) 3 dL_law_325 rfl rfl rfl ?_
  refine r_iconst E (q := 327) (v := 2) dL_law_326 (by decide) rfl ?_
  refine r_iadd E (q := 328) dL_law_327 rfl ?_
  refine r_sld E (q := 329) hX hbl hbA (law_in hi hL (j := 2) (by decide)) dL_law_328 rfl ?_
  refine r_aload_n E (q := 330) 0 dL_law_329 rfl rfl rfl ?_
  refine r_iload_n E (q := 331) 3 dL_law_330 rfl rfl rfl ?_
  refine r_iconst E (q := 332) (v := 3) dL_law_331 (by decide) rfl ?_
  refine r_iadd E (q := 333) dL_law_332 rfl ?_
  refine r_sld E (q := 334) hX hbl hbA (law_in hi hL (j := 3) (by decide)) dL_law_333 rfl ?_
  refine r_aload_n E (q := 335) 0 dL_law_334 rfl rfl rfl ?_
  refine r_iload_n E (q := 336) 3 dL_law_335 rfl rfl rfl ?_
  refine r_iconst E (q := 337) (v := 4) dL_law_336 (by decide) rfl ?_
  refine r_iadd E (q := 338) dL_law_337 rfl ?_
  refine r_sld E (q := 339) hX hbl hbA (law_in hi hL (j := 4) (by decide)) dL_law_338 rfl ?_
  refine r_aload_n E (q := 340) 0 dL_law_339 rfl rfl rfl ?_
  refine r_iload_n E (q := 341) 3 dL_law_340 rfl rfl rfl ?_
  refine r_iconst E (q := 342) (v := 5) dL_law_341 (by decide) rfl ?_
  refine r_iadd E (q := 343) dL_law_342 rfl ?_
  refine r_sld E (q := 344) hX hbl hbA (law_in hi hL (j := 5) (by decide)) dL_law_343 rfl ?_
  refine rV E cvL_41 hR (Fr.left (a := WM (zk z) am H U) (b := w1)) 0 wm_0 rfl [.int (xs (nI i + 1).toNatClampNeg), .int (xs (nI i + 2).toNatClampNeg), .int (xs (nI i + 3).toNatClampNeg), .int (xs (nI i + 4).toNatClampNeg), .int (xs (nI i + 5).toNatClampNeg)] hM (by omega) rfl rfl (cat_opt v1) (INV.step S.2.2 I).1 dL_law_344 (fun v2 w2 h2 => ?_)
  obtain ⟨rfl, rfl, ad', G', V', n', H', U', rfl, rfl, ea, S', rfl⟩ := hh v1 w1 v2 w2 h1 h2
  exact r_icmp_eq E (q := 350) 586 dL_law_347 (by decide) rfl (fun _ => K ad' G' V' _ H' U' _ _ ea S' (INV.step S.2.2 I).2) (fun q => absurd rfl q)
theorem lawc_6 {z : Zt} (E : EN z cL_law RL) (hR : RR z 100 600000 7302250) {b L : Nat} {xs : Nat → Int32} (hX : va_X b L xs (zs z) (zs z).heap) (hbl : b < (zs z).heap.size) (hbA : ¬ zA z b) {i : Nat} (hL : L ≤ 3072) (hi : i + 6 ≤ L) {ad am : Nat → Nat} {G : Nat → Nat → Int32} {V : Nat → Int32} {n : Nat} {H : Nat → Nat → Int32} {U : Nat → Int32} (S : SIM G V n H U) {cells slots : Nat} (I : INV cells slots n) (K : ∀ (ad' : Nat → Nat) (G' : Nat → Nat → Int32) (V' : Nat → Int32) (n' : Nat) (H' : Nat → Nat → Int32) (U' : Nat → Int32) (c' s' : Nat), ad' 0 = ad 0 → SIM G' V' n' H' U' → INV c' s' n' → WW z c' s' (WC (zk z) ad' G' V' n' ++ WM (zk z) am H' U') 586 [(0, .ref b), (1, .ref (ad 0)), (2, .ref (am 0)), (3, .int (nI i))] []) : WW z cells slots (WC (zk z) ad G V n ++ WM (zk z) am H U) 352 [(0, .ref b), (1, .ref (ad 0)), (2, .ref (am 0)), (3, .int (nI i))] [] := by
  obtain ⟨A, u, dC, dM, PC, PM, hdC, hdM, hC, hM, hh⟩ := b_told (l := zl z) (k := zk z) (ad := ad) (am := am) S (xs (nI i + 1).toNatClampNeg) (xs (nI i + 2).toNatClampNeg)
  refine r_aload_n E (q := 353) 1 dL_law_352 rfl rfl rfl ?_
  refine r_aload_n E (q := 354) 0 dL_law_353 rfl rfl rfl ?_
  refine r_iload_n E (q := 355) 3 dL_law_354 rfl rfl rfl ?_
  refine r_iconst E (q := 356) (v := 1) dL_law_355 (by decide) rfl ?_
  refine r_iadd E (q := 357) dL_law_356 rfl ?_
  refine r_sld E (q := 358) hX hbl hbA (law_in hi hL (j := 1) (by decide)) dL_law_357 rfl ?_
  refine r_aload_n E (q := 359) 0 dL_law_358 rfl rfl rfl ?_
  refine r_iload_n E (q := 360) 3 dL_law_359 rfl rfl rfl ?_
  refine r_iconst E (q := 361) (v := 2) dL_law_360 (by decide) rfl ?_
  refine r_iadd E (q := 362) dL_law_361 rfl ?_
  refine r_sld E (q := 363) hX hbl hbA (law_in hi hL (j := 2) (by decide)) dL_law_362 rfl ?_
  refine rV E cvL_42 hR (Fr.left (a := WC (zk z) ad G V n) (b := WM (zk z) am H U)) 0 wc_0 rfl [.int (xs (nI i + 1).toNatClampNeg), .int (xs (nI i + 2).toNatClampNeg)] hC (by omega) rfl rfl (Nat.le_of_ble_eq_true rfl) (INV.step S.2.2 I).1 dL_law_363 (fun v1 w1 h1 => ?_)
  refine r_aload_n E (q := 367) 2 dL_law_366 rfl rfl rfl ?_
  refine r_aload_n E (q := 368) 0 dL_law_367 rfl rfl rfl ?_
  refine r_iload_n E (q := 369) 3 dL_law_368 rfl rfl rfl ?_
  refine r_iconst E (q := 370) (v := 1) dL_law_369 (by decide) rfl ?_
  refine r_iadd E (q := 371) dL_law_370 rfl ?_
  refine r_sld E (q := 372) hX hbl hbA (law_in hi hL (j := 1) (by decide)) dL_law_371 rfl ?_
  refine r_aload_n E (q := 373) 0 dL_law_372 rfl rfl rfl ?_
  refine r_iload_n E (q := 374) 3 dL_law_373 rfl rfl rfl ?_
  refine r_iconst E (q := 375) (v := 2) dL_law_374 (by decide) rfl ?_
  refine r_iadd E (q := 376) dL_law_375 rfl ?_
  refine r_sld E (q := 377) hX hbl hbA (law_in hi hL (j := 2) (by decide)) dL_law_376 rfl ?_
  refine rV E cvL_45 hR (Fr.left (a := WM (zk z) am H U) (b := w1)) 0 wm_0 rfl [.int (xs (nI i + 1).toNatClampNeg), .int (xs (nI i + 2).toNatClampNeg)] hM (by omega) rfl rfl (cat_opt v1) (INV.step S.2.2 I).1 dL_law_377 (fun v2 w2 h2 => ?_)
  obtain ⟨rfl, rfl, ad', G', V', n', H', U', rfl, rfl, ea, S', rfl⟩ := hh v1 w1 v2 w2 h1 h2
  exact r_icmp_eq E (q := 383) 586 dL_law_380 (by decide) rfl (fun _ => K ad' G' V' _ H' U' _ _ ea S' (INV.step S.2.2 I).2) (fun q => absurd rfl q)
theorem lawc_7 {z : Zt} (E : EN z cL_law RL) (hR : RR z 100 600000 7302250) {b L : Nat} {xs : Nat → Int32} (hX : va_X b L xs (zs z) (zs z).heap) (hbl : b < (zs z).heap.size) (hbA : ¬ zA z b) {i : Nat} (hL : L ≤ 3072) (hi : i + 6 ≤ L) {ad am : Nat → Nat} {G : Nat → Nat → Int32} {V : Nat → Int32} {n : Nat} {H : Nat → Nat → Int32} {U : Nat → Int32} (S : SIM G V n H U) {cells slots : Nat} (I : INV cells slots n) (K : ∀ (ad' : Nat → Nat) (G' : Nat → Nat → Int32) (V' : Nat → Int32) (n' : Nat) (H' : Nat → Nat → Int32) (U' : Nat → Int32) (c' s' : Nat), ad' 0 = ad 0 → SIM G' V' n' H' U' → INV c' s' n' → WW z c' s' (WC (zk z) ad' G' V' n' ++ WM (zk z) am H' U') 586 [(0, .ref b), (1, .ref (ad 0)), (2, .ref (am 0)), (3, .int (nI i))] []) : WW z cells slots (WC (zk z) ad G V n ++ WM (zk z) am H U) 385 [(0, .ref b), (1, .ref (ad 0)), (2, .ref (am 0)), (3, .int (nI i))] [] := by
  obtain ⟨A, u, dC, dM, PC, PM, hdC, hdM, hC, hM, hh⟩ := b_run (l := zl z) (k := zk z) (ad := ad) (am := am) S (xs (nI i + 1).toNatClampNeg)
  refine r_aload_n E (q := 386) 1 dL_law_385 rfl rfl rfl ?_
  refine r_aload_n E (q := 387) 0 dL_law_386 rfl rfl rfl ?_
  refine r_iload_n E (q := 388) 3 dL_law_387 rfl rfl rfl ?_
  refine r_iconst E (q := 389) (v := 1) dL_law_388 (by decide) rfl ?_
  refine r_iadd E (q := 390) dL_law_389 rfl ?_
  refine r_sld E (q := 391) hX hbl hbA (law_in hi hL (j := 1) (by decide)) dL_law_390 rfl ?_
  refine rV E cvL_46 hR (Fr.left (a := WC (zk z) ad G V n) (b := WM (zk z) am H U)) 0 wc_0 rfl [.int (xs (nI i + 1).toNatClampNeg)] hC (by omega) rfl rfl (Nat.le_of_ble_eq_true rfl) (INV.step S.2.2 I).1 dL_law_391 (fun v1 w1 h1 => ?_)
  refine r_aload_n E (q := 395) 2 dL_law_394 rfl rfl rfl ?_
  refine r_aload_n E (q := 396) 0 dL_law_395 rfl rfl rfl ?_
  refine r_iload_n E (q := 397) 3 dL_law_396 rfl rfl rfl ?_
  refine r_iconst E (q := 398) (v := 1) dL_law_397 (by decide) rfl ?_
  refine r_iadd E (q := 399) dL_law_398 rfl ?_
  refine r_sld E (q := 400) hX hbl hbA (law_in hi hL (j := 1) (by decide)) dL_law_399 rfl ?_
  refine rV E cvL_49 hR (Fr.left (a := WM (zk z) am H U) (b := w1)) 0 wm_0 rfl [.int (xs (nI i + 1).toNatClampNeg)] hM (by omega) rfl rfl (cat_opt v1) (INV.step S.2.2 I).1 dL_law_400 (fun v2 w2 h2 => ?_)
  obtain ⟨rfl, rfl, ad', G', V', n', H', U', rfl, rfl, ea, S', rfl⟩ := hh v1 w1 v2 w2 h1 h2
  exact r_icmp_eq E (q := 406) 586 dL_law_403 (by decide) rfl (fun _ => K ad' G' V' _ H' U' _ _ ea S' (INV.step S.2.2 I).2) (fun q => absurd rfl q)
theorem lawc_8 {z : Zt} (E : EN z cL_law RL) (hR : RR z 100 600000 7302250) {b L : Nat} {xs : Nat → Int32} (hX : va_X b L xs (zs z) (zs z).heap) (hbl : b < (zs z).heap.size) (hbA : ¬ zA z b) {i : Nat} (hL : L ≤ 3072) (hi : i + 6 ≤ L) {ad am : Nat → Nat} {G : Nat → Nat → Int32} {V : Nat → Int32} {n : Nat} {H : Nat → Nat → Int32} {U : Nat → Int32} (S : SIM G V n H U) {cells slots : Nat} (I : INV cells slots n) (K : ∀ (ad' : Nat → Nat) (G' : Nat → Nat → Int32) (V' : Nat → Int32) (n' : Nat) (H' : Nat → Nat → Int32) (U' : Nat → Int32) (c' s' : Nat), ad' 0 = ad 0 → SIM G' V' n' H' U' → INV c' s' n' → WW z c' s' (WC (zk z) ad' G' V' n' ++ WM (zk z) am H' U') 586 [(0, .ref b), (1, .ref (ad 0)), (2, .ref (am 0)), (3, .int (nI i))] []) : WW z cells slots (WC (zk z) ad G V n ++ WM (zk z) am H U) 408 [(0, .ref b), (1, .ref (ad 0)), (2, .ref (am 0)), (3, .int (nI i))] [] := by
  obtain ⟨A, u, dC, dM, PC, PM, hdC, hdM, hC, hM, hh⟩ := b_member (l := zl z) (k := zk z) (ad := ad) (am := am) S (xs (nI i + 1).toNatClampNeg) (xs (nI i + 2).toNatClampNeg)
  refine r_aload_n E (q := 409) 1 dL_law_408 rfl rfl rfl ?_
  refine r_aload_n E (q := 410) 0 dL_law_409 rfl rfl rfl ?_
  refine r_iload_n E (q := 411) 3 dL_law_410 rfl rfl rfl ?_
  refine r_iconst E (q := 412) (v := 1) dL_law_411 (by decide) rfl ?_
  refine r_iadd E (q := 413) dL_law_412 rfl ?_
  refine r_sld E (q := 414) hX hbl hbA (law_in hi hL (j := 1) (by decide)) dL_law_413 rfl ?_
  refine r_aload_n E (q := 415) 0 dL_law_414 rfl rfl rfl ?_
  refine r_iload_n E (q := 416) 3 dL_law_415 rfl rfl rfl ?_
  refine r_iconst E (q := 417) (v := 2) dL_law_416 (by decide) rfl ?_
  refine r_iadd E (q := 418) dL_law_417 rfl ?_
  refine r_sld E (q := 419) hX hbl hbA (law_in hi hL (j := 2) (by decide)) dL_law_418 rfl ?_
  refine rV E cvL_50 hR (Fr.left (a := WC (zk z) ad G V n) (b := WM (zk z) am H U)) 0 wc_0 rfl [.int (xs (nI i + 1).toNatClampNeg), .int (xs (nI i + 2).toNatClampNeg)] hC (by omega) rfl rfl (Nat.le_of_ble_eq_true rfl) (INV.step S.2.2 I).1 dL_law_419 (fun v1 w1 h1 => ?_)
  refine r_aload_n E (q := 423) 2 dL_law_422 rfl rfl rfl ?_
  refine r_aload_n E (q := 424) 0 dL_law_423 rfl rfl rfl ?_
  refine r_iload_n E (q := 425) 3 dL_law_424 rfl rfl rfl ?_
  refine r_iconst E (q := 426) (v := 1) dL_law_425 (by decide) rfl ?_
  refine r_iadd E (q := 427) dL_law_426 rfl ?_
  refine r_sld E (q := 428) hX hbl hbA (law_in hi hL (j := 1) (by decide)) dL_law_427 rfl ?_
  refine r_aload_n E (q := 429) 0 dL_law_428 rfl rfl rfl ?_
  refine r_iload_n E (q := 430) 3 dL_law_429 rfl rfl rfl ?_
  refine r_iconst E (q := 431) (v := 2) dL_law_430 (by decide) rfl ?_
  refine r_iadd E (q := 432) dL_law_431 rfl ?_
  refine r_sld E (q := 433) hX hbl hbA (law_in hi hL (j := 2) (by decide)) dL_law_432 rfl ?_
  refine rV E cvL_53 hR (Fr.left (a := WM (zk z) am H U) (b := w1)) 0 wm_0 rfl [.int (xs (nI i + 1).toNatClampNeg), .int (xs (nI i + 2).toNatClampNeg)] hM (by omega) rfl rfl (cat_opt v1) (INV.step S.2.2 I).1 dL_law_433 (fun v2 w2 h2 => ?_)
  obtain ⟨rfl, rfl, ad', G', V', n', H', U', rfl, rfl, ea, S', rfl⟩ := hh v1 w1 v2 w2 h1 h2
  exact r_icmp_eq E (q := 439) 586 dL_law_436 (by decide) rfl (fun _ => K ad' G' V' _ H' U' _ _ ea S' (INV.step S.2.2 I).2) (fun q => absurd rfl q)
theorem lawc_9 {z : Zt} (E : EN z cL_law RL) (hR : RR z 100 600000 7302250) {b L : Nat} {xs : Nat → Int32} (hX : va_X b L xs (zs z) (zs z).heap) (hbl : b < (zs z).heap.size) (hbA : ¬ zA z b) {i : Nat} (hL : L ≤ 3072) (hi : i + 6 ≤ L) {ad am : Nat → Nat} {G : Nat → Nat → Int32} {V : Nat → Int32} {n : Nat} {H : Nat → Nat → Int32} {U : Nat → Int32} (S : SIM G V n H U) {cells slots : Nat} (I : INV cells slots n) (K : ∀ (ad' : Nat → Nat) (G' : Nat → Nat → Int32) (V' : Nat → Int32) (n' : Nat) (H' : Nat → Nat → Int32) (U' : Nat → Int32) (c' s' : Nat), ad' 0 = ad 0 → SIM G' V' n' H' U' → INV c' s' n' → WW z c' s' (WC (zk z) ad' G' V' n' ++ WM (zk z) am H' U') 586 [(0, .ref b), (1, .ref (ad 0)), (2, .ref (am 0)), (3, .int (nI i))] []) : WW z cells slots (WC (zk z) ad G V n ++ WM (zk z) am H U) 441 [(0, .ref b), (1, .ref (ad 0)), (2, .ref (am 0)), (3, .int (nI i))] [] := by
  obtain ⟨A, u, dC, dM, PC, PM, hdC, hdM, hC, hM, hh⟩ := b_worked (l := zl z) (k := zk z) (ad := ad) (am := am) S (xs (nI i + 1).toNatClampNeg)
  refine r_aload_n E (q := 442) 1 dL_law_441 rfl rfl rfl ?_
  refine r_aload_n E (q := 443) 0 dL_law_442 rfl rfl rfl ?_
  refine r_iload_n E (q := 444) 3 dL_law_443 rfl rfl rfl ?_
  refine r_iconst E (q := 445) (v := 1) dL_law_444 (by decide) rfl ?_
  refine r_iadd E (q := 446) dL_law_445 rfl ?_
  refine r_sld E (q := 447) hX hbl hbA (law_in hi hL (j := 1) (by decide)) dL_law_446 rfl ?_
  refine rV E cvL_54 hR (Fr.left (a := WC (zk z) ad G V n) (b := WM (zk z) am H U)) 0 wc_0 rfl [.int (xs (nI i + 1).toNatClampNeg)] hC (by omega) rfl rfl (Nat.le_of_ble_eq_true rfl) (INV.step S.2.2 I).1 dL_law_447 (fun v1 w1 h1 => ?_)
  refine r_aload_n E (q := 451) 2 dL_law_450 rfl rfl rfl ?_
  refine r_aload_n E (q := 452) 0 dL_law_451 rfl rfl rfl ?_
  refine r_iload_n E (q := 453) 3 dL_law_452 rfl rfl rfl ?_
  refine r_iconst E (q := 454) (v := 1) dL_law_453 (by decide) rfl ?_
  refine r_iadd E (q := 455) dL_law_454 rfl ?_
  refine r_sld E (q := 456) hX hbl hbA (law_in hi hL (j := 1) (by decide)) dL_law_455 rfl ?_
  refine rV E cvL_57 hR (Fr.left (a := WM (zk z) am H U) (b := w1)) 0 wm_0 rfl [.int (xs (nI i + 1).toNatClampNeg)] hM (by omega) rfl rfl (cat_opt v1) (INV.step S.2.2 I).1 dL_law_456 (fun v2 w2 h2 => ?_)
  obtain ⟨rfl, rfl, ad', G', V', n', H', U', rfl, rfl, ea, S', rfl⟩ := hh v1 w1 v2 w2 h1 h2
  exact r_icmp_eq E (q := 462) 586 dL_law_459 (by decide) rfl (fun _ => K ad' G' V' _ H' U' _ _ ea S' (INV.step S.2.2 I).2) (fun q => absurd rfl q)
theorem lawc_10 {z : Zt} (E : EN z cL_law RL) (hR : RR z 100 600000 7302250) {b L : Nat} {xs : Nat → Int32} (hX : va_X b L xs (zs z) (zs z).heap) (hbl : b < (zs z).heap.size) (hbA : ¬ zA z b) {i : Nat} (hL : L ≤ 3072) (hi : i + 6 ≤ L) {ad am : Nat → Nat} {G : Nat → Nat → Int32} {V : Nat → Int32} {n : Nat} {H : Nat → Nat → Int32} {U : Nat → Int32} (S : SIM G V n H U) {cells slots : Nat} (I : INV cells slots n) (K : ∀ (ad' : Nat → Nat) (G' : Nat → Nat → Int32) (V' : Nat → Int32) (n' : Nat) (H' : Nat → Nat → Int32) (U' : Nat → Int32) (c' s' : Nat), ad' 0 = ad 0 → SIM G' V' n' H' U' → INV c' s' n' → WW z c' s' (WC (zk z) ad' G' V' n' ++ WM (zk z) am H' U') 586 [(0, .ref b), (1, .ref (ad 0)), (2, .ref (am 0)), (3, .int (nI i))] []) : WW z cells slots (WC (zk z) ad G V n ++ WM (zk z) am H U) 464 [(0, .ref b), (1, .ref (ad 0)), (2, .ref (am 0)), (3, .int (nI i))] [] := by
  obtain ⟨A, u, dC, dM, PC, PM, hdC, hdM, hC, hM, hh⟩ := b_fits (l := zl z) (k := zk z) (ad := ad) (am := am) S (xs (nI i + 1).toNatClampNeg) (xs (nI i + 2).toNatClampNeg)
  refine r_aload_n E (q := 465) 1 dL_law_464 rfl rfl rfl ?_
  refine r_aload_n E (q := 466) 0 dL_law_465 rfl rfl rfl ?_
  refine r_iload_n E (q := 467) 3 dL_law_466 rfl rfl rfl ?_
  refine r_iconst E (q := 468) (v := 1) dL_law_467 (by decide) rfl ?_
  refine r_iadd E (q := 469) dL_law_468 rfl ?_
  refine r_sld E (q := 470) hX hbl hbA (law_in hi hL (j := 1) (by decide)) dL_law_469 rfl ?_
  refine r_aload_n E (q := 471) 0 dL_law_470 rfl rfl rfl ?_
  refine r_iload_n E (q := 472) 3 dL_law_471 rfl rfl rfl ?_
  refine r_iconst E (q := 473) (v := 2) dL_law_472 (by decide) rfl ?_
  refine r_iadd E (q := 474) dL_law_473 rfl ?_
  refine r_sld E (q := 475) hX hbl hbA (law_in hi hL (j := 2) (by decide)) dL_law_474 rfl ?_
  refine rV E cvL_58 hR (Fr.left (a := WC (zk z) ad G V n) (b := WM (zk z) am H U)) 0 wc_0 rfl [.int (xs (nI i + 1).toNatClampNeg), .int (xs (nI i + 2).toNatClampNeg)] hC (by omega) rfl rfl (Nat.le_of_ble_eq_true rfl) (INV.step S.2.2 I).1 dL_law_475 (fun v1 w1 h1 => ?_)
  refine r_aload_n E (q := 479) 2 dL_law_478 rfl rfl rfl ?_
  refine r_aload_n E (q := 480) 0 dL_law_479 rfl rfl rfl ?_
  refine r_iload_n E (q := 481) 3 dL_law_480 rfl rfl rfl ?_
  refine r_iconst E (q := 482) (v := 1) dL_law_481 (by decide) rfl ?_
  refine r_iadd E (q := 483) dL_law_482 rfl ?_
  refine r_sld E (q := 484) hX hbl hbA (law_in hi hL (j := 1) (by decide)) dL_law_483 rfl ?_
  refine r_aload_n E (q := 485) 0 dL_law_484 rfl rfl rfl ?_
  refine r_iload_n E (q := 486) 3 dL_law_485 rfl rfl rfl ?_
  refine r_iconst E (q := 487) (v := 2) dL_law_486 (by decide) rfl ?_
  refine r_iadd E (q := 488) dL_law_487 rfl ?_
  refine r_sld E (q := 489) hX hbl hbA (law_in hi hL (j := 2) (by decide)) dL_law_488 rfl ?_
  refine rV E cvL_61 hR (Fr.left (a := WM (zk z) am H U) (b := w1)) 0 wm_0 rfl [.int (xs (nI i + 1).toNatClampNeg), .int (xs (nI i + 2).toNatClampNeg)] hM (by omega) rfl rfl (cat_opt v1) (INV.step S.2.2 I).1 dL_law_489 (fun v2 w2 h2 => ?_)
  obtain ⟨rfl, rfl, ad', G', V', n', H', U', rfl, rfl, ea, S', rfl⟩ := hh v1 w1 v2 w2 h1 h2
  exact r_icmp_eq E (q := 495) 586 dL_law_492 (by decide) rfl (fun _ => K ad' G' V' _ H' U' _ _ ea S' (INV.step S.2.2 I).2) (fun q => absurd rfl q)
theorem lawc_11 {z : Zt} (E : EN z cL_law RL) (hR : RR z 100 600000 7302250) {b L : Nat} {xs : Nat → Int32} (hX : va_X b L xs (zs z) (zs z).heap) (hbl : b < (zs z).heap.size) (hbA : ¬ zA z b) {i : Nat} (hL : L ≤ 3072) (hi : i + 6 ≤ L) {ad am : Nat → Nat} {G : Nat → Nat → Int32} {V : Nat → Int32} {n : Nat} {H : Nat → Nat → Int32} {U : Nat → Int32} (S : SIM G V n H U) {cells slots : Nat} (I : INV cells slots n) (K : ∀ (ad' : Nat → Nat) (G' : Nat → Nat → Int32) (V' : Nat → Int32) (n' : Nat) (H' : Nat → Nat → Int32) (U' : Nat → Int32) (c' s' : Nat), ad' 0 = ad 0 → SIM G' V' n' H' U' → INV c' s' n' → WW z c' s' (WC (zk z) ad' G' V' n' ++ WM (zk z) am H' U') 586 [(0, .ref b), (1, .ref (ad 0)), (2, .ref (am 0)), (3, .int (nI i))] []) : WW z cells slots (WC (zk z) ad G V n ++ WM (zk z) am H U) 497 [(0, .ref b), (1, .ref (ad 0)), (2, .ref (am 0)), (3, .int (nI i))] [] := by
  obtain ⟨A, u, dC, dM, PC, PM, hdC, hdM, hC, hM, hh⟩ := b_rewrite (l := zl z) (k := zk z) (ad := ad) (am := am) S (xs (nI i + 1).toNatClampNeg) (xs (nI i + 2).toNatClampNeg)
  refine r_aload_n E (q := 498) 1 dL_law_497 rfl rfl rfl ?_
  refine r_aload_n E (q := 499) 0 dL_law_498 rfl rfl rfl ?_
  refine r_iload_n E (q := 500) 3 dL_law_499 rfl rfl rfl ?_
  refine r_iconst E (q := 501) (v := 1) dL_law_500 (by decide) rfl ?_
  refine r_iadd E (q := 502) dL_law_501 rfl ?_
  refine r_sld E (q := 503) hX hbl hbA (law_in hi hL (j := 1) (by decide)) dL_law_502 rfl ?_
  refine r_aload_n E (q := 504) 0 dL_law_503 rfl rfl rfl ?_
  refine r_iload_n E (q := 505) 3 dL_law_504 rfl rfl rfl ?_
  refine r_iconst E (q := 506) (v := 2) dL_law_505 (by decide) rfl ?_
  refine r_iadd E (q := 507) dL_law_506 rfl ?_
  refine r_sld E (q := 508) hX hbl hbA (law_in hi hL (j := 2) (by decide)) dL_law_507 rfl ?_
  refine rV E cvL_62 hR (Fr.left (a := WC (zk z) ad G V n) (b := WM (zk z) am H U)) 0 wc_0 rfl [.int (xs (nI i + 1).toNatClampNeg), .int (xs (nI i + 2).toNatClampNeg)] hC (by omega) rfl rfl (Nat.le_of_ble_eq_true rfl) (INV.step S.2.2 I).1 dL_law_508 (fun v1 w1 h1 => ?_)
  refine r_aload_n E (q := 512) 2 dL_law_511 rfl rfl rfl ?_
  refine r_aload_n E (q := 513) 0 dL_law_512 rfl rfl rfl ?_
  refine r_iload_n E (q := 514) 3 dL_law_513 rfl rfl rfl ?_
  refine r_iconst E (q := 515) (v := 1) dL_law_514 (by decide) rfl ?_
  refine r_iadd E (q := 516) dL_law_515 rfl ?_
  refine r_sld E (q := 517) hX hbl hbA (law_in hi hL (j := 1) (by decide)) dL_law_516 rfl ?_
  refine r_aload_n E (q := 518) 0 dL_law_517 rfl rfl rfl ?_
  refine r_iload_n E (q := 519) 3 dL_law_518 rfl rfl rfl ?_
  refine r_iconst E (q := 520) (v := 2) dL_law_519 (by decide) rfl ?_
  refine r_iadd E (q := 521) dL_law_520 rfl ?_
  refine r_sld E (q := 522) hX hbl hbA (law_in hi hL (j := 2) (by decide)) dL_law_521 rfl ?_
  refine rV E cvL_65 hR (Fr.left (a := WM (zk z) am H U) (b := w1)) 0 wm_0 rfl [.int (xs (nI i + 1).toNatClampNeg), .int (xs (nI i + 2).toNatClampNeg)] hM (by omega) rfl rfl (cat_opt v1) (INV.step S.2.2 I).1 dL_law_522 (fun v2 w2 h2 => ?_)
  obtain ⟨rfl, rfl, ad', G', V', n', H', U', rfl, rfl, ea, S', rfl⟩ := hh v1 w1 v2 w2 h1 h2
  exact r_icmp_eq E (q := 528) 586 dL_law_525 (by decide) rfl (fun _ => K ad' G' V' _ H' U' _ _ ea S' (INV.step S.2.2 I).2) (fun q => absurd rfl q)
theorem lawc_12 {z : Zt} (E : EN z cL_law RL) (hR : RR z 100 600000 7302250) {b L : Nat} {xs : Nat → Int32} (hX : va_X b L xs (zs z) (zs z).heap) (hbl : b < (zs z).heap.size) (hbA : ¬ zA z b) {i : Nat} (hL : L ≤ 3072) (hi : i + 6 ≤ L) {ad am : Nat → Nat} {G : Nat → Nat → Int32} {V : Nat → Int32} {n : Nat} {H : Nat → Nat → Int32} {U : Nat → Int32} (S : SIM G V n H U) {cells slots : Nat} (I : INV cells slots n) (K : ∀ (ad' : Nat → Nat) (G' : Nat → Nat → Int32) (V' : Nat → Int32) (n' : Nat) (H' : Nat → Nat → Int32) (U' : Nat → Int32) (c' s' : Nat), ad' 0 = ad 0 → SIM G' V' n' H' U' → INV c' s' n' → WW z c' s' (WC (zk z) ad' G' V' n' ++ WM (zk z) am H' U') 586 [(0, .ref b), (1, .ref (ad 0)), (2, .ref (am 0)), (3, .int (nI i))] []) : WW z cells slots (WC (zk z) ad G V n ++ WM (zk z) am H U) 530 [(0, .ref b), (1, .ref (ad 0)), (2, .ref (am 0)), (3, .int (nI i))] [] := by
  obtain ⟨A, u, dC, dM, PC, PM, hdC, hdM, hC, hM, hh⟩ := b_sweep (l := zl z) (k := zk z) (ad := ad) (am := am) S (xs (nI i + 1).toNatClampNeg) (xs (nI i + 2).toNatClampNeg)
  refine r_aload_n E (q := 531) 1 dL_law_530 rfl rfl rfl ?_
  refine r_aload_n E (q := 532) 0 dL_law_531 rfl rfl rfl ?_
  refine r_iload_n E (q := 533) 3 dL_law_532 rfl rfl rfl ?_
  refine r_iconst E (q := 534) (v := 1) dL_law_533 (by decide) rfl ?_
  refine r_iadd E (q := 535) dL_law_534 rfl ?_
  refine r_sld E (q := 536) hX hbl hbA (law_in hi hL (j := 1) (by decide)) dL_law_535 rfl ?_
  refine r_aload_n E (q := 537) 0 dL_law_536 rfl rfl rfl ?_
  refine r_iload_n E (q := 538) 3 dL_law_537 rfl rfl rfl ?_
  refine r_iconst E (q := 539) (v := 2) dL_law_538 (by decide) rfl ?_
  refine r_iadd E (q := 540) dL_law_539 rfl ?_
  refine r_sld E (q := 541) hX hbl hbA (law_in hi hL (j := 2) (by decide)) dL_law_540 rfl ?_
  refine rV E cvL_66 hR (Fr.left (a := WC (zk z) ad G V n) (b := WM (zk z) am H U)) 0 wc_0 rfl [.int (xs (nI i + 1).toNatClampNeg), .int (xs (nI i + 2).toNatClampNeg)] hC (by omega) rfl rfl (Nat.le_of_ble_eq_true rfl) (INV.step S.2.2 I).1 dL_law_541 (fun v1 w1 h1 => ?_)
  refine r_aload_n E (q := 545) 2 dL_law_544 rfl rfl rfl ?_
  refine r_aload_n E (q := 546) 0 dL_law_545 rfl rfl rfl ?_
  refine r_iload_n E (q := 547) 3 dL_law_546 rfl rfl rfl ?_
  refine r_iconst E (q := 548) (v := 1) dL_law_547 (by decide) rfl ?_
  refine r_iadd E (q := 549) dL_law_548 rfl ?_
  refine r_sld E (q := 550) hX hbl hbA (law_in hi hL (j := 1) (by decide)) dL_law_549 rfl ?_
  refine r_aload_n E (q := 551) 0 dL_law_550 rfl rfl rfl ?_
  refine r_iload_n E (q := 552) 3 dL_law_551 rfl rfl rfl ?_
  refine r_iconst E (q := 553) (v := 2) dL_law_552 (by decide) rfl ?_
  refine r_iadd E (q := 554) dL_law_553 rfl ?_
  refine r_sld E (q := 555) hX hbl hbA (law_in hi hL (j := 2) (by decide)) dL_law_554 rfl ?_
  refine rV E cvL_69 hR (Fr.left (a := WM (zk z) am H U) (b := w1)) 0 wm_0 rfl [.int (xs (nI i + 1).toNatClampNeg), .int (xs (nI i + 2).toNatClampNeg)] hM (by omega) rfl rfl (cat_opt v1) (INV.step S.2.2 I).1 dL_law_555 (fun v2 w2 h2 => ?_)
  obtain ⟨rfl, rfl, ad', G', V', n', H', U', rfl, rfl, ea, S', rfl⟩ := hh v1 w1 v2 w2 h1 h2
  exact r_icmp_eq E (q := 561) 586 dL_law_558 (by decide) rfl (fun _ => K ad' G' V' _ H' U' _ _ ea S' (INV.step S.2.2 I).2) (fun q => absurd rfl q)
theorem lawc_13 {z : Zt} (E : EN z cL_law RL) (hR : RR z 100 600000 7302250) {b L : Nat} {xs : Nat → Int32} (hX : va_X b L xs (zs z) (zs z).heap) (hbl : b < (zs z).heap.size) (hbA : ¬ zA z b) {i : Nat} (hL : L ≤ 3072) (hi : i + 6 ≤ L) {ad am : Nat → Nat} {G : Nat → Nat → Int32} {V : Nat → Int32} {n : Nat} {H : Nat → Nat → Int32} {U : Nat → Int32} (S : SIM G V n H U) {cells slots : Nat} (I : INV cells slots n) (K : ∀ (ad' : Nat → Nat) (G' : Nat → Nat → Int32) (V' : Nat → Int32) (n' : Nat) (H' : Nat → Nat → Int32) (U' : Nat → Int32) (c' s' : Nat), ad' 0 = ad 0 → SIM G' V' n' H' U' → INV c' s' n' → WW z c' s' (WC (zk z) ad' G' V' n' ++ WM (zk z) am H' U') 586 [(0, .ref b), (1, .ref (ad 0)), (2, .ref (am 0)), (3, .int (nI i))] []) : WW z cells slots (WC (zk z) ad G V n ++ WM (zk z) am H U) 563 [(0, .ref b), (1, .ref (ad 0)), (2, .ref (am 0)), (3, .int (nI i))] [] := by
  obtain ⟨A, u, dC, dM, PC, PM, hdC, hdM, hC, hM, hh⟩ := b_count (l := zl z) (k := zk z) (ad := ad) (am := am) S (xs (nI i + 1).toNatClampNeg)
  refine r_aload_n E (q := 564) 1 dL_law_563 rfl rfl rfl ?_
  refine r_aload_n E (q := 565) 0 dL_law_564 rfl rfl rfl ?_
  refine r_iload_n E (q := 566) 3 dL_law_565 rfl rfl rfl ?_
  refine r_iconst E (q := 567) (v := 1) dL_law_566 (by decide) rfl ?_
  refine r_iadd E (q := 568) dL_law_567 rfl ?_
  refine r_sld E (q := 569) hX hbl hbA (law_in hi hL (j := 1) (by decide)) dL_law_568 rfl ?_
  refine rV E cvL_70 hR (Fr.left (a := WC (zk z) ad G V n) (b := WM (zk z) am H U)) 0 wc_0 rfl [.int (xs (nI i + 1).toNatClampNeg)] hC (by omega) rfl rfl (Nat.le_of_ble_eq_true rfl) (INV.step S.2.2 I).1 dL_law_569 (fun v1 w1 h1 => ?_)
  refine r_aload_n E (q := 573) 2 dL_law_572 rfl rfl rfl ?_
  refine r_aload_n E (q := 574) 0 dL_law_573 rfl rfl rfl ?_
  refine r_iload_n E (q := 575) 3 dL_law_574 rfl rfl rfl ?_
  refine r_iconst E (q := 576) (v := 1) dL_law_575 (by decide) rfl ?_
  refine r_iadd E (q := 577) dL_law_576 rfl ?_
  refine r_sld E (q := 578) hX hbl hbA (law_in hi hL (j := 1) (by decide)) dL_law_577 rfl ?_
  refine rV E cvL_73 hR (Fr.left (a := WM (zk z) am H U) (b := w1)) 0 wm_0 rfl [.int (xs (nI i + 1).toNatClampNeg)] hM (by omega) rfl rfl (cat_opt v1) (INV.step S.2.2 I).1 dL_law_578 (fun v2 w2 h2 => ?_)
  obtain ⟨rfl, rfl, ad', G', V', n', H', U', rfl, rfl, ea, S', rfl⟩ := hh v1 w1 v2 w2 h1 h2
  exact r_icmp_eq E (q := 584) 586 dL_law_581 (by decide) rfl (fun _ => K ad' G' V' _ H' U' _ _ ea S' (INV.step S.2.2 I).2) (fun q => absurd rfl q)

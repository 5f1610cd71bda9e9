set_option maxRecDepth 100000 in
set_option maxHeartbeats 800000 in
theorem lk_a {z : Zt} (E : EN z cX6_look RX6) {w0 : va_W} {P : Option Value → va_W → Prop} {lvl : Nat} (T : RT z none lvl w0 P 0 0) (hz : zn z = 5) {ad : Nat → Nat} {G : Nat → Nat → Int32} {V : Nat → Int32} (hlv : 2 ≤ lvl) 
    (k1 : WW z 0 0 (WM (zk z) ad G V) 2 [(0, .ref (ad 0)), (1, .int 0)] []) :
    WW z 0 0 (WM (zk z) ad G V) 0 [(0, .ref (ad 0))] [] := by
  refine r_iconst E (q := 1) (v := 0) dX6_look_0 (by decide) rfl ?_
  refine r_istore_n E (q := 2) (lv' := [(0, .ref (ad 0)), (1, .int 0)]) [1, 0] dX6_look_1 rfl (by rw [hz]; decide) rfl rfl ?_
  exact k1 
set_option maxRecDepth 100000 in
set_option maxHeartbeats 800000 in
theorem lk_b {z : Zt} (E : EN z cX6_look RX6) {w0 : va_W} {P : Option Value → va_W → Prop} {lvl : Nat} (T : RT z none lvl w0 P 0 0) (hz : zn z = 5) {ad : Nat → Nat} {G : Nat → Nat → Int32} {V : Nat → Int32} (hlv : 2 ≤ lvl) (j9 : Int32) (hj : ¬ V 1 ≤ j9 → vp_in j9 60) (hv : ¬ V 1 ≤ j9 → G 10 (ix j9) = 1 ∨ G 10 (ix j9) = 2 → vp_in (G 14 (ix j9)) 40) 
    (k1 : V 1 ≤ j9 → WW z 0 0 (WM (zk z) ad G V) 70 [(0, .ref (ad 0)), (1, .int 1)] []) 
    (k2 : ∀ (G1 G2 : Nat → Nat → Int32), G1 = ug G 15 (ix j9) (-1) → G2 = ug G1 16 (ix j9) (if G1 10 (ix j9) = 1 then (if G1 8 (ix (G1 14 (ix j9))) = 0 then 0 else 1) else (if G1 10 (ix j9) = 2 then (if G1 8 (ix (G1 14 (ix j9))) = 0 then 0 else 1) else 0)) → ¬ (V 1 ≤ j9) → WW z 0 0 (WM (zk z) ad G2 V) 2 [(0, .ref (ad 0)), (1, .int (j9 + 1))] []) :
    WW z 0 0 (WM (zk z) ad G V) 2 [(0, .ref (ad 0)), (1, .int j9)] [] := by
  refine r_iload_n E (q := 3) 1 dX6_look_2 rfl rfl rfl ?_
  refine r_aload_n E (q := 4) 0 dX6_look_3 rfl rfl rfl ?_
  refine r_get E (q := 7) fX6_120 0 wm_0 rfl dX6_look_4 rfl ?_
  refine r_icmp_ge E (q := 10) 68 dX6_look_7 (by decide) rfl (fun c1 => ?_) (fun c1 => ?_)
  · refine r_iconst E (q := 69) (v := 1) dX6_look_68 (by decide) rfl ?_
    refine r_istore_n E (q := 70) (lv' := [(0, .ref (ad 0)), (1, .int 1)]) [1, 0] dX6_look_69 rfl (by rw [hz]; decide) rfl rfl ?_
    exact k1 c1
  · refine r_aload_n E (q := 11) 0 dX6_look_10 rfl rfl rfl ?_
    refine r_get E (q := 14) fX6_53 0 wm_0 rfl dX6_look_11 rfl ?_
    refine r_iload_n E (q := 15) 1 dX6_look_14 rfl rfl rfl ?_
    refine r_iconst E (q := 16) (v := (-1)) dX6_look_15 (by decide) rfl ?_
    refine r_iast E (q := 17) 15 wm_15 (hj (by assumption)) wmu_15 dX6_look_16 rfl ?_
    refine r_nGM (fun G1 eG1 => ?_)
    refine r_aload_n E (q := 18) 0 dX6_look_17 rfl rfl rfl ?_
    refine r_get E (q := 21) fX6_56 0 wm_0 rfl dX6_look_18 rfl ?_
    refine r_iload_n E (q := 22) 1 dX6_look_21 rfl rfl rfl ?_
    refine r_aload_n E (q := 23) 0 dX6_look_22 rfl rfl rfl ?_
    refine r_get E (q := 26) fX6_38 0 wm_0 rfl dX6_look_23 rfl ?_
    refine r_iload_n E (q := 27) 1 dX6_look_26 rfl rfl rfl ?_
    refine r_iald E (q := 28) 10 wm_10 (hj (by assumption)) dX6_look_27 rfl ?_
    refine r_iconst E (q := 29) (v := 1) dX6_look_28 (by decide) rfl ?_
    refine r_join 61 (if G1 10 (ix j9) = 1 then (if G1 8 (ix (G1 14 (ix j9))) = 0 then 0 else 1) else (if G1 10 (ix j9) = 2 then (if G1 8 (ix (G1 14 (ix j9))) = 0 then 0 else 1) else 0)) (rest := [.int j9, .ref (ad 16)]) ?_ (fun hj1 => ?_)
    · refine r_zast E (q := 62) 16 wm_16 (hj (by assumption)) (nar_b (b01 (b01 (Or.inl rfl) (Or.inr rfl)) (b01 (b01 (Or.inl rfl) (Or.inr rfl)) (Or.inl rfl)))) wmu_16 dX6_look_61 rfl ?_
      refine r_nGM (fun G2 eG2 => ?_)
      refine r_iinc E (q := 65) (v := j9 + 1) (lv' := [(0, .ref (ad 0)), (1, .int (j9 + 1))]) 1 [1, 0] dX6_look_62 rfl (by rfl) (by rw [hz]; decide) rfl rfl ?_
      refine r_goto E 2 dX6_look_65 (by decide) ?_
      exact k2 G1 G2 eG1 eG2 c1
    · refine r_icmp_eq E (q := 32) 42 dX6_look_29 (by decide) rfl (fun c2 => ?_) (fun c2 => ?_)
      · refine r_aload_n E (q := 43) 0 dX6_look_42 rfl rfl rfl ?_
        refine r_get E (q := 46) fX6_31 0 wm_0 rfl dX6_look_43 rfl ?_
        refine r_aload_n E (q := 47) 0 dX6_look_46 rfl rfl rfl ?_
        refine r_get E (q := 50) fX6_50 0 wm_0 rfl dX6_look_47 rfl ?_
        refine r_iload_n E (q := 51) 1 dX6_look_50 rfl rfl rfl ?_
        refine r_iald E (q := 52) 14 wm_14 (hj (by assumption)) dX6_look_51 rfl ?_
        refine r_zald E (q := 53) 8 wm_8 (by subst_vars; simp only [ug_other (show (10 : Nat) ≠ 15 by decide), ug_other (show (14 : Nat) ≠ 15 by decide)] at *; exact hv (by assumption) (by first | exact Or.inl (by assumption) | exact Or.inr (by assumption))) dX6_look_52 rfl ?_
        refine r_if_eq E (q := 56) 60 dX6_look_53 (by decide) rfl (fun c3 => ?_) (fun c3 => ?_)
        · refine r_iconst E (q := 61) (v := 0) dX6_look_60 (by decide) rfl ?_
          exact hj1 _ ((if_pos c2).trans (if_pos c3)).symm
        · refine r_iconst E (q := 57) (v := 1) dX6_look_56 (by decide) rfl ?_
          refine r_goto E 61 dX6_look_57 (by decide) ?_
          exact hj1 _ ((if_pos c2).trans (if_neg c3)).symm
      · refine r_aload_n E (q := 33) 0 dX6_look_32 rfl rfl rfl ?_
        refine r_get E (q := 36) fX6_38 0 wm_0 rfl dX6_look_33 rfl ?_
        refine r_iload_n E (q := 37) 1 dX6_look_36 rfl rfl rfl ?_
        refine r_iald E (q := 38) 10 wm_10 (hj (by assumption)) dX6_look_37 rfl ?_
        refine r_iconst E (q := 39) (v := 2) dX6_look_38 (by decide) rfl ?_
        refine r_icmp_ne E (q := 42) 60 dX6_look_39 (by decide) rfl (fun c4 => ?_) (fun c4 => ?_)
        · refine r_iconst E (q := 61) (v := 0) dX6_look_60 (by decide) rfl ?_
          exact hj1 _ ((if_neg c2).trans (if_neg c4)).symm
        · refine r_aload_n E (q := 43) 0 dX6_look_42 rfl rfl rfl ?_
          refine r_get E (q := 46) fX6_31 0 wm_0 rfl dX6_look_43 rfl ?_
          refine r_aload_n E (q := 47) 0 dX6_look_46 rfl rfl rfl ?_
          refine r_get E (q := 50) fX6_50 0 wm_0 rfl dX6_look_47 rfl ?_
          refine r_iload_n E (q := 51) 1 dX6_look_50 rfl rfl rfl ?_
          refine r_iald E (q := 52) 14 wm_14 (hj (by assumption)) dX6_look_51 rfl ?_
          refine r_zald E (q := 53) 8 wm_8 (by subst_vars; simp only [ug_other (show (10 : Nat) ≠ 15 by decide), ug_other (show (14 : Nat) ≠ 15 by decide)] at *; exact hv (by assumption) (by first | exact Or.inl (by assumption) | exact Or.inr (by assumption))) dX6_look_52 rfl ?_
          refine r_if_eq E (q := 56) 60 dX6_look_53 (by decide) rfl (fun c5 => ?_) (fun c5 => ?_)
          · refine r_iconst E (q := 61) (v := 0) dX6_look_60 (by decide) rfl ?_
            exact hj1 _ ((if_neg c2).trans ((if_pos c4).trans (if_pos c5))).symm
          · refine r_iconst E (q := 57) (v := 1) dX6_look_56 (by decide) rfl ?_
            refine r_goto E 61 dX6_look_57 (by decide) ?_
            exact hj1 _ ((if_neg c2).trans ((if_pos c4).trans (if_neg c5))).symm
def lkB (G : Nat → Nat → Int32) (j9 : Int32) : Int32 := if G 15 (ix j9) = (-1) then (fX6_bound G j9) else (-1)
def lkW (G : Nat → Nat → Int32) (j9 : Int32) : Int32 := if G 16 (ix j9) = 0 then (if G 10 (ix j9) = 0 then (if fX6_isTwo (G 10 (ix j9)) = 0 then 0 else (if G 16 (ix (G 12 (ix j9))) = 0 then 0 else 1)) else (if G 16 (ix (G 11 (ix j9))) = 0 then (if fX6_isTwo (G 10 (ix j9)) = 0 then 0 else (if G 16 (ix (G 12 (ix j9))) = 0 then 0 else 1)) else 1)) else 0
def lkM (G : Nat → Nat → Int32) (j9 m9 : Int32) : Int32 := if m9 = 0 then (if lkB G j9 = (-1) then (if lkW G j9 = 0 then 0 else 1) else 1) else 1
theorem lkW_b (G : Nat → Nat → Int32) (j9 : Int32) : lkW G j9 = 0 ∨ lkW G j9 = 1 := by
  unfold lkW; repeat' split
  all_goals first | exact Or.inl rfl | exact Or.inr rfl
theorem lkM_b (G : Nat → Nat → Int32) (j9 m9 : Int32) : lkM G j9 m9 = 0 ∨ lkM G j9 m9 = 1 := by
  unfold lkM; repeat' split
  all_goals first | exact Or.inl rfl | exact Or.inr rfl
set_option maxRecDepth 100000 in
set_option maxHeartbeats 800000 in
theorem lk_c {z : Zt} (E : EN z cX6_look RX6) {w0 : va_W} {P : Option Value → va_W → Prop} {lvl : Nat} (T : RT z none lvl w0 P 0 0) (hz : zn z = 5) {ad : Nat → Nat} {G : Nat → Nat → Int32} {V : Nat → Int32} (hlv : 2 ≤ lvl) (m9 j9 : Int32) (hj : ¬ V 1 ≤ j9 → vp_in j9 60) (hA : ¬ V 1 ≤ j9 → ¬ G 10 (ix j9) = 0 → vp_in (G 11 (ix j9)) 60) (hB : ¬ V 1 ≤ j9 → ¬ fX6_isTwo (G 10 (ix j9)) = 0 → vp_in (G 12 (ix j9)) 60) 
    (k1 : V 1 ≤ j9 → WW z 0 0 (WM (zk z) ad G V) 70 [(0, .ref (ad 0)), (1, .int m9)] []) 
    (k2 : ∀ (G1 G2 : Nat → Nat → Int32), G1 = ug G 15 (ix j9) (if lkB G j9 = (-1) then (G 15 (ix j9)) else (lkB G j9)) → G2 = ug G1 16 (ix j9) (if G1 16 (ix j9) = 0 then (if lkW G j9 = 0 then 0 else 1) else 1) → ¬ (V 1 ≤ j9) → WW z 0 0 (WM (zk z) ad G2 V) 78 [(0, .ref (ad 0)), (1, .int (lkM G j9 m9)), (2, .int (j9 + 1))] []) :
    WW z 0 0 (WM (zk z) ad G V) 78 [(0, .ref (ad 0)), (1, .int m9), (2, .int j9)] [] := by
  refine r_iload_n E (q := 79) 2 dX6_look_78 rfl rfl rfl ?_
  refine r_aload_n E (q := 80) 0 dX6_look_79 rfl rfl rfl ?_
  refine r_get E (q := 83) fX6_120 0 wm_0 rfl dX6_look_80 rfl ?_
  refine r_icmp_ge E (q := 86) 243 dX6_look_83 (by decide) rfl (fun c1 => ?_) (fun c1 => ?_)
  · refine r_goto E 70 dX6_look_243 (by decide) ?_
    refine r_sub [0, 1] rfl ?_
    exact k1 c1
  · refine r_aload_n E (q := 87) 0 dX6_look_86 rfl rfl rfl ?_
    refine r_get E (q := 90) fX6_53 0 wm_0 rfl dX6_look_87 rfl ?_
    refine r_iload_n E (q := 91) 2 dX6_look_90 rfl rfl rfl ?_
    refine r_iald E (q := 92) 15 wm_15 (hj (by assumption)) dX6_look_91 rfl ?_
    refine r_iconst E (q := 93) (v := (-1)) dX6_look_92 (by decide) rfl ?_
    refine r_join 105 (if G 15 (ix j9) = (-1) then (fX6_bound G j9) else (-1)) (rest := []) ?_ (fun hj1 => ?_)
    · refine r_v (show _ = lkB G j9 from rfl) ?_
      refine r_istore_n E (q := 106) (lv' := [(0, .ref (ad 0)), (1, .int m9), (2, .int j9), (3, .int (lkB G j9))]) [1, 2, 3, 0] dX6_look_105 rfl (by rw [hz]; decide) rfl rfl ?_
      refine r_aload_n E (q := 107) 0 dX6_look_106 rfl rfl rfl ?_
      refine r_get E (q := 110) fX6_56 0 wm_0 rfl dX6_look_107 rfl ?_
      refine r_iload_n E (q := 111) 2 dX6_look_110 rfl rfl rfl ?_
      refine r_zald E (q := 112) 16 wm_16 (hj (by assumption)) dX6_look_111 rfl ?_
      refine r_join 169 (if G 16 (ix j9) = 0 then (if G 10 (ix j9) = 0 then (if fX6_isTwo (G 10 (ix j9)) = 0 then 0 else (if G 16 (ix (G 12 (ix j9))) = 0 then 0 else 1)) else (if G 16 (ix (G 11 (ix j9))) = 0 then (if fX6_isTwo (G 10 (ix j9)) = 0 then 0 else (if G 16 (ix (G 12 (ix j9))) = 0 then 0 else 1)) else 1)) else 0) (rest := []) ?_ (fun hj2 => ?_)
      · refine r_v (show _ = lkW G j9 from rfl) ?_
        refine r_istore E (q := 171) (lv' := [(0, .ref (ad 0)), (1, .int m9), (2, .int j9), (3, .int (lkB G j9)), (4, .int (lkW G j9))]) [1, 2, 3, 4, 0] dX6_look_169 (by rw [hz]; decide) rfl rfl ?_
        refine r_iload_n E (q := 172) 1 dX6_look_171 rfl rfl rfl ?_
        refine r_join 190 (if m9 = 0 then (if lkB G j9 = (-1) then (if lkW G j9 = 0 then 0 else 1) else 1) else 1) (rest := []) ?_ (fun hj3 => ?_)
        · refine r_v (show _ = lkM G j9 m9 from rfl) ?_
          refine r_istore_n E (q := 191) (lv' := [(0, .ref (ad 0)), (1, .int (lkM G j9 m9)), (2, .int j9), (3, .int (lkB G j9)), (4, .int (lkW G j9))]) [1, 0, 2, 3, 4] dX6_look_190 rfl (by rw [hz]; decide) rfl rfl ?_
          refine r_aload_n E (q := 192) 0 dX6_look_191 rfl rfl rfl ?_
          refine r_get E (q := 195) fX6_53 0 wm_0 rfl dX6_look_192 rfl ?_
          refine r_iload_n E (q := 196) 2 dX6_look_195 rfl rfl rfl ?_
          refine r_iload_n E (q := 197) 3 dX6_look_196 rfl rfl rfl ?_
          refine r_iconst E (q := 198) (v := (-1)) dX6_look_197 (by decide) rfl ?_
          refine r_join 211 (if lkB G j9 = (-1) then (G 15 (ix j9)) else (lkB G j9)) (rest := [.int j9, .ref (ad 15)]) ?_ (fun hj4 => ?_)
          · refine r_iast E (q := 212) 15 wm_15 (hj (by assumption)) wmu_15 dX6_look_211 rfl ?_
            refine r_nGM (fun G1 eG1 => ?_)
            refine r_aload_n E (q := 213) 0 dX6_look_212 rfl rfl rfl ?_
            refine r_get E (q := 216) fX6_56 0 wm_0 rfl dX6_look_213 rfl ?_
            refine r_iload_n E (q := 217) 2 dX6_look_216 rfl rfl rfl ?_
            refine r_aload_n E (q := 218) 0 dX6_look_217 rfl rfl rfl ?_
            refine r_get E (q := 221) fX6_56 0 wm_0 rfl dX6_look_218 rfl ?_
            refine r_iload_n E (q := 222) 2 dX6_look_221 rfl rfl rfl ?_
            refine r_zald E (q := 223) 16 wm_16 (hj (by assumption)) dX6_look_222 rfl ?_
            refine r_join 236 (if G1 16 (ix j9) = 0 then (if lkW G j9 = 0 then 0 else 1) else 1) (rest := [.int j9, .ref (ad 16)]) ?_ (fun hj5 => ?_)
            · refine r_zast E (q := 237) 16 wm_16 (hj (by assumption)) (nar_b (b01 (b01 (Or.inl rfl) (Or.inr rfl)) (Or.inr rfl))) wmu_16 dX6_look_236 rfl ?_
              refine r_nGM (fun G2 eG2 => ?_)
              refine r_iinc E (q := 240) (v := j9 + 1) (lv' := [(0, .ref (ad 0)), (1, .int (lkM G j9 m9)), (2, .int (j9 + 1)), (3, .int (lkB G j9)), (4, .int (lkW G j9))]) 2 [1, 2, 0, 3, 4] dX6_look_237 rfl (by rfl) (by rw [hz]; decide) rfl rfl ?_
              refine r_goto E 78 dX6_look_240 (by decide) ?_
              refine r_sub [0, 1, 2] rfl ?_
              exact k2 G1 G2 eG1 eG2 c1
            · refine r_if_ne E (q := 226) 231 dX6_look_223 (by decide) rfl (fun c14 => ?_) (fun c14 => ?_)
              · refine r_iconst E (q := 232) (v := 1) dX6_look_231 (by decide) rfl ?_
                refine r_goto E 236 dX6_look_232 (by decide) ?_
                exact hj5 _ (if_neg c14).symm
              · refine r_iload E (q := 228) 4 dX6_look_226 rfl rfl ?_
                refine r_if_eq E (q := 231) 235 dX6_look_228 (by decide) rfl (fun c15 => ?_) (fun c15 => ?_)
                · refine r_iconst E (q := 236) (v := 0) dX6_look_235 (by decide) rfl ?_
                  exact hj5 _ ((if_pos c14).trans (if_pos c15)).symm
                · refine r_iconst E (q := 232) (v := 1) dX6_look_231 (by decide) rfl ?_
                  refine r_goto E 236 dX6_look_232 (by decide) ?_
                  exact hj5 _ ((if_pos c14).trans (if_neg c15)).symm
          · refine r_icmp_eq E (q := 201) 205 dX6_look_198 (by decide) rfl (fun c13 => ?_) (fun c13 => ?_)
            · refine r_aload_n E (q := 206) 0 dX6_look_205 rfl rfl rfl ?_
              refine r_get E (q := 209) fX6_53 0 wm_0 rfl dX6_look_206 rfl ?_
              refine r_iload_n E (q := 210) 2 dX6_look_209 rfl rfl rfl ?_
              refine r_iald E (q := 211) 15 wm_15 (hj (by assumption)) dX6_look_210 rfl ?_
              exact hj4 _ (if_pos c13).symm
            · refine r_iload_n E (q := 202) 3 dX6_look_201 rfl rfl rfl ?_
              refine r_goto E 211 dX6_look_202 (by decide) ?_
              exact hj4 _ (if_neg c13).symm
        · refine r_if_ne E (q := 175) 185 dX6_look_172 (by decide) rfl (fun c10 => ?_) (fun c10 => ?_)
          · refine r_iconst E (q := 186) (v := 1) dX6_look_185 (by decide) rfl ?_
            refine r_goto E 190 dX6_look_186 (by decide) ?_
            exact hj3 _ (if_neg c10).symm
          · refine r_iload_n E (q := 176) 3 dX6_look_175 rfl rfl rfl ?_
            refine r_iconst E (q := 177) (v := (-1)) dX6_look_176 (by decide) rfl ?_
            refine r_icmp_ne E (q := 180) 185 dX6_look_177 (by decide) rfl (fun c11 => ?_) (fun c11 => ?_)
            · refine r_iconst E (q := 186) (v := 1) dX6_look_185 (by decide) rfl ?_
              refine r_goto E 190 dX6_look_186 (by decide) ?_
              exact hj3 _ ((if_pos c10).trans (if_neg c11)).symm
            · refine r_iload E (q := 182) 4 dX6_look_180 rfl rfl ?_
              refine r_if_eq E (q := 185) 189 dX6_look_182 (by decide) rfl (fun c12 => ?_) (fun c12 => ?_)
              · refine r_iconst E (q := 190) (v := 0) dX6_look_189 (by decide) rfl ?_
                exact hj3 _ ((if_pos c10).trans ((if_pos c11).trans (if_pos c12))).symm
              · refine r_iconst E (q := 186) (v := 1) dX6_look_185 (by decide) rfl ?_
                refine r_goto E 190 dX6_look_186 (by decide) ?_
                exact hj3 _ ((if_pos c10).trans ((if_pos c11).trans (if_neg c12))).symm
      · refine r_if_ne E (q := 115) 168 dX6_look_112 (by decide) rfl (fun c3 => ?_) (fun c3 => ?_)
        · refine r_iconst E (q := 169) (v := 0) dX6_look_168 (by decide) rfl ?_
          exact hj2 _ (if_neg c3).symm
        · refine r_aload_n E (q := 116) 0 dX6_look_115 rfl rfl rfl ?_
          refine r_get E (q := 119) fX6_38 0 wm_0 rfl dX6_look_116 rfl ?_
          refine r_iload_n E (q := 120) 2 dX6_look_119 rfl rfl rfl ?_
          refine r_iald E (q := 121) 10 wm_10 (hj (by assumption)) dX6_look_120 rfl ?_
          refine r_if_eq E (q := 124) 138 dX6_look_121 (by decide) rfl (fun c4 => ?_) (fun c4 => ?_)
          · refine r_aload_n E (q := 139) 0 dX6_look_138 rfl rfl rfl ?_
            refine r_get E (q := 142) fX6_38 0 wm_0 rfl dX6_look_139 rfl ?_
            refine r_iload_n E (q := 143) 2 dX6_look_142 rfl rfl rfl ?_
            refine r_iald E (q := 144) 10 wm_10 (hj (by assumption)) dX6_look_143 rfl ?_
            refine rSi E (q := 147) csX6_129 T.rr [.int (G 10 (ix j9))] (c_X6_isTwo (G 10 (ix j9))) (by omega) rfl rfl (Nat.le_of_ble_eq_true rfl) ⟨Nat.zero_le _, Nat.zero_le _⟩ dX6_look_144 rfl ?_
            refine r_if_eq E (q := 150) 168 dX6_look_147 (by decide) rfl (fun c5 => ?_) (fun c5 => ?_)
            · refine r_iconst E (q := 169) (v := 0) dX6_look_168 (by decide) rfl ?_
              exact hj2 _ ((if_pos c3).trans ((if_pos c4).trans (if_pos c5))).symm
            · refine r_aload_n E (q := 151) 0 dX6_look_150 rfl rfl rfl ?_
              refine r_get E (q := 154) fX6_56 0 wm_0 rfl dX6_look_151 rfl ?_
              refine r_aload_n E (q := 155) 0 dX6_look_154 rfl rfl rfl ?_
              refine r_get E (q := 158) fX6_44 0 wm_0 rfl dX6_look_155 rfl ?_
              refine r_iload_n E (q := 159) 2 dX6_look_158 rfl rfl rfl ?_
              refine r_iald E (q := 160) 12 wm_12 (hj (by assumption)) dX6_look_159 rfl ?_
              refine r_zald E (q := 161) 16 wm_16 (hB (by assumption) (by assumption)) dX6_look_160 rfl ?_
              refine r_if_eq E (q := 164) 168 dX6_look_161 (by decide) rfl (fun c6 => ?_) (fun c6 => ?_)
              · refine r_iconst E (q := 169) (v := 0) dX6_look_168 (by decide) rfl ?_
                exact hj2 _ ((if_pos c3).trans ((if_pos c4).trans ((if_neg c5).trans (if_pos c6)))).symm
              · refine r_iconst E (q := 165) (v := 1) dX6_look_164 (by decide) rfl ?_
                refine r_goto E 169 dX6_look_165 (by decide) ?_
                exact hj2 _ ((if_pos c3).trans ((if_pos c4).trans ((if_neg c5).trans (if_neg c6)))).symm
          · refine r_aload_n E (q := 125) 0 dX6_look_124 rfl rfl rfl ?_
            refine r_get E (q := 128) fX6_56 0 wm_0 rfl dX6_look_125 rfl ?_
            refine r_aload_n E (q := 129) 0 dX6_look_128 rfl rfl rfl ?_
            refine r_get E (q := 132) fX6_41 0 wm_0 rfl dX6_look_129 rfl ?_
            refine r_iload_n E (q := 133) 2 dX6_look_132 rfl rfl rfl ?_
            refine r_iald E (q := 134) 11 wm_11 (hj (by assumption)) dX6_look_133 rfl ?_
            refine r_zald E (q := 135) 16 wm_16 (hA (by assumption) (by assumption)) dX6_look_134 rfl ?_
            refine r_if_ne E (q := 138) 164 dX6_look_135 (by decide) rfl (fun c7 => ?_) (fun c7 => ?_)
            · refine r_iconst E (q := 165) (v := 1) dX6_look_164 (by decide) rfl ?_
              refine r_goto E 169 dX6_look_165 (by decide) ?_
              exact hj2 _ ((if_pos c3).trans ((if_neg c4).trans (if_neg c7))).symm
            · refine r_aload_n E (q := 139) 0 dX6_look_138 rfl rfl rfl ?_
              refine r_get E (q := 142) fX6_38 0 wm_0 rfl dX6_look_139 rfl ?_
              refine r_iload_n E (q := 143) 2 dX6_look_142 rfl rfl rfl ?_
              refine r_iald E (q := 144) 10 wm_10 (hj (by assumption)) dX6_look_143 rfl ?_
              refine rSi E (q := 147) csX6_129 T.rr [.int (G 10 (ix j9))] (c_X6_isTwo (G 10 (ix j9))) (by omega) rfl rfl (Nat.le_of_ble_eq_true rfl) ⟨Nat.zero_le _, Nat.zero_le _⟩ dX6_look_144 rfl ?_
              refine r_if_eq E (q := 150) 168 dX6_look_147 (by decide) rfl (fun c8 => ?_) (fun c8 => ?_)
              · refine r_iconst E (q := 169) (v := 0) dX6_look_168 (by decide) rfl ?_
                exact hj2 _ ((if_pos c3).trans ((if_neg c4).trans ((if_pos c7).trans (if_pos c8)))).symm
              · refine r_aload_n E (q := 151) 0 dX6_look_150 rfl rfl rfl ?_
                refine r_get E (q := 154) fX6_56 0 wm_0 rfl dX6_look_151 rfl ?_
                refine r_aload_n E (q := 155) 0 dX6_look_154 rfl rfl rfl ?_
                refine r_get E (q := 158) fX6_44 0 wm_0 rfl dX6_look_155 rfl ?_
                refine r_iload_n E (q := 159) 2 dX6_look_158 rfl rfl rfl ?_
                refine r_iald E (q := 160) 12 wm_12 (hj (by assumption)) dX6_look_159 rfl ?_
                refine r_zald E (q := 161) 16 wm_16 (hB (by assumption) (by assumption)) dX6_look_160 rfl ?_
                refine r_if_eq E (q := 164) 168 dX6_look_161 (by decide) rfl (fun c9 => ?_) (fun c9 => ?_)
                · refine r_iconst E (q := 169) (v := 0) dX6_look_168 (by decide) rfl ?_
                  exact hj2 _ ((if_pos c3).trans ((if_neg c4).trans ((if_pos c7).trans ((if_neg c8).trans (if_pos c9))))).symm
                · refine r_iconst E (q := 165) (v := 1) dX6_look_164 (by decide) rfl ?_
                  refine r_goto E 169 dX6_look_165 (by decide) ?_
                  exact hj2 _ ((if_pos c3).trans ((if_neg c4).trans ((if_pos c7).trans ((if_neg c8).trans (if_neg c9))))).symm
    · refine r_icmp_ne E (q := 96) 104 dX6_look_93 (by decide) rfl (fun c2 => ?_) (fun c2 => ?_)
      · refine r_iconst E (q := 105) (v := (-1)) dX6_look_104 (by decide) rfl ?_
        exact hj1 _ (if_neg c2).symm
      · refine r_aload_n E (q := 97) 0 dX6_look_96 rfl rfl rfl ?_
        refine r_iload_n E (q := 98) 2 dX6_look_97 rfl rfl rfl ?_
        refine rVi E (q := 101) cvX6_132 T.rr 0 wm_0 rfl [.int j9] (c_X6_bound j9 (hj (by assumption)) (hA (by assumption)) (hB (by assumption))) (by omega) rfl rfl (Nat.le_of_ble_eq_true rfl) ⟨Nat.zero_le _, Nat.zero_le _⟩ dX6_look_98 rfl ?_
        refine r_goto E 105 dX6_look_101 (by decide) ?_
        exact hj1 _ (if_pos c2).symm
set_option maxRecDepth 100000 in
set_option maxHeartbeats 800000 in
theorem lk_d {z : Zt} (E : EN z cX6_look RX6) {w0 : va_W} {P : Option Value → va_W → Prop} {lvl : Nat} (T : RT z none lvl w0 P 0 0) (hz : zn z = 5) {ad : Nat → Nat} {G : Nat → Nat → Int32} {V : Nat → Int32} (hlv : 2 ≤ lvl) (m9 : Int32) 
    (k1 : m9 = 0 → P none (WM (zk z) ad G V)) 
    (k2 : ¬ (m9 = 0) → WW z 0 0 (WM (zk z) ad G V) 78 [(0, .ref (ad 0)), (1, .int 0), (2, .int 0)] []) :
    WW z 0 0 (WM (zk z) ad G V) 70 [(0, .ref (ad 0)), (1, .int m9)] [] := by
  refine r_iload_n E (q := 71) 1 dX6_look_70 rfl rfl rfl ?_
  refine r_if_eq E (q := 74) 246 dX6_look_71 (by decide) rfl (fun c1 => ?_) (fun c1 => ?_)
  · exact r_vret E T dX6_look_246 (k1 c1)
  · refine r_iconst E (q := 75) (v := 0) dX6_look_74 (by decide) rfl ?_
    refine r_istore_n E (q := 76) (lv' := [(0, .ref (ad 0)), (1, .int 0)]) [1, 0] dX6_look_75 rfl (by rw [hz]; decide) rfl rfl ?_
    refine r_iconst E (q := 77) (v := 0) dX6_look_76 (by decide) rfl ?_
    refine r_istore_n E (q := 78) (lv' := [(0, .ref (ad 0)), (1, .int 0), (2, .int 0)]) [1, 2, 0] dX6_look_77 rfl (by rw [hz]; decide) rfl rfl ?_
    exact k2 c1

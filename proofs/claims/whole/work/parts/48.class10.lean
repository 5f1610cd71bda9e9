set_option maxRecDepth 100000 in
set_option maxHeartbeats 800000 in
theorem wk_0 {z : Zt} (E : EN z cX3_work RX3) {w0 : va_W} {P : Option Value → va_W → Prop} {lvl : Nat} {mc9 ms9 : Nat} (T : RT z none lvl w0 P mc9 ms9) (hz : zn z = 3) {ad : Nat → Nat} {G : Nat → Nat → Int32} {V : Nat → Int32} {n : Nat} {c9 s9 : Nat} (hcs : c9 ≤ mc9 ∧ s9 ≤ ms9) (x : Int32) (hk : G 13 (ix x) = 0) 
    (o1 : vp_in x 60)
    (k1 : WW z c9 s9 (WC (zk z) ad G V n) 66 [(0, .ref (ad 23)), (1, .int x), (2, .int (G 14 (ix x)))] [.int (G 14 (ix x)), .ref (ad 23)]) :
    WW z c9 s9 (WC (zk z) ad G V n) 0 [(0, .ref (ad 23)), (1, .int x)] [] := by
  refine r_aload_n E (q := 1) 0 dX3_work_0 rfl rfl rfl ?_
  refine r_get E (q := 4) fX3_35 23 wc_23 rfl dX3_work_1 rfl ?_
  refine r_get E (q := 7) fX3_68 12 wc_12 rfl dX3_work_4 rfl ?_
  refine r_iload_n E (q := 8) 1 dX3_work_7 rfl rfl rfl ?_
  refine r_iald E (q := 9) 14 wc_14 o1 dX3_work_8 rfl ?_
  refine r_istore_n E (q := 10) (lv' := [(0, .ref (ad 23)), (1, .int x), (2, .int (G 14 (ix x)))]) [1, 2, 0] dX3_work_9 rfl (by rw [hz]; decide) rfl rfl ?_
  refine r_aload_n E (q := 11) 0 dX3_work_10 rfl rfl rfl ?_
  refine r_get E (q := 14) fX3_35 23 wc_23 rfl dX3_work_11 rfl ?_
  refine r_get E (q := 17) fX3_71 12 wc_12 rfl dX3_work_14 rfl ?_
  refine r_iload_n E (q := 18) 1 dX3_work_17 rfl rfl rfl ?_
  refine r_iald E (q := 19) 13 wc_13 o1 dX3_work_18 rfl ?_
  refine r_tabIn E 0 hk 64 dX3_work_19 (by decide) (by rfl) (by decide) ?_
  refine r_aload_n E (q := 65) 0 dX3_work_64 rfl rfl rfl ?_
  refine r_iload_n E (q := 66) 2 dX3_work_65 rfl rfl rfl ?_
  exact k1 
set_option maxRecDepth 100000 in
set_option maxHeartbeats 800000 in
theorem wk_1 {z : Zt} (E : EN z cX3_work RX3) {w0 : va_W} {P : Option Value → va_W → Prop} {lvl : Nat} {mc9 ms9 : Nat} (T : RT z none lvl w0 P mc9 ms9) (hz : zn z = 3) {ad : Nat → Nat} {G : Nat → Nat → Int32} {V : Nat → Int32} {n : Nat} {c9 s9 : Nat} (hcs : c9 ≤ mc9 ∧ s9 ≤ ms9) (x : Int32) (hk : G 13 (ix x) = 1) 
    (o1 : vp_in x 60)
    (k1 : WW z c9 s9 (WC (zk z) ad G V n) 83 [(0, .ref (ad 23)), (1, .int x), (2, .int (G 14 (ix x)))] [.int (G 17 (ix x)), .int (G 14 (ix x)), .ref (ad 23)]) :
    WW z c9 s9 (WC (zk z) ad G V n) 0 [(0, .ref (ad 23)), (1, .int x)] [] := by
  refine r_aload_n E (q := 1) 0 dX3_work_0 rfl rfl rfl ?_
  refine r_get E (q := 4) fX3_35 23 wc_23 rfl dX3_work_1 rfl ?_
  refine r_get E (q := 7) fX3_68 12 wc_12 rfl dX3_work_4 rfl ?_
  refine r_iload_n E (q := 8) 1 dX3_work_7 rfl rfl rfl ?_
  refine r_iald E (q := 9) 14 wc_14 o1 dX3_work_8 rfl ?_
  refine r_istore_n E (q := 10) (lv' := [(0, .ref (ad 23)), (1, .int x), (2, .int (G 14 (ix x)))]) [1, 2, 0] dX3_work_9 rfl (by rw [hz]; decide) rfl rfl ?_
  refine r_aload_n E (q := 11) 0 dX3_work_10 rfl rfl rfl ?_
  refine r_get E (q := 14) fX3_35 23 wc_23 rfl dX3_work_11 rfl ?_
  refine r_get E (q := 17) fX3_71 12 wc_12 rfl dX3_work_14 rfl ?_
  refine r_iload_n E (q := 18) 1 dX3_work_17 rfl rfl rfl ?_
  refine r_iald E (q := 19) 13 wc_13 o1 dX3_work_18 rfl ?_
  refine r_tabIn E 1 hk 72 dX3_work_19 (by decide) (by rfl) (by decide) ?_
  refine r_aload_n E (q := 73) 0 dX3_work_72 rfl rfl rfl ?_
  refine r_iload_n E (q := 74) 2 dX3_work_73 rfl rfl rfl ?_
  refine r_aload_n E (q := 75) 0 dX3_work_74 rfl rfl rfl ?_
  refine r_get E (q := 78) fX3_35 23 wc_23 rfl dX3_work_75 rfl ?_
  refine r_get E (q := 81) fX3_77 12 wc_12 rfl dX3_work_78 rfl ?_
  refine r_iload_n E (q := 82) 1 dX3_work_81 rfl rfl rfl ?_
  refine r_iald E (q := 83) 17 wc_17 o1 dX3_work_82 rfl ?_
  exact k1 
set_option maxRecDepth 100000 in
set_option maxHeartbeats 800000 in
theorem wk_2 {z : Zt} (E : EN z cX3_work RX3) {w0 : va_W} {P : Option Value → va_W → Prop} {lvl : Nat} {mc9 ms9 : Nat} (T : RT z none lvl w0 P mc9 ms9) (hz : zn z = 3) {ad : Nat → Nat} {G : Nat → Nat → Int32} {V : Nat → Int32} {n : Nat} {c9 s9 : Nat} (hcs : c9 ≤ mc9 ∧ s9 ≤ ms9) (x : Int32) (hk : G 13 (ix x) = 2) 
    (o1 : vp_in x 60)
    (k1 : WW z c9 s9 (WC (zk z) ad G V n) 109 [(0, .ref (ad 23)), (1, .int x), (2, .int (G 14 (ix x)))] [.int (G 17 (ix x)), .int (G 16 (ix x)), .int (G 14 (ix x)), .ref (ad 23)]) :
    WW z c9 s9 (WC (zk z) ad G V n) 0 [(0, .ref (ad 23)), (1, .int x)] [] := by
  refine r_aload_n E (q := 1) 0 dX3_work_0 rfl rfl rfl ?_
  refine r_get E (q := 4) fX3_35 23 wc_23 rfl dX3_work_1 rfl ?_
  refine r_get E (q := 7) fX3_68 12 wc_12 rfl dX3_work_4 rfl ?_
  refine r_iload_n E (q := 8) 1 dX3_work_7 rfl rfl rfl ?_
  refine r_iald E (q := 9) 14 wc_14 o1 dX3_work_8 rfl ?_
  refine r_istore_n E (q := 10) (lv' := [(0, .ref (ad 23)), (1, .int x), (2, .int (G 14 (ix x)))]) [1, 2, 0] dX3_work_9 rfl (by rw [hz]; decide) rfl rfl ?_
  refine r_aload_n E (q := 11) 0 dX3_work_10 rfl rfl rfl ?_
  refine r_get E (q := 14) fX3_35 23 wc_23 rfl dX3_work_11 rfl ?_
  refine r_get E (q := 17) fX3_71 12 wc_12 rfl dX3_work_14 rfl ?_
  refine r_iload_n E (q := 18) 1 dX3_work_17 rfl rfl rfl ?_
  refine r_iald E (q := 19) 13 wc_13 o1 dX3_work_18 rfl ?_
  refine r_tabIn E 2 hk 89 dX3_work_19 (by decide) (by rfl) (by decide) ?_
  refine r_aload_n E (q := 90) 0 dX3_work_89 rfl rfl rfl ?_
  refine r_iload_n E (q := 91) 2 dX3_work_90 rfl rfl rfl ?_
  refine r_aload_n E (q := 92) 0 dX3_work_91 rfl rfl rfl ?_
  refine r_get E (q := 95) fX3_35 23 wc_23 rfl dX3_work_92 rfl ?_
  refine r_get E (q := 98) fX3_84 12 wc_12 rfl dX3_work_95 rfl ?_
  refine r_iload_n E (q := 99) 1 dX3_work_98 rfl rfl rfl ?_
  refine r_iald E (q := 100) 16 wc_16 o1 dX3_work_99 rfl ?_
  refine r_aload_n E (q := 101) 0 dX3_work_100 rfl rfl rfl ?_
  refine r_get E (q := 104) fX3_35 23 wc_23 rfl dX3_work_101 rfl ?_
  refine r_get E (q := 107) fX3_77 12 wc_12 rfl dX3_work_104 rfl ?_
  refine r_iload_n E (q := 108) 1 dX3_work_107 rfl rfl rfl ?_
  refine r_iald E (q := 109) 17 wc_17 o1 dX3_work_108 rfl ?_
  exact k1 
set_option maxRecDepth 100000 in
set_option maxHeartbeats 800000 in
theorem wk_3 {z : Zt} (E : EN z cX3_work RX3) {w0 : va_W} {P : Option Value → va_W → Prop} {lvl : Nat} {mc9 ms9 : Nat} (T : RT z none lvl w0 P mc9 ms9) (hz : zn z = 3) {ad : Nat → Nat} {G : Nat → Nat → Int32} {V : Nat → Int32} {n : Nat} {c9 s9 : Nat} (hcs : c9 ≤ mc9 ∧ s9 ≤ ms9) (x : Int32) (hk : G 13 (ix x) = 3) 
    (o1 : vp_in x 60)
    (k1 : WW z c9 s9 (WC (zk z) ad G V n) 126 [(0, .ref (ad 23)), (1, .int x), (2, .int (G 14 (ix x)))] [.int (G 17 (ix x)), .int (G 14 (ix x)), .ref (ad 23)]) :
    WW z c9 s9 (WC (zk z) ad G V n) 0 [(0, .ref (ad 23)), (1, .int x)] [] := by
  refine r_aload_n E (q := 1) 0 dX3_work_0 rfl rfl rfl ?_
  refine r_get E (q := 4) fX3_35 23 wc_23 rfl dX3_work_1 rfl ?_
  refine r_get E (q := 7) fX3_68 12 wc_12 rfl dX3_work_4 rfl ?_
  refine r_iload_n E (q := 8) 1 dX3_work_7 rfl rfl rfl ?_
  refine r_iald E (q := 9) 14 wc_14 o1 dX3_work_8 rfl ?_
  refine r_istore_n E (q := 10) (lv' := [(0, .ref (ad 23)), (1, .int x), (2, .int (G 14 (ix x)))]) [1, 2, 0] dX3_work_9 rfl (by rw [hz]; decide) rfl rfl ?_
  refine r_aload_n E (q := 11) 0 dX3_work_10 rfl rfl rfl ?_
  refine r_get E (q := 14) fX3_35 23 wc_23 rfl dX3_work_11 rfl ?_
  refine r_get E (q := 17) fX3_71 12 wc_12 rfl dX3_work_14 rfl ?_
  refine r_iload_n E (q := 18) 1 dX3_work_17 rfl rfl rfl ?_
  refine r_iald E (q := 19) 13 wc_13 o1 dX3_work_18 rfl ?_
  refine r_tabIn E 3 hk 115 dX3_work_19 (by decide) (by rfl) (by decide) ?_
  refine r_aload_n E (q := 116) 0 dX3_work_115 rfl rfl rfl ?_
  refine r_iload_n E (q := 117) 2 dX3_work_116 rfl rfl rfl ?_
  refine r_aload_n E (q := 118) 0 dX3_work_117 rfl rfl rfl ?_
  refine r_get E (q := 121) fX3_35 23 wc_23 rfl dX3_work_118 rfl ?_
  refine r_get E (q := 124) fX3_77 12 wc_12 rfl dX3_work_121 rfl ?_
  refine r_iload_n E (q := 125) 1 dX3_work_124 rfl rfl rfl ?_
  refine r_iald E (q := 126) 17 wc_17 o1 dX3_work_125 rfl ?_
  exact k1 
set_option maxRecDepth 100000 in
set_option maxHeartbeats 800000 in
theorem wk_4 {z : Zt} (E : EN z cX3_work RX3) {w0 : va_W} {P : Option Value → va_W → Prop} {lvl : Nat} {mc9 ms9 : Nat} (T : RT z none lvl w0 P mc9 ms9) (hz : zn z = 3) {ad : Nat → Nat} {G : Nat → Nat → Int32} {V : Nat → Int32} {n : Nat} {c9 s9 : Nat} (hcs : c9 ≤ mc9 ∧ s9 ≤ ms9) (x : Int32) (hk : G 13 (ix x) = 4) 
    (o1 : vp_in x 60)
    (k1 : WW z c9 s9 (WC (zk z) ad G V n) 161 [(0, .ref (ad 23)), (1, .int x), (2, .int (G 14 (ix x)))] [.int (G 17 (ix x)), .int (G 16 (ix x)), .int (G 15 (ix x)), .int (G 14 (ix x)), .ref (ad 23)]) :
    WW z c9 s9 (WC (zk z) ad G V n) 0 [(0, .ref (ad 23)), (1, .int x)] [] := by
  refine r_aload_n E (q := 1) 0 dX3_work_0 rfl rfl rfl ?_
  refine r_get E (q := 4) fX3_35 23 wc_23 rfl dX3_work_1 rfl ?_
  refine r_get E (q := 7) fX3_68 12 wc_12 rfl dX3_work_4 rfl ?_
  refine r_iload_n E (q := 8) 1 dX3_work_7 rfl rfl rfl ?_
  refine r_iald E (q := 9) 14 wc_14 o1 dX3_work_8 rfl ?_
  refine r_istore_n E (q := 10) (lv' := [(0, .ref (ad 23)), (1, .int x), (2, .int (G 14 (ix x)))]) [1, 2, 0] dX3_work_9 rfl (by rw [hz]; decide) rfl rfl ?_
  refine r_aload_n E (q := 11) 0 dX3_work_10 rfl rfl rfl ?_
  refine r_get E (q := 14) fX3_35 23 wc_23 rfl dX3_work_11 rfl ?_
  refine r_get E (q := 17) fX3_71 12 wc_12 rfl dX3_work_14 rfl ?_
  refine r_iload_n E (q := 18) 1 dX3_work_17 rfl rfl rfl ?_
  refine r_iald E (q := 19) 13 wc_13 o1 dX3_work_18 rfl ?_
  refine r_tabIn E 4 hk 132 dX3_work_19 (by decide) (by rfl) (by decide) ?_
  refine r_aload_n E (q := 133) 0 dX3_work_132 rfl rfl rfl ?_
  refine r_iload_n E (q := 134) 2 dX3_work_133 rfl rfl rfl ?_
  refine r_aload_n E (q := 135) 0 dX3_work_134 rfl rfl rfl ?_
  refine r_get E (q := 138) fX3_35 23 wc_23 rfl dX3_work_135 rfl ?_
  refine r_get E (q := 141) fX3_94 12 wc_12 rfl dX3_work_138 rfl ?_
  refine r_iload_n E (q := 142) 1 dX3_work_141 rfl rfl rfl ?_
  refine r_iald E (q := 143) 15 wc_15 o1 dX3_work_142 rfl ?_
  refine r_aload_n E (q := 144) 0 dX3_work_143 rfl rfl rfl ?_
  refine r_get E (q := 147) fX3_35 23 wc_23 rfl dX3_work_144 rfl ?_
  refine r_get E (q := 150) fX3_84 12 wc_12 rfl dX3_work_147 rfl ?_
  refine r_iload_n E (q := 151) 1 dX3_work_150 rfl rfl rfl ?_
  refine r_iald E (q := 152) 16 wc_16 o1 dX3_work_151 rfl ?_
  refine r_aload_n E (q := 153) 0 dX3_work_152 rfl rfl rfl ?_
  refine r_get E (q := 156) fX3_35 23 wc_23 rfl dX3_work_153 rfl ?_
  refine r_get E (q := 159) fX3_77 12 wc_12 rfl dX3_work_156 rfl ?_
  refine r_iload_n E (q := 160) 1 dX3_work_159 rfl rfl rfl ?_
  refine r_iald E (q := 161) 17 wc_17 o1 dX3_work_160 rfl ?_
  exact k1 
set_option maxRecDepth 100000 in
set_option maxHeartbeats 800000 in
theorem wk_5 {z : Zt} (E : EN z cX3_work RX3) {w0 : va_W} {P : Option Value → va_W → Prop} {lvl : Nat} {mc9 ms9 : Nat} (T : RT z none lvl w0 P mc9 ms9) (hz : zn z = 3) {ad : Nat → Nat} {G : Nat → Nat → Int32} {V : Nat → Int32} {n : Nat} {c9 s9 : Nat} (hcs : c9 ≤ mc9 ∧ s9 ≤ ms9) (x : Int32) (hk : G 13 (ix x) = 5) 
    (o1 : vp_in x 60)
    (k1 : WW z c9 s9 (WC (zk z) ad G V n) 171 [(0, .ref (ad 23)), (1, .int x), (2, .int (G 14 (ix x)))] [.int 100, .int (G 14 (ix x)), .ref (ad 23)]) :
    WW z c9 s9 (WC (zk z) ad G V n) 0 [(0, .ref (ad 23)), (1, .int x)] [] := by
  refine r_aload_n E (q := 1) 0 dX3_work_0 rfl rfl rfl ?_
  refine r_get E (q := 4) fX3_35 23 wc_23 rfl dX3_work_1 rfl ?_
  refine r_get E (q := 7) fX3_68 12 wc_12 rfl dX3_work_4 rfl ?_
  refine r_iload_n E (q := 8) 1 dX3_work_7 rfl rfl rfl ?_
  refine r_iald E (q := 9) 14 wc_14 o1 dX3_work_8 rfl ?_
  refine r_istore_n E (q := 10) (lv' := [(0, .ref (ad 23)), (1, .int x), (2, .int (G 14 (ix x)))]) [1, 2, 0] dX3_work_9 rfl (by rw [hz]; decide) rfl rfl ?_
  refine r_aload_n E (q := 11) 0 dX3_work_10 rfl rfl rfl ?_
  refine r_get E (q := 14) fX3_35 23 wc_23 rfl dX3_work_11 rfl ?_
  refine r_get E (q := 17) fX3_71 12 wc_12 rfl dX3_work_14 rfl ?_
  refine r_iload_n E (q := 18) 1 dX3_work_17 rfl rfl rfl ?_
  refine r_iald E (q := 19) 13 wc_13 o1 dX3_work_18 rfl ?_
  refine r_tabIn E 5 hk 167 dX3_work_19 (by decide) (by rfl) (by decide) ?_
  refine r_aload_n E (q := 168) 0 dX3_work_167 rfl rfl rfl ?_
  refine r_iload_n E (q := 169) 2 dX3_work_168 rfl rfl rfl ?_
  refine r_bipush E (q := 171) (v := 100) dX3_work_169 (by decide) rfl ?_
  exact k1 
set_option maxRecDepth 100000 in
set_option maxHeartbeats 800000 in
theorem wk_6 {z : Zt} (E : EN z cX3_work RX3) {w0 : va_W} {P : Option Value → va_W → Prop} {lvl : Nat} {mc9 ms9 : Nat} (T : RT z none lvl w0 P mc9 ms9) (hz : zn z = 3) {ad : Nat → Nat} {G : Nat → Nat → Int32} {V : Nat → Int32} {n : Nat} {c9 s9 : Nat} (hcs : c9 ≤ mc9 ∧ s9 ≤ ms9) (x : Int32) (hk : G 13 (ix x) = 6) 
    (o1 : vp_in x 60)
    (k1 : WW z c9 s9 (WC (zk z) ad G V n) 212 [(0, .ref (ad 23)), (1, .int x), (2, .int (G 14 (ix x)))] [.int (G 17 (ix x)), .int (G 16 (ix x)), .int (G 14 (ix x)), .ref (ad 23)]) :
    WW z c9 s9 (WC (zk z) ad G V n) 0 [(0, .ref (ad 23)), (1, .int x)] [] := by
  refine r_aload_n E (q := 1) 0 dX3_work_0 rfl rfl rfl ?_
  refine r_get E (q := 4) fX3_35 23 wc_23 rfl dX3_work_1 rfl ?_
  refine r_get E (q := 7) fX3_68 12 wc_12 rfl dX3_work_4 rfl ?_
  refine r_iload_n E (q := 8) 1 dX3_work_7 rfl rfl rfl ?_
  refine r_iald E (q := 9) 14 wc_14 o1 dX3_work_8 rfl ?_
  refine r_istore_n E (q := 10) (lv' := [(0, .ref (ad 23)), (1, .int x), (2, .int (G 14 (ix x)))]) [1, 2, 0] dX3_work_9 rfl (by rw [hz]; decide) rfl rfl ?_
  refine r_aload_n E (q := 11) 0 dX3_work_10 rfl rfl rfl ?_
  refine r_get E (q := 14) fX3_35 23 wc_23 rfl dX3_work_11 rfl ?_
  refine r_get E (q := 17) fX3_71 12 wc_12 rfl dX3_work_14 rfl ?_
  refine r_iload_n E (q := 18) 1 dX3_work_17 rfl rfl rfl ?_
  refine r_iald E (q := 19) 13 wc_13 o1 dX3_work_18 rfl ?_
  refine r_tabIn E 6 hk 192 dX3_work_19 (by decide) (by rfl) (by decide) ?_
  refine r_aload_n E (q := 193) 0 dX3_work_192 rfl rfl rfl ?_
  refine r_iload_n E (q := 194) 2 dX3_work_193 rfl rfl rfl ?_
  refine r_aload_n E (q := 195) 0 dX3_work_194 rfl rfl rfl ?_
  refine r_get E (q := 198) fX3_35 23 wc_23 rfl dX3_work_195 rfl ?_
  refine r_get E (q := 201) fX3_84 12 wc_12 rfl dX3_work_198 rfl ?_
  refine r_iload_n E (q := 202) 1 dX3_work_201 rfl rfl rfl ?_
  refine r_iald E (q := 203) 16 wc_16 o1 dX3_work_202 rfl ?_
  refine r_aload_n E (q := 204) 0 dX3_work_203 rfl rfl rfl ?_
  refine r_get E (q := 207) fX3_35 23 wc_23 rfl dX3_work_204 rfl ?_
  refine r_get E (q := 210) fX3_77 12 wc_12 rfl dX3_work_207 rfl ?_
  refine r_iload_n E (q := 211) 1 dX3_work_210 rfl rfl rfl ?_
  refine r_iald E (q := 212) 17 wc_17 o1 dX3_work_211 rfl ?_
  exact k1 
set_option maxRecDepth 100000 in
set_option maxHeartbeats 800000 in
theorem wk_7 {z : Zt} (E : EN z cX3_work RX3) {w0 : va_W} {P : Option Value → va_W → Prop} {lvl : Nat} {mc9 ms9 : Nat} (T : RT z none lvl w0 P mc9 ms9) (hz : zn z = 3) {ad : Nat → Nat} {G : Nat → Nat → Int32} {V : Nat → Int32} {n : Nat} {c9 s9 : Nat} (hcs : c9 ≤ mc9 ∧ s9 ≤ ms9) (x : Int32) (hk : G 13 (ix x) = 7) 
    (o1 : vp_in x 60)
    (k1 : WW z c9 s9 (WC (zk z) ad G V n) 220 [(0, .ref (ad 23)), (1, .int x), (2, .int (G 14 (ix x)))] [.int (G 14 (ix x)), .ref (ad 23)]) :
    WW z c9 s9 (WC (zk z) ad G V n) 0 [(0, .ref (ad 23)), (1, .int x)] [] := by
  refine r_aload_n E (q := 1) 0 dX3_work_0 rfl rfl rfl ?_
  refine r_get E (q := 4) fX3_35 23 wc_23 rfl dX3_work_1 rfl ?_
  refine r_get E (q := 7) fX3_68 12 wc_12 rfl dX3_work_4 rfl ?_
  refine r_iload_n E (q := 8) 1 dX3_work_7 rfl rfl rfl ?_
  refine r_iald E (q := 9) 14 wc_14 o1 dX3_work_8 rfl ?_
  refine r_istore_n E (q := 10) (lv' := [(0, .ref (ad 23)), (1, .int x), (2, .int (G 14 (ix x)))]) [1, 2, 0] dX3_work_9 rfl (by rw [hz]; decide) rfl rfl ?_
  refine r_aload_n E (q := 11) 0 dX3_work_10 rfl rfl rfl ?_
  refine r_get E (q := 14) fX3_35 23 wc_23 rfl dX3_work_11 rfl ?_
  refine r_get E (q := 17) fX3_71 12 wc_12 rfl dX3_work_14 rfl ?_
  refine r_iload_n E (q := 18) 1 dX3_work_17 rfl rfl rfl ?_
  refine r_iald E (q := 19) 13 wc_13 o1 dX3_work_18 rfl ?_
  refine r_tabIn E 7 hk 218 dX3_work_19 (by decide) (by rfl) (by decide) ?_
  refine r_aload_n E (q := 219) 0 dX3_work_218 rfl rfl rfl ?_
  refine r_iload_n E (q := 220) 2 dX3_work_219 rfl rfl rfl ?_
  exact k1 
set_option maxRecDepth 100000 in
set_option maxHeartbeats 800000 in
theorem wk_8 {z : Zt} (E : EN z cX3_work RX3) {w0 : va_W} {P : Option Value → va_W → Prop} {lvl : Nat} {mc9 ms9 : Nat} (T : RT z none lvl w0 P mc9 ms9) (hz : zn z = 3) {ad : Nat → Nat} {G : Nat → Nat → Int32} {V : Nat → Int32} {n : Nat} {c9 s9 : Nat} (hcs : c9 ≤ mc9 ∧ s9 ≤ ms9) (x : Int32) (hk : G 13 (ix x) = 8) 
    (o1 : vp_in x 60)
    (k1 : WW z c9 s9 (WC (zk z) ad G V n) 237 [(0, .ref (ad 23)), (1, .int x), (2, .int (G 14 (ix x)))] [.int (G 17 (ix x)), .int (G 14 (ix x)), .ref (ad 23)]) :
    WW z c9 s9 (WC (zk z) ad G V n) 0 [(0, .ref (ad 23)), (1, .int x)] [] := by
  refine r_aload_n E (q := 1) 0 dX3_work_0 rfl rfl rfl ?_
  refine r_get E (q := 4) fX3_35 23 wc_23 rfl dX3_work_1 rfl ?_
  refine r_get E (q := 7) fX3_68 12 wc_12 rfl dX3_work_4 rfl ?_
  refine r_iload_n E (q := 8) 1 dX3_work_7 rfl rfl rfl ?_
  refine r_iald E (q := 9) 14 wc_14 o1 dX3_work_8 rfl ?_
  refine r_istore_n E (q := 10) (lv' := [(0, .ref (ad 23)), (1, .int x), (2, .int (G 14 (ix x)))]) [1, 2, 0] dX3_work_9 rfl (by rw [hz]; decide) rfl rfl ?_
  refine r_aload_n E (q := 11) 0 dX3_work_10 rfl rfl rfl ?_
  refine r_get E (q := 14) fX3_35 23 wc_23 rfl dX3_work_11 rfl ?_
  refine r_get E (q := 17) fX3_71 12 wc_12 rfl dX3_work_14 rfl ?_
  refine r_iload_n E (q := 18) 1 dX3_work_17 rfl rfl rfl ?_
  refine r_iald E (q := 19) 13 wc_13 o1 dX3_work_18 rfl ?_
  refine r_tabOut E 226 dX3_work_19 (by rw [hk]; decide) (by decide) ?_
  refine r_aload_n E (q := 227) 0 dX3_work_226 rfl rfl rfl ?_
  refine r_iload_n E (q := 228) 2 dX3_work_227 rfl rfl rfl ?_
  refine r_aload_n E (q := 229) 0 dX3_work_228 rfl rfl rfl ?_
  refine r_get E (q := 232) fX3_35 23 wc_23 rfl dX3_work_229 rfl ?_
  refine r_get E (q := 235) fX3_77 12 wc_12 rfl dX3_work_232 rfl ?_
  refine r_iload_n E (q := 236) 1 dX3_work_235 rfl rfl rfl ?_
  refine r_iald E (q := 237) 17 wc_17 o1 dX3_work_236 rfl ?_
  exact k1 
set_option maxRecDepth 100000 in
set_option maxHeartbeats 800000 in
theorem wk_u {z : Zt} (E : EN z cX3_work RX3) {w0 : va_W} {P : Option Value → va_W → Prop} {lvl : Nat} {mc9 ms9 : Nat} (T : RT z none lvl w0 P mc9 ms9) (hz : zn z = 3) {ad : Nat → Nat} {G : Nat → Nat → Int32} {V : Nat → Int32} {n : Nat} {c9 s9 : Nat} (hcs : c9 ≤ mc9 ∧ s9 ≤ ms9) (x a9 : Int32) 
    (o1 : vp_in x 60)
    (k1 : WW z c9 s9 (WC (zk z) ad G V n) 186 [(0, .ref (ad 23)), (1, .int x), (2, .int a9)] [.int 100, .int (G 15 (ix x)), .ref (ad 23)]) :
    WW z c9 s9 (WC (zk z) ad G V n) 174 [(0, .ref (ad 23)), (1, .int x), (2, .int a9)] [] := by
  refine r_aload_n E (q := 175) 0 dX3_work_174 rfl rfl rfl ?_
  refine r_aload_n E (q := 176) 0 dX3_work_175 rfl rfl rfl ?_
  refine r_get E (q := 179) fX3_35 23 wc_23 rfl dX3_work_176 rfl ?_
  refine r_get E (q := 182) fX3_94 12 wc_12 rfl dX3_work_179 rfl ?_
  refine r_iload_n E (q := 183) 1 dX3_work_182 rfl rfl rfl ?_
  refine r_iald E (q := 184) 15 wc_15 o1 dX3_work_183 rfl ?_
  refine r_bipush E (q := 186) (v := 100) dX3_work_184 (by decide) rfl ?_
  exact k1 
set_option maxRecDepth 100000 in
set_option maxHeartbeats 800000 in
theorem wr_69 {z : Zt} (E : EN z cX3_work RX3) {w0 : va_W} {P : Option Value → va_W → Prop} {lvl : Nat} {mc9 ms9 : Nat} (T : RT z none lvl w0 P mc9 ms9) (hz : zn z = 3) {ad : Nat → Nat} {G : Nat → Nat → Int32} {V : Nat → Int32} {n : Nat} {c9 s9 : Nat} (hcs : c9 ≤ mc9 ∧ s9 ≤ ms9) (x a9 : Int32) 
    (k1 : P none (WC (zk z) ad G V n)) :
    WW z c9 s9 (WC (zk z) ad G V n) 69 [(0, .ref (ad 23)), (1, .int x), (2, .int a9)] [] := by
  refine r_goto E 240 dX3_work_69 (by decide) ?_
  refine r_widen hcs.1 hcs.2 ?_
  exact r_vret E T dX3_work_240 (k1 )
set_option maxRecDepth 100000 in
set_option maxHeartbeats 800000 in
theorem wr_86 {z : Zt} (E : EN z cX3_work RX3) {w0 : va_W} {P : Option Value → va_W → Prop} {lvl : Nat} {mc9 ms9 : Nat} (T : RT z none lvl w0 P mc9 ms9) (hz : zn z = 3) {ad : Nat → Nat} {G : Nat → Nat → Int32} {V : Nat → Int32} {n : Nat} {c9 s9 : Nat} (hcs : c9 ≤ mc9 ∧ s9 ≤ ms9) (x a9 : Int32) 
    (k1 : P none (WC (zk z) ad G V n)) :
    WW z c9 s9 (WC (zk z) ad G V n) 86 [(0, .ref (ad 23)), (1, .int x), (2, .int a9)] [] := by
  refine r_goto E 240 dX3_work_86 (by decide) ?_
  refine r_widen hcs.1 hcs.2 ?_
  exact r_vret E T dX3_work_240 (k1 )
set_option maxRecDepth 100000 in
set_option maxHeartbeats 800000 in
theorem wr_112 {z : Zt} (E : EN z cX3_work RX3) {w0 : va_W} {P : Option Value → va_W → Prop} {lvl : Nat} {mc9 ms9 : Nat} (T : RT z none lvl w0 P mc9 ms9) (hz : zn z = 3) {ad : Nat → Nat} {G : Nat → Nat → Int32} {V : Nat → Int32} {n : Nat} {c9 s9 : Nat} (hcs : c9 ≤ mc9 ∧ s9 ≤ ms9) (x a9 : Int32) 
    (k1 : P none (WC (zk z) ad G V n)) :
    WW z c9 s9 (WC (zk z) ad G V n) 112 [(0, .ref (ad 23)), (1, .int x), (2, .int a9)] [] := by
  refine r_goto E 240 dX3_work_112 (by decide) ?_
  refine r_widen hcs.1 hcs.2 ?_
  exact r_vret E T dX3_work_240 (k1 )
set_option maxRecDepth 100000 in
set_option maxHeartbeats 800000 in
theorem wr_129 {z : Zt} (E : EN z cX3_work RX3) {w0 : va_W} {P : Option Value → va_W → Prop} {lvl : Nat} {mc9 ms9 : Nat} (T : RT z none lvl w0 P mc9 ms9) (hz : zn z = 3) {ad : Nat → Nat} {G : Nat → Nat → Int32} {V : Nat → Int32} {n : Nat} {c9 s9 : Nat} (hcs : c9 ≤ mc9 ∧ s9 ≤ ms9) (x a9 : Int32) 
    (k1 : P none (WC (zk z) ad G V n)) :
    WW z c9 s9 (WC (zk z) ad G V n) 129 [(0, .ref (ad 23)), (1, .int x), (2, .int a9)] [] := by
  refine r_goto E 240 dX3_work_129 (by decide) ?_
  refine r_widen hcs.1 hcs.2 ?_
  exact r_vret E T dX3_work_240 (k1 )
set_option maxRecDepth 100000 in
set_option maxHeartbeats 800000 in
theorem wr_164 {z : Zt} (E : EN z cX3_work RX3) {w0 : va_W} {P : Option Value → va_W → Prop} {lvl : Nat} {mc9 ms9 : Nat} (T : RT z none lvl w0 P mc9 ms9) (hz : zn z = 3) {ad : Nat → Nat} {G : Nat → Nat → Int32} {V : Nat → Int32} {n : Nat} {c9 s9 : Nat} (hcs : c9 ≤ mc9 ∧ s9 ≤ ms9) (x a9 : Int32) 
    (k1 : P none (WC (zk z) ad G V n)) :
    WW z c9 s9 (WC (zk z) ad G V n) 164 [(0, .ref (ad 23)), (1, .int x), (2, .int a9)] [] := by
  refine r_goto E 240 dX3_work_164 (by decide) ?_
  refine r_widen hcs.1 hcs.2 ?_
  exact r_vret E T dX3_work_240 (k1 )
set_option maxRecDepth 100000 in
set_option maxHeartbeats 800000 in
theorem wr_189 {z : Zt} (E : EN z cX3_work RX3) {w0 : va_W} {P : Option Value → va_W → Prop} {lvl : Nat} {mc9 ms9 : Nat} (T : RT z none lvl w0 P mc9 ms9) (hz : zn z = 3) {ad : Nat → Nat} {G : Nat → Nat → Int32} {V : Nat → Int32} {n : Nat} {c9 s9 : Nat} (hcs : c9 ≤ mc9 ∧ s9 ≤ ms9) (x a9 : Int32) 
    (k1 : P none (WC (zk z) ad G V n)) :
    WW z c9 s9 (WC (zk z) ad G V n) 189 [(0, .ref (ad 23)), (1, .int x), (2, .int a9)] [] := by
  refine r_goto E 240 dX3_work_189 (by decide) ?_
  refine r_widen hcs.1 hcs.2 ?_
  exact r_vret E T dX3_work_240 (k1 )
set_option maxRecDepth 100000 in
set_option maxHeartbeats 800000 in
theorem wr_215 {z : Zt} (E : EN z cX3_work RX3) {w0 : va_W} {P : Option Value → va_W → Prop} {lvl : Nat} {mc9 ms9 : Nat} (T : RT z none lvl w0 P mc9 ms9) (hz : zn z = 3) {ad : Nat → Nat} {G : Nat → Nat → Int32} {V : Nat → Int32} {n : Nat} {c9 s9 : Nat} (hcs : c9 ≤ mc9 ∧ s9 ≤ ms9) (x a9 : Int32) 
    (k1 : P none (WC (zk z) ad G V n)) :
    WW z c9 s9 (WC (zk z) ad G V n) 215 [(0, .ref (ad 23)), (1, .int x), (2, .int a9)] [] := by
  refine r_goto E 240 dX3_work_215 (by decide) ?_
  refine r_widen hcs.1 hcs.2 ?_
  exact r_vret E T dX3_work_240 (k1 )
set_option maxRecDepth 100000 in
set_option maxHeartbeats 800000 in
theorem wr_223 {z : Zt} (E : EN z cX3_work RX3) {w0 : va_W} {P : Option Value → va_W → Prop} {lvl : Nat} {mc9 ms9 : Nat} (T : RT z none lvl w0 P mc9 ms9) (hz : zn z = 3) {ad : Nat → Nat} {G : Nat → Nat → Int32} {V : Nat → Int32} {n : Nat} {c9 s9 : Nat} (hcs : c9 ≤ mc9 ∧ s9 ≤ ms9) (x a9 : Int32) 
    (k1 : P none (WC (zk z) ad G V n)) :
    WW z c9 s9 (WC (zk z) ad G V n) 223 [(0, .ref (ad 23)), (1, .int x), (2, .int a9)] [] := by
  refine r_goto E 240 dX3_work_223 (by decide) ?_
  refine r_widen hcs.1 hcs.2 ?_
  exact r_vret E T dX3_work_240 (k1 )
set_option maxRecDepth 100000 in
set_option maxHeartbeats 800000 in
theorem wr_240 {z : Zt} (E : EN z cX3_work RX3) {w0 : va_W} {P : Option Value → va_W → Prop} {lvl : Nat} {mc9 ms9 : Nat} (T : RT z none lvl w0 P mc9 ms9) (hz : zn z = 3) {ad : Nat → Nat} {G : Nat → Nat → Int32} {V : Nat → Int32} {n : Nat} {c9 s9 : Nat} (hcs : c9 ≤ mc9 ∧ s9 ≤ ms9) (x a9 : Int32) 
    (k1 : P none (WC (zk z) ad G V n)) :
    WW z c9 s9 (WC (zk z) ad G V n) 240 [(0, .ref (ad 23)), (1, .int x), (2, .int a9)] [] := by
  refine r_widen hcs.1 hcs.2 ?_
  exact r_vret E T dX3_work_240 (k1 )
set_option maxRecDepth 100000 in
set_option maxHeartbeats 800000 in
theorem ga_a {z : Zt} (E : EN z cX3_give RX3) {w0 : va_W} {P : Option Value → va_W → Prop} {lvl : Nat} {mc9 ms9 : Nat} (T : RT z (some .int) lvl w0 P mc9 ms9) (hz : zn z = 5) {ad : Nat → Nat} {G : Nat → Nat → Int32} {V : Nat → Int32} {n : Nat} {c9 s9 : Nat} (hcs : c9 ≤ mc9 ∧ s9 ≤ ms9) (x : Int32) 
    (k1 : WW z c9 s9 (WC (zk z) ad G (upd (upd (upd (upd (upd V 2 0) 5 0) 6 0) 7 0) 8 (-1)) n) 30 [(0, .ref (ad 23)), (1, .int x)] [.int x, .ref (ad 12)]) :
    WW z c9 s9 (WC (zk z) ad G V n) 0 [(0, .ref (ad 23)), (1, .int x)] [] := by
  refine r_aload_n E (q := 1) 0 dX3_give_0 rfl rfl rfl ?_
  refine r_iconst E (q := 2) (v := 0) dX3_give_1 (by decide) rfl ?_
  refine r_put E (q := 5) pX3_39 rfl 23 wc_23 rfl rfl (Nat.le_of_ble_eq_true rfl) wcv_2 dX3_give_2 rfl ?_
  refine r_aload_n E (q := 6) 0 dX3_give_5 rfl rfl rfl ?_
  refine r_iconst E (q := 7) (v := 0) dX3_give_6 (by decide) rfl ?_
  refine r_put E (q := 10) pX3_42 rfl 23 wc_23 rfl rfl (Nat.le_of_ble_eq_true rfl) wcv_5 dX3_give_7 rfl ?_
  refine r_aload_n E (q := 11) 0 dX3_give_10 rfl rfl rfl ?_
  refine r_iconst E (q := 12) (v := 0) dX3_give_11 (by decide) rfl ?_
  refine r_put E (q := 15) pX3_45 rfl 23 wc_23 rfl rfl (Nat.le_of_ble_eq_true rfl) wcv_6 dX3_give_12 rfl ?_
  refine r_aload_n E (q := 16) 0 dX3_give_15 rfl rfl rfl ?_
  refine r_iconst E (q := 17) (v := 0) dX3_give_16 (by decide) rfl ?_
  refine r_put E (q := 20) pX3_48 rfl 23 wc_23 rfl rfl (Nat.le_of_ble_eq_true rfl) wcv_7 dX3_give_17 rfl ?_
  refine r_aload_n E (q := 21) 0 dX3_give_20 rfl rfl rfl ?_
  refine r_iconst E (q := 22) (v := (-1)) dX3_give_21 (by decide) rfl ?_
  refine r_put E (q := 25) pX3_23 rfl 23 wc_23 rfl rfl (Nat.le_of_ble_eq_true rfl) wcv_8 dX3_give_22 rfl ?_
  refine r_aload_n E (q := 26) 0 dX3_give_25 rfl rfl rfl ?_
  refine r_get E (q := 29) fX3_35 23 wc_23 rfl dX3_give_26 rfl ?_
  refine r_iload_n E (q := 30) 1 dX3_give_29 rfl rfl rfl ?_
  exact k1 
set_option maxRecDepth 100000 in
set_option maxHeartbeats 800000 in
theorem ga_b {z : Zt} (E : EN z cX3_give RX3) {w0 : va_W} {P : Option Value → va_W → Prop} {lvl : Nat} {mc9 ms9 : Nat} (T : RT z (some .int) lvl w0 P mc9 ms9) (hz : zn z = 5) {ad : Nat → Nat} {G : Nat → Nat → Int32} {V : Nat → Int32} {n : Nat} {c9 s9 : Nat} (hcs : c9 ≤ mc9 ∧ s9 ≤ ms9) (x c9_ : Int32) 
    (k1 : WW z c9 s9 (WC (zk z) ad G V n) 36 [(0, .ref (ad 23)), (1, .int x), (2, .int c9_), (3, .int 0)] []) :
    WW z c9 s9 (WC (zk z) ad G V n) 33 [(0, .ref (ad 23)), (1, .int x)] [.int c9_] := by
  refine r_istore_n E (q := 34) (lv' := [(0, .ref (ad 23)), (1, .int x), (2, .int c9_)]) [1, 2, 0] dX3_give_33 rfl (by rw [hz]; decide) rfl rfl ?_
  refine r_iconst E (q := 35) (v := 0) dX3_give_34 (by decide) rfl ?_
  refine r_istore_n E (q := 36) (lv' := [(0, .ref (ad 23)), (1, .int x), (2, .int c9_), (3, .int 0)]) [1, 2, 3, 0] dX3_give_35 rfl (by rw [hz]; decide) rfl rfl ?_
  exact k1 
set_option maxRecDepth 100000 in
set_option maxHeartbeats 800000 in
theorem ga_c {z : Zt} (E : EN z cX3_give RX3) {w0 : va_W} {P : Option Value → va_W → Prop} {lvl : Nat} {mc9 ms9 : Nat} (T : RT z (some .int) lvl w0 P mc9 ms9) (hz : zn z = 5) {ad : Nat → Nat} {G : Nat → Nat → Int32} {V : Nat → Int32} {n : Nat} {c9 s9 : Nat} (hcs : c9 ≤ mc9 ∧ s9 ≤ ms9) (x c9_ i9 : Int32) 
    (o1 : ¬ (c9_ ≤ i9) → V 5 = 0 → vp_in i9 60) 
    (o2 : ¬ (c9_ ≤ i9) → V 5 = 0 → vp_in (G 20 (ix i9)) 60)
    (k1 : c9_ ≤ i9 → WW z c9 s9 (WC (zk z) ad G V n) 120 [(0, .ref (ad 23)), (1, .int x)] []) 
    (k2 : ¬ (c9_ ≤ i9) → ¬ (V 5 = 0) → WW z c9 s9 (WC (zk z) ad G V n) 120 [(0, .ref (ad 23)), (1, .int x)] []) 
    (k3 : ∀ (G1 : Nat → Nat → Int32), G1 = ug G 25 (ix (G 20 (ix i9))) ((upd V 7 ((V 7) + 1)) 2) → ¬ (c9_ ≤ i9) → V 5 = 0 → WW z c9 s9 (WC (zk z) ad G1 (upd V 7 ((V 7) + 1)) n) 83 [(0, .ref (ad 23)), (1, .int x), (2, .int c9_), (3, .int i9), (4, .int (G 20 (ix i9)))] [.int (G 20 (ix i9)), .ref (ad 23)]) :
    WW z c9 s9 (WC (zk z) ad G V n) 36 [(0, .ref (ad 23)), (1, .int x), (2, .int c9_), (3, .int i9)] [] := by
  refine r_iload_n E (q := 37) 3 dX3_give_36 rfl rfl rfl ?_
  refine r_iload_n E (q := 38) 2 dX3_give_37 rfl rfl rfl ?_
  refine r_icmp_ge E (q := 41) 120 dX3_give_38 (by decide) rfl (fun c1 => ?_) (fun c1 => ?_)
  · refine r_sub [0, 1] rfl ?_
    exact k1 c1
  · refine r_aload_n E (q := 42) 0 dX3_give_41 rfl rfl rfl ?_
    refine r_get E (q := 45) fX3_42 23 wc_23 rfl dX3_give_42 rfl ?_
    refine r_if_ne E (q := 48) 120 dX3_give_45 (by decide) rfl (fun c2 => ?_) (fun c2 => ?_)
    · refine r_sub [0, 1] rfl ?_
      exact k2 c1 c2
    · refine r_aload_n E (q := 49) 0 dX3_give_48 rfl rfl rfl ?_
      refine r_get E (q := 52) fX3_35 23 wc_23 rfl dX3_give_49 rfl ?_
      refine r_get E (q := 55) fX3_55 12 wc_12 rfl dX3_give_52 rfl ?_
      refine r_iload_n E (q := 56) 3 dX3_give_55 rfl rfl rfl ?_
      refine r_iald E (q := 57) 20 wc_20 (o1 c1 c2) dX3_give_56 rfl ?_
      refine r_istore E (q := 59) (lv' := [(0, .ref (ad 23)), (1, .int x), (2, .int c9_), (3, .int i9), (4, .int (G 20 (ix i9)))]) [1, 2, 3, 4, 0] dX3_give_57 (by rw [hz]; decide) rfl rfl ?_
      refine r_aload_n E (q := 60) 0 dX3_give_59 rfl rfl rfl ?_
      refine r_dup E (q := 61) dX3_give_60 rfl rfl ?_
      refine r_get E (q := 64) fX3_48 23 wc_23 rfl dX3_give_61 rfl ?_
      refine r_iconst E (q := 65) (v := 1) dX3_give_64 (by decide) rfl ?_
      refine r_iadd E (q := 66) dX3_give_65 rfl ?_
      refine r_put E (q := 69) pX3_48 rfl 23 wc_23 rfl rfl (Nat.le_of_ble_eq_true rfl) wcv_7 dX3_give_66 rfl ?_
      refine r_aload_n E (q := 70) 0 dX3_give_69 rfl rfl rfl ?_
      refine r_get E (q := 73) fX3_17 23 wc_23 rfl dX3_give_70 rfl ?_
      refine r_iload E (q := 75) 4 dX3_give_73 rfl rfl ?_
      refine r_aload_n E (q := 76) 0 dX3_give_75 rfl rfl rfl ?_
      refine r_get E (q := 79) fX3_39 23 wc_23 rfl dX3_give_76 rfl ?_
      refine r_iast E (q := 80) 25 wc_25 (o2 c1 c2) wcu_25 dX3_give_79 rfl ?_
      refine r_nGC (fun G1 eG1 => ?_)
      refine r_aload_n E (q := 81) 0 dX3_give_80 rfl rfl rfl ?_
      refine r_iload E (q := 83) 4 dX3_give_81 rfl rfl ?_
      exact k3 G1 eG1 c1 c2
set_option maxRecDepth 100000 in
set_option maxHeartbeats 800000 in
theorem ga_d {z : Zt} (E : EN z cX3_give RX3) {w0 : va_W} {P : Option Value → va_W → Prop} {lvl : Nat} {mc9 ms9 : Nat} (T : RT z (some .int) lvl w0 P mc9 ms9) (hz : zn z = 5) {ad : Nat → Nat} {G : Nat → Nat → Int32} {V : Nat → Int32} {n : Nat} {c9 s9 : Nat} (hcs : c9 ≤ mc9 ∧ s9 ≤ ms9) (x c9_ i9 a9 : Int32) 
    (o1 : vp_in a9 60)
    (k1 : ∀ (G1 : Nat → Nat → Int32), G1 = ug G 26 (ix a9) (V 2) → WW z c9 s9 (WC (zk z) ad G1 (upd V 8 (if V 5 = 0 then (-1) else a9)) n) 36 [(0, .ref (ad 23)), (1, .int x), (2, .int c9_), (3, .int (i9 + 1))] []) :
    WW z c9 s9 (WC (zk z) ad G V n) 86 [(0, .ref (ad 23)), (1, .int x), (2, .int c9_), (3, .int i9), (4, .int a9)] [] := by
  refine r_aload_n E (q := 87) 0 dX3_give_86 rfl rfl rfl ?_
  refine r_get E (q := 90) fX3_20 23 wc_23 rfl dX3_give_87 rfl ?_
  refine r_iload E (q := 92) 4 dX3_give_90 rfl rfl ?_
  refine r_aload_n E (q := 93) 0 dX3_give_92 rfl rfl rfl ?_
  refine r_get E (q := 96) fX3_39 23 wc_23 rfl dX3_give_93 rfl ?_
  refine r_iast E (q := 97) 26 wc_26 o1 wcu_26 dX3_give_96 rfl ?_
  refine r_nGC (fun G1 eG1 => ?_)
  refine r_aload_n E (q := 98) 0 dX3_give_97 rfl rfl rfl ?_
  refine r_aload_n E (q := 99) 0 dX3_give_98 rfl rfl rfl ?_
  refine r_get E (q := 102) fX3_42 23 wc_23 rfl dX3_give_99 rfl ?_
  refine r_join 111 (if V 5 = 0 then (-1) else a9) (rest := [.ref (ad 23)]) ?_ (fun hj1 => ?_)
  · refine r_put E (q := 114) pX3_23 rfl 23 wc_23 rfl rfl (Nat.le_of_ble_eq_true rfl) wcv_8 dX3_give_111 rfl ?_
    refine r_iinc E (q := 117) (v := i9 + 1) (lv' := [(0, .ref (ad 23)), (1, .int x), (2, .int c9_), (3, .int (i9 + 1)), (4, .int a9)]) 3 [1, 2, 3, 0, 4] dX3_give_114 rfl (by rfl) (by rw [hz]; decide) rfl rfl ?_
    refine r_goto E 36 dX3_give_117 (by decide) ?_
    refine r_sub [0, 1, 2, 3] rfl ?_
    exact k1 G1 eG1
  · refine r_if_ne E (q := 105) 109 dX3_give_102 (by decide) rfl (fun c1 => ?_) (fun c1 => ?_)
    · refine r_iload E (q := 111) 4 dX3_give_109 rfl rfl ?_
      exact hj1 _ (if_neg c1).symm
    · refine r_iconst E (q := 106) (v := (-1)) dX3_give_105 (by decide) rfl ?_
      refine r_goto E 111 dX3_give_106 (by decide) ?_
      exact hj1 _ (if_pos c1).symm
set_option maxRecDepth 100000 in
set_option maxHeartbeats 800000 in
theorem ga_e {z : Zt} (E : EN z cX3_give RX3) {w0 : va_W} {P : Option Value → va_W → Prop} {lvl : Nat} {mc9 ms9 : Nat} (T : RT z (some .int) lvl w0 P mc9 ms9) (hz : zn z = 5) {ad : Nat → Nat} {G : Nat → Nat → Int32} {V : Nat → Int32} {n : Nat} {c9 s9 : Nat} (hcs : c9 ≤ mc9 ∧ s9 ≤ ms9) (x : Int32) 
    (o1 : vp_in x 60) 
    (o2 : (upd V 3 (G 25 (ix x))) 5 = 0 → vp_in x 60)
    (k1 : P (some (.int (if (upd (upd V 3 (G 25 (ix x))) 4 (if (upd V 3 (G 25 (ix x))) 5 = 0 then (((G 26 (ix x)) - (G 25 (ix x))) / 6) else 0)) 5 = 0 then ((upd (upd V 3 (G 25 (ix x))) 4 (if (upd V 3 (G 25 (ix x))) 5 = 0 then (((G 26 (ix x)) - (G 25 (ix x))) / 6) else 0)) 4) else ((-10) - ((upd (upd V 3 (G 25 (ix x))) 4 (if (upd V 3 (G 25 (ix x))) 5 = 0 then (((G 26 (ix x)) - (G 25 (ix x))) / 6) else 0)) 5))))) (WC (zk z) ad G (upd (upd V 3 (G 25 (ix x))) 4 (if (upd V 3 (G 25 (ix x))) 5 = 0 then (((G 26 (ix x)) - (G 25 (ix x))) / 6) else 0)) n)) :
    WW z c9 s9 (WC (zk z) ad G V n) 120 [(0, .ref (ad 23)), (1, .int x)] [] := by
  refine r_aload_n E (q := 121) 0 dX3_give_120 rfl rfl rfl ?_
  refine r_aload_n E (q := 122) 0 dX3_give_121 rfl rfl rfl ?_
  refine r_get E (q := 125) fX3_17 23 wc_23 rfl dX3_give_122 rfl ?_
  refine r_iload_n E (q := 126) 1 dX3_give_125 rfl rfl rfl ?_
  refine r_iald E (q := 127) 25 wc_25 o1 dX3_give_126 rfl ?_
  refine r_put E (q := 130) pX3_62 rfl 23 wc_23 rfl rfl (Nat.le_of_ble_eq_true rfl) wcv_3 dX3_give_127 rfl ?_
  refine r_aload_n E (q := 131) 0 dX3_give_130 rfl rfl rfl ?_
  refine r_aload_n E (q := 132) 0 dX3_give_131 rfl rfl rfl ?_
  refine r_get E (q := 135) fX3_42 23 wc_23 rfl dX3_give_132 rfl ?_
  refine r_join 158 (if (upd V 3 (G 25 (ix x))) 5 = 0 then (((G 26 (ix x)) - (G 25 (ix x))) / 6) else 0) (rest := [.ref (ad 23)]) ?_ (fun hj1 => ?_)
  · refine r_put E (q := 161) pX3_65 rfl 23 wc_23 rfl rfl (Nat.le_of_ble_eq_true rfl) wcv_4 dX3_give_158 rfl ?_
    refine r_aload_n E (q := 162) 0 dX3_give_161 rfl rfl rfl ?_
    refine r_get E (q := 165) fX3_42 23 wc_23 rfl dX3_give_162 rfl ?_
    refine r_join 182 (if (upd (upd V 3 (G 25 (ix x))) 4 (if (upd V 3 (G 25 (ix x))) 5 = 0 then (((G 26 (ix x)) - (G 25 (ix x))) / 6) else 0)) 5 = 0 then ((upd (upd V 3 (G 25 (ix x))) 4 (if (upd V 3 (G 25 (ix x))) 5 = 0 then (((G 26 (ix x)) - (G 25 (ix x))) / 6) else 0)) 4) else ((-10) - ((upd (upd V 3 (G 25 (ix x))) 4 (if (upd V 3 (G 25 (ix x))) 5 = 0 then (((G 26 (ix x)) - (G 25 (ix x))) / 6) else 0)) 5))) (rest := []) ?_ (fun hj2 => ?_)
    · refine r_widen hcs.1 hcs.2 ?_
      exact r_iret E T dX3_give_182 (k1 )
    · refine r_if_ne E (q := 168) 175 dX3_give_165 (by decide) rfl (fun c2 => ?_) (fun c2 => ?_)
      · refine r_bipush E (q := 177) (v := (-10)) dX3_give_175 (by decide) rfl ?_
        refine r_aload_n E (q := 178) 0 dX3_give_177 rfl rfl rfl ?_
        refine r_get E (q := 181) fX3_42 23 wc_23 rfl dX3_give_178 rfl ?_
        refine r_isub E (q := 182) dX3_give_181 rfl ?_
        exact hj2 _ (if_neg c2).symm
      · refine r_aload_n E (q := 169) 0 dX3_give_168 rfl rfl rfl ?_
        refine r_get E (q := 172) fX3_65 23 wc_23 rfl dX3_give_169 rfl ?_
        refine r_goto E 182 dX3_give_172 (by decide) ?_
        exact hj2 _ (if_pos c2).symm
  · refine r_if_ne E (q := 138) 157 dX3_give_135 (by decide) rfl (fun c1 => ?_) (fun c1 => ?_)
    · refine r_iconst E (q := 158) (v := 0) dX3_give_157 (by decide) rfl ?_
      exact hj1 _ (if_neg c1).symm
    · refine r_aload_n E (q := 139) 0 dX3_give_138 rfl rfl rfl ?_
      refine r_get E (q := 142) fX3_20 23 wc_23 rfl dX3_give_139 rfl ?_
      refine r_iload_n E (q := 143) 1 dX3_give_142 rfl rfl rfl ?_
      refine r_iald E (q := 144) 26 wc_26 (o2 c1) dX3_give_143 rfl ?_
      refine r_aload_n E (q := 145) 0 dX3_give_144 rfl rfl rfl ?_
      refine r_get E (q := 148) fX3_17 23 wc_23 rfl dX3_give_145 rfl ?_
      refine r_iload_n E (q := 149) 1 dX3_give_148 rfl rfl rfl ?_
      refine r_iald E (q := 150) 25 wc_25 (o2 c1) dX3_give_149 rfl ?_
      refine r_isub E (q := 151) dX3_give_150 rfl ?_
      refine r_bipush E (q := 153) (v := 6) dX3_give_151 (by decide) rfl ?_
      refine r_idiv E (q := 154) dX3_give_153 (by decide) rfl ?_
      refine r_goto E 158 dX3_give_154 (by decide) ?_
      exact hj1 _ (if_pos c1).symm
def fX3_given (G : Nat → Nat → Int32) (V : Nat → Int32) (i : Int32) (m : Int32) : Int32 := if i < 0 then 0 else (if i < V 4 then (G 24 (ix (((V 3) + (i * 6)) + m))) else 0)
set_option maxRecDepth 100000 in
set_option maxHeartbeats 800000 in
theorem c_X3_given {l : Launch} {k : Kt} {ad : Nat → Nat} {G : Nat → Nat → Int32} {V : Nat → Int32} {n : Nat} (i : Int32) (m : Int32) (h1 : ¬ i < 0 → i < V 4 → vp_in ((V 3 + i * 6) + m) n) : CT l k yX3_given cX3_given 3 (some .int) 0 [.ref (ad 23), .int i, .int m] (WC k ad G V n) (eqI (fX3_given G V i m) (WC k ad G V n)) 0 0 := by
  refine ct_of (own := RX3) (lv0 := [(0, .ref (ad 23)), (1, .int i), (2, .int m)]) (by decide) rfl (Nat.le_of_ble_eq_true rfl) rfl ?_
  rintro z rfl rfl hz - E T
  refine r_iload_n E (q := 1) 1 dX3_given_0 rfl rfl rfl ?_
  refine r_if_lt E (q := 4) 12 dX3_given_1 (by decide) rfl (fun c1 => ?_) (fun c1 => ?_)
  · refine r_iconst E (q := 13) (v := 0) dX3_given_12 (by decide) rfl ?_
    exact r_iret E T dX3_given_13 (eqI.mk (by unfold fX3_given; exact (if_pos c1).symm) rfl)
  · refine r_iload_n E (q := 5) 1 dX3_given_4 rfl rfl rfl ?_
    refine r_aload_n E (q := 6) 0 dX3_given_5 rfl rfl rfl ?_
    refine r_get E (q := 9) fX3_65 23 wc_23 rfl dX3_given_6 rfl ?_
    refine r_icmp_lt E (q := 12) 14 dX3_given_9 (by decide) rfl (fun c2 => ?_) (fun c2 => ?_)
    · refine r_aload_n E (q := 15) 0 dX3_given_14 rfl rfl rfl ?_
      refine r_get E (q := 18) fX3_13 23 wc_23 rfl dX3_given_15 rfl ?_
      refine r_aload_n E (q := 19) 0 dX3_given_18 rfl rfl rfl ?_
      refine r_get E (q := 22) fX3_62 23 wc_23 rfl dX3_given_19 rfl ?_
      refine r_iload_n E (q := 23) 1 dX3_given_22 rfl rfl rfl ?_
      refine r_bipush E (q := 25) (v := 6) dX3_given_23 (by decide) rfl ?_
      refine r_imul E (q := 26) dX3_given_25 rfl ?_
      refine r_iadd E (q := 27) dX3_given_26 rfl ?_
      refine r_iload_n E (q := 28) 2 dX3_given_27 rfl rfl rfl ?_
      refine r_iadd E (q := 29) dX3_given_28 rfl ?_
      refine r_iald E (q := 30) 24 wc_24 (h1 (by assumption) (by assumption)) dX3_given_29 rfl ?_
      exact r_iret E T dX3_given_30 (eqI.mk (by unfold fX3_given; exact ((if_neg c1).trans (if_pos c2)).symm) rfl)
    · refine r_iconst E (q := 13) (v := 0) dX3_given_12 (by decide) rfl ?_
      exact r_iret E T dX3_given_13 (eqI.mk (by unfold fX3_given; exact ((if_neg c1).trans (if_neg c2)).symm) rfl)

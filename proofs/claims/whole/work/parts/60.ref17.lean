set_option maxRecDepth 100000 in
set_option maxHeartbeats 800000 in
theorem pn_a {z : Zt} (E : EN z cX6_node RX6) {w0 : va_W} {P : Option Value → va_W → Prop} {lvl : Nat} (T : RT z (some .int) lvl w0 P 0 0) (hz : zn z = 7) {ad : Nat → Nat} {G : Nat → Nat → Int32} {V : Nat → Int32} (hlv : 5 ≤ lvl) (x a b m v : Int32) 
    (k1 : fX6_in x.toInt64 0 8 = 0 → P (some (.int (-1))) (WM (zk z) ad G V)) 
    (k2 : ¬ (fX6_in x.toInt64 0 8 = 0) → ¬ (x = 0) → fX6_isNode V a = 0 → P (some (.int (-1))) (WM (zk z) ad G V)) 
    (k3 : ¬ (fX6_in x.toInt64 0 8 = 0) → ¬ (x = 0) → ¬ (fX6_isNode V a = 0) → fX6_isTwo x = 0 → fX6_hasMember x = 0 → ¬ (fX6_isRight V x v m = 0) → ¬ (V 1 = 60) → WW z 0 0 (WM (zk z) ad G V) 100 [(0, .ref (ad 0)), (1, .int x), (2, .int a), (3, .int b), (4, .int m), (5, .int v)] []) 
    (k4 : ¬ (fX6_in x.toInt64 0 8 = 0) → ¬ (x = 0) → ¬ (fX6_isNode V a = 0) → fX6_isTwo x = 0 → fX6_hasMember x = 0 → ¬ (fX6_isRight V x v m = 0) → V 1 = 60 → P (some (.int (-2))) (WM (zk z) ad G V)) 
    (k5 : ¬ (fX6_in x.toInt64 0 8 = 0) → ¬ (x = 0) → ¬ (fX6_isNode V a = 0) → fX6_isTwo x = 0 → fX6_hasMember x = 0 → fX6_isRight V x v m = 0 → P (some (.int (-1))) (WM (zk z) ad G V)) 
    (k6 : ¬ (fX6_in x.toInt64 0 8 = 0) → ¬ (x = 0) → ¬ (fX6_isNode V a = 0) → fX6_isTwo x = 0 → ¬ (fX6_hasMember x = 0) → fX6_in m.toInt64 0 5 = 0 → P (some (.int (-1))) (WM (zk z) ad G V)) 
    (k7 : ¬ (fX6_in x.toInt64 0 8 = 0) → ¬ (x = 0) → ¬ (fX6_isNode V a = 0) → fX6_isTwo x = 0 → ¬ (fX6_hasMember x = 0) → ¬ (fX6_in m.toInt64 0 5 = 0) → ¬ (fX6_isRight V x v m = 0) → ¬ (V 1 = 60) → WW z 0 0 (WM (zk z) ad G V) 100 [(0, .ref (ad 0)), (1, .int x), (2, .int a), (3, .int b), (4, .int m), (5, .int v)] []) 
    (k8 : ¬ (fX6_in x.toInt64 0 8 = 0) → ¬ (x = 0) → ¬ (fX6_isNode V a = 0) → fX6_isTwo x = 0 → ¬ (fX6_hasMember x = 0) → ¬ (fX6_in m.toInt64 0 5 = 0) → ¬ (fX6_isRight V x v m = 0) → V 1 = 60 → P (some (.int (-2))) (WM (zk z) ad G V)) 
    (k9 : ¬ (fX6_in x.toInt64 0 8 = 0) → ¬ (x = 0) → ¬ (fX6_isNode V a = 0) → fX6_isTwo x = 0 → ¬ (fX6_hasMember x = 0) → ¬ (fX6_in m.toInt64 0 5 = 0) → fX6_isRight V x v m = 0 → P (some (.int (-1))) (WM (zk z) ad G V)) 
    (k10 : ¬ (fX6_in x.toInt64 0 8 = 0) → ¬ (x = 0) → ¬ (fX6_isNode V a = 0) → ¬ (fX6_isTwo x = 0) → fX6_isNode V b = 0 → P (some (.int (-1))) (WM (zk z) ad G V)) 
    (k11 : ¬ (fX6_in x.toInt64 0 8 = 0) → ¬ (x = 0) → ¬ (fX6_isNode V a = 0) → ¬ (fX6_isTwo x = 0) → ¬ (fX6_isNode V b = 0) → fX6_hasMember x = 0 → ¬ (fX6_isRight V x v m = 0) → ¬ (V 1 = 60) → WW z 0 0 (WM (zk z) ad G V) 100 [(0, .ref (ad 0)), (1, .int x), (2, .int a), (3, .int b), (4, .int m), (5, .int v)] []) 
    (k12 : ¬ (fX6_in x.toInt64 0 8 = 0) → ¬ (x = 0) → ¬ (fX6_isNode V a = 0) → ¬ (fX6_isTwo x = 0) → ¬ (fX6_isNode V b = 0) → fX6_hasMember x = 0 → ¬ (fX6_isRight V x v m = 0) → V 1 = 60 → P (some (.int (-2))) (WM (zk z) ad G V)) 
    (k13 : ¬ (fX6_in x.toInt64 0 8 = 0) → ¬ (x = 0) → ¬ (fX6_isNode V a = 0) → ¬ (fX6_isTwo x = 0) → ¬ (fX6_isNode V b = 0) → fX6_hasMember x = 0 → fX6_isRight V x v m = 0 → P (some (.int (-1))) (WM (zk z) ad G V)) 
    (k14 : ¬ (fX6_in x.toInt64 0 8 = 0) → ¬ (x = 0) → ¬ (fX6_isNode V a = 0) → ¬ (fX6_isTwo x = 0) → ¬ (fX6_isNode V b = 0) → ¬ (fX6_hasMember x = 0) → fX6_in m.toInt64 0 5 = 0 → P (some (.int (-1))) (WM (zk z) ad G V)) 
    (k15 : ¬ (fX6_in x.toInt64 0 8 = 0) → ¬ (x = 0) → ¬ (fX6_isNode V a = 0) → ¬ (fX6_isTwo x = 0) → ¬ (fX6_isNode V b = 0) → ¬ (fX6_hasMember x = 0) → ¬ (fX6_in m.toInt64 0 5 = 0) → ¬ (fX6_isRight V x v m = 0) → ¬ (V 1 = 60) → WW z 0 0 (WM (zk z) ad G V) 100 [(0, .ref (ad 0)), (1, .int x), (2, .int a), (3, .int b), (4, .int m), (5, .int v)] []) 
    (k16 : ¬ (fX6_in x.toInt64 0 8 = 0) → ¬ (x = 0) → ¬ (fX6_isNode V a = 0) → ¬ (fX6_isTwo x = 0) → ¬ (fX6_isNode V b = 0) → ¬ (fX6_hasMember x = 0) → ¬ (fX6_in m.toInt64 0 5 = 0) → ¬ (fX6_isRight V x v m = 0) → V 1 = 60 → P (some (.int (-2))) (WM (zk z) ad G V)) 
    (k17 : ¬ (fX6_in x.toInt64 0 8 = 0) → ¬ (x = 0) → ¬ (fX6_isNode V a = 0) → ¬ (fX6_isTwo x = 0) → ¬ (fX6_isNode V b = 0) → ¬ (fX6_hasMember x = 0) → ¬ (fX6_in m.toInt64 0 5 = 0) → fX6_isRight V x v m = 0 → P (some (.int (-1))) (WM (zk z) ad G V)) 
    (k18 : ¬ (fX6_in x.toInt64 0 8 = 0) → x = 0 → ¬ (fX6_in a.toInt64 0 3 = 0) → fX6_isTwo x = 0 → fX6_hasMember x = 0 → ¬ (fX6_isRight V x v m = 0) → ¬ (V 1 = 60) → WW z 0 0 (WM (zk z) ad G V) 100 [(0, .ref (ad 0)), (1, .int x), (2, .int a), (3, .int b), (4, .int m), (5, .int v)] []) 
    (k19 : ¬ (fX6_in x.toInt64 0 8 = 0) → x = 0 → ¬ (fX6_in a.toInt64 0 3 = 0) → fX6_isTwo x = 0 → fX6_hasMember x = 0 → ¬ (fX6_isRight V x v m = 0) → V 1 = 60 → P (some (.int (-2))) (WM (zk z) ad G V)) 
    (k20 : ¬ (fX6_in x.toInt64 0 8 = 0) → x = 0 → ¬ (fX6_in a.toInt64 0 3 = 0) → fX6_isTwo x = 0 → fX6_hasMember x = 0 → fX6_isRight V x v m = 0 → P (some (.int (-1))) (WM (zk z) ad G V)) 
    (k21 : ¬ (fX6_in x.toInt64 0 8 = 0) → x = 0 → ¬ (fX6_in a.toInt64 0 3 = 0) → fX6_isTwo x = 0 → ¬ (fX6_hasMember x = 0) → fX6_in m.toInt64 0 5 = 0 → P (some (.int (-1))) (WM (zk z) ad G V)) 
    (k22 : ¬ (fX6_in x.toInt64 0 8 = 0) → x = 0 → ¬ (fX6_in a.toInt64 0 3 = 0) → fX6_isTwo x = 0 → ¬ (fX6_hasMember x = 0) → ¬ (fX6_in m.toInt64 0 5 = 0) → ¬ (fX6_isRight V x v m = 0) → ¬ (V 1 = 60) → WW z 0 0 (WM (zk z) ad G V) 100 [(0, .ref (ad 0)), (1, .int x), (2, .int a), (3, .int b), (4, .int m), (5, .int v)] []) 
    (k23 : ¬ (fX6_in x.toInt64 0 8 = 0) → x = 0 → ¬ (fX6_in a.toInt64 0 3 = 0) → fX6_isTwo x = 0 → ¬ (fX6_hasMember x = 0) → ¬ (fX6_in m.toInt64 0 5 = 0) → ¬ (fX6_isRight V x v m = 0) → V 1 = 60 → P (some (.int (-2))) (WM (zk z) ad G V)) 
    (k24 : ¬ (fX6_in x.toInt64 0 8 = 0) → x = 0 → ¬ (fX6_in a.toInt64 0 3 = 0) → fX6_isTwo x = 0 → ¬ (fX6_hasMember x = 0) → ¬ (fX6_in m.toInt64 0 5 = 0) → fX6_isRight V x v m = 0 → P (some (.int (-1))) (WM (zk z) ad G V)) 
    (k25 : ¬ (fX6_in x.toInt64 0 8 = 0) → x = 0 → ¬ (fX6_in a.toInt64 0 3 = 0) → ¬ (fX6_isTwo x = 0) → fX6_isNode V b = 0 → P (some (.int (-1))) (WM (zk z) ad G V)) 
    (k26 : ¬ (fX6_in x.toInt64 0 8 = 0) → x = 0 → ¬ (fX6_in a.toInt64 0 3 = 0) → ¬ (fX6_isTwo x = 0) → ¬ (fX6_isNode V b = 0) → fX6_hasMember x = 0 → ¬ (fX6_isRight V x v m = 0) → ¬ (V 1 = 60) → WW z 0 0 (WM (zk z) ad G V) 100 [(0, .ref (ad 0)), (1, .int x), (2, .int a), (3, .int b), (4, .int m), (5, .int v)] []) 
    (k27 : ¬ (fX6_in x.toInt64 0 8 = 0) → x = 0 → ¬ (fX6_in a.toInt64 0 3 = 0) → ¬ (fX6_isTwo x = 0) → ¬ (fX6_isNode V b = 0) → fX6_hasMember x = 0 → ¬ (fX6_isRight V x v m = 0) → V 1 = 60 → P (some (.int (-2))) (WM (zk z) ad G V)) 
    (k28 : ¬ (fX6_in x.toInt64 0 8 = 0) → x = 0 → ¬ (fX6_in a.toInt64 0 3 = 0) → ¬ (fX6_isTwo x = 0) → ¬ (fX6_isNode V b = 0) → fX6_hasMember x = 0 → fX6_isRight V x v m = 0 → P (some (.int (-1))) (WM (zk z) ad G V)) 
    (k29 : ¬ (fX6_in x.toInt64 0 8 = 0) → x = 0 → ¬ (fX6_in a.toInt64 0 3 = 0) → ¬ (fX6_isTwo x = 0) → ¬ (fX6_isNode V b = 0) → ¬ (fX6_hasMember x = 0) → fX6_in m.toInt64 0 5 = 0 → P (some (.int (-1))) (WM (zk z) ad G V)) 
    (k30 : ¬ (fX6_in x.toInt64 0 8 = 0) → x = 0 → ¬ (fX6_in a.toInt64 0 3 = 0) → ¬ (fX6_isTwo x = 0) → ¬ (fX6_isNode V b = 0) → ¬ (fX6_hasMember x = 0) → ¬ (fX6_in m.toInt64 0 5 = 0) → ¬ (fX6_isRight V x v m = 0) → ¬ (V 1 = 60) → WW z 0 0 (WM (zk z) ad G V) 100 [(0, .ref (ad 0)), (1, .int x), (2, .int a), (3, .int b), (4, .int m), (5, .int v)] []) 
    (k31 : ¬ (fX6_in x.toInt64 0 8 = 0) → x = 0 → ¬ (fX6_in a.toInt64 0 3 = 0) → ¬ (fX6_isTwo x = 0) → ¬ (fX6_isNode V b = 0) → ¬ (fX6_hasMember x = 0) → ¬ (fX6_in m.toInt64 0 5 = 0) → ¬ (fX6_isRight V x v m = 0) → V 1 = 60 → P (some (.int (-2))) (WM (zk z) ad G V)) 
    (k32 : ¬ (fX6_in x.toInt64 0 8 = 0) → x = 0 → ¬ (fX6_in a.toInt64 0 3 = 0) → ¬ (fX6_isTwo x = 0) → ¬ (fX6_isNode V b = 0) → ¬ (fX6_hasMember x = 0) → ¬ (fX6_in m.toInt64 0 5 = 0) → fX6_isRight V x v m = 0 → P (some (.int (-1))) (WM (zk z) ad G V)) 
    (k33 : ¬ (fX6_in x.toInt64 0 8 = 0) → x = 0 → fX6_in a.toInt64 0 3 = 0 → P (some (.int (-1))) (WM (zk z) ad G V)) :
    WW z 0 0 (WM (zk z) ad G V) 0 [(0, .ref (ad 0)), (1, .int x), (2, .int a), (3, .int b), (4, .int m), (5, .int v)] [] := by
  refine r_iload_n E (q := 1) 1 dX6_node_0 rfl rfl rfl ?_
  refine r_i2l E (q := 2) dX6_node_1 rfl ?_
  refine r_lconst E (q := 3) (v := 0) dX6_node_2 (by decide) rfl ?_
  refine r_ldc2 E (q := 6) kX6_146 dX6_node_3 rfl ?_
  refine rSi E (q := 9) csX6_90 T.rr [.long x.toInt64, .long 0, .long 8] (c_X6_in x.toInt64 0 8) (by omega) rfl rfl (Nat.le_of_ble_eq_true rfl) ⟨Nat.zero_le _, Nat.zero_le _⟩ dX6_node_6 rfl ?_
  refine r_if_eq E (q := 12) 86 dX6_node_9 (by decide) rfl (fun c1 => ?_) (fun c1 => ?_)
  · refine r_iconst E (q := 87) (v := (-1)) dX6_node_86 (by decide) rfl ?_
    exact r_iret E T dX6_node_87 (k1 c1)
  · refine r_iload_n E (q := 13) 1 dX6_node_12 rfl rfl rfl ?_
    refine r_if_ne E (q := 16) 31 dX6_node_13 (by decide) rfl (fun c2 => ?_) (fun c2 => ?_)
    · refine r_aload_n E (q := 32) 0 dX6_node_31 rfl rfl rfl ?_
      refine r_iload_n E (q := 33) 2 dX6_node_32 rfl rfl rfl ?_
      refine rVi E (q := 36) cvX6_148 T.rr 0 wm_0 rfl [.int a] (c_X6_isNode a) (by omega) rfl rfl (Nat.le_of_ble_eq_true rfl) ⟨Nat.zero_le _, Nat.zero_le _⟩ dX6_node_33 rfl ?_
      refine r_if_eq E (q := 39) 86 dX6_node_36 (by decide) rfl (fun c3 => ?_) (fun c3 => ?_)
      · refine r_iconst E (q := 87) (v := (-1)) dX6_node_86 (by decide) rfl ?_
        exact r_iret E T dX6_node_87 (k2 c1 c2 c3)
      · refine r_iload_n E (q := 40) 1 dX6_node_39 rfl rfl rfl ?_
        refine rSi E (q := 43) csX6_129 T.rr [.int x] (c_X6_isTwo x) (by omega) rfl rfl (Nat.le_of_ble_eq_true rfl) ⟨Nat.zero_le _, Nat.zero_le _⟩ dX6_node_40 rfl ?_
        refine r_if_eq E (q := 46) 54 dX6_node_43 (by decide) rfl (fun c4 => ?_) (fun c4 => ?_)
        · refine r_iload_n E (q := 55) 1 dX6_node_54 rfl rfl rfl ?_
          refine rSi E (q := 58) csX6_140 T.rr [.int x] (c_X6_hasMember x) (by omega) rfl rfl (Nat.le_of_ble_eq_true rfl) ⟨Nat.zero_le _, Nat.zero_le _⟩ dX6_node_55 rfl ?_
          refine r_if_eq E (q := 61) 74 dX6_node_58 (by decide) rfl (fun c5 => ?_) (fun c5 => ?_)
          · refine r_aload_n E (q := 75) 0 dX6_node_74 rfl rfl rfl ?_
            refine r_iload_n E (q := 76) 1 dX6_node_75 rfl rfl rfl ?_
            refine r_iload E (q := 78) 5 dX6_node_76 rfl rfl ?_
            refine r_iload E (q := 80) 4 dX6_node_78 rfl rfl ?_
            refine rVi E (q := 83) cvX6_151 T.rr 0 wm_0 rfl [.int x, .int v, .int m] (c_X6_isRight x v m) (by omega) rfl rfl (Nat.le_of_ble_eq_true rfl) ⟨Nat.zero_le _, Nat.zero_le _⟩ dX6_node_80 rfl ?_
            refine r_if_ne E (q := 86) 88 dX6_node_83 (by decide) rfl (fun c6 => ?_) (fun c6 => ?_)
            · refine r_aload_n E (q := 89) 0 dX6_node_88 rfl rfl rfl ?_
              refine r_get E (q := 92) fX6_120 0 wm_0 rfl dX6_node_89 rfl ?_
              refine r_bipush E (q := 94) (v := 60) dX6_node_92 (by decide) rfl ?_
              refine r_icmp_ne E (q := 97) 100 dX6_node_94 (by decide) rfl (fun c7 => ?_) (fun c7 => ?_)
              · exact k3 c1 c2 c3 c4 c5 c6 c7
              · refine r_bipush E (q := 99) (v := (-2)) dX6_node_97 (by decide) rfl ?_
                exact r_iret E T dX6_node_99 (k4 c1 c2 c3 c4 c5 c6 c7)
            · refine r_iconst E (q := 87) (v := (-1)) dX6_node_86 (by decide) rfl ?_
              exact r_iret E T dX6_node_87 (k5 c1 c2 c3 c4 c5 c6)
          · refine r_iload E (q := 63) 4 dX6_node_61 rfl rfl ?_
            refine r_i2l E (q := 64) dX6_node_63 rfl ?_
            refine r_lconst E (q := 65) (v := 0) dX6_node_64 (by decide) rfl ?_
            refine r_ldc2 E (q := 68) kX6_112 dX6_node_65 rfl ?_
            refine rSi E (q := 71) csX6_90 T.rr [.long m.toInt64, .long 0, .long 5] (c_X6_in m.toInt64 0 5) (by omega) rfl rfl (Nat.le_of_ble_eq_true rfl) ⟨Nat.zero_le _, Nat.zero_le _⟩ dX6_node_68 rfl ?_
            refine r_if_eq E (q := 74) 86 dX6_node_71 (by decide) rfl (fun c8 => ?_) (fun c8 => ?_)
            · refine r_iconst E (q := 87) (v := (-1)) dX6_node_86 (by decide) rfl ?_
              exact r_iret E T dX6_node_87 (k6 c1 c2 c3 c4 c5 c8)
            · refine r_aload_n E (q := 75) 0 dX6_node_74 rfl rfl rfl ?_
              refine r_iload_n E (q := 76) 1 dX6_node_75 rfl rfl rfl ?_
              refine r_iload E (q := 78) 5 dX6_node_76 rfl rfl ?_
              refine r_iload E (q := 80) 4 dX6_node_78 rfl rfl ?_
              refine rVi E (q := 83) cvX6_151 T.rr 0 wm_0 rfl [.int x, .int v, .int m] (c_X6_isRight x v m) (by omega) rfl rfl (Nat.le_of_ble_eq_true rfl) ⟨Nat.zero_le _, Nat.zero_le _⟩ dX6_node_80 rfl ?_
              refine r_if_ne E (q := 86) 88 dX6_node_83 (by decide) rfl (fun c9 => ?_) (fun c9 => ?_)
              · refine r_aload_n E (q := 89) 0 dX6_node_88 rfl rfl rfl ?_
                refine r_get E (q := 92) fX6_120 0 wm_0 rfl dX6_node_89 rfl ?_
                refine r_bipush E (q := 94) (v := 60) dX6_node_92 (by decide) rfl ?_
                refine r_icmp_ne E (q := 97) 100 dX6_node_94 (by decide) rfl (fun c10 => ?_) (fun c10 => ?_)
                · exact k7 c1 c2 c3 c4 c5 c8 c9 c10
                · refine r_bipush E (q := 99) (v := (-2)) dX6_node_97 (by decide) rfl ?_
                  exact r_iret E T dX6_node_99 (k8 c1 c2 c3 c4 c5 c8 c9 c10)
              · refine r_iconst E (q := 87) (v := (-1)) dX6_node_86 (by decide) rfl ?_
                exact r_iret E T dX6_node_87 (k9 c1 c2 c3 c4 c5 c8 c9)
        · refine r_aload_n E (q := 47) 0 dX6_node_46 rfl rfl rfl ?_
          refine r_iload_n E (q := 48) 3 dX6_node_47 rfl rfl rfl ?_
          refine rVi E (q := 51) cvX6_148 T.rr 0 wm_0 rfl [.int b] (c_X6_isNode b) (by omega) rfl rfl (Nat.le_of_ble_eq_true rfl) ⟨Nat.zero_le _, Nat.zero_le _⟩ dX6_node_48 rfl ?_
          refine r_if_eq E (q := 54) 86 dX6_node_51 (by decide) rfl (fun c11 => ?_) (fun c11 => ?_)
          · refine r_iconst E (q := 87) (v := (-1)) dX6_node_86 (by decide) rfl ?_
            exact r_iret E T dX6_node_87 (k10 c1 c2 c3 c4 c11)
          · refine r_iload_n E (q := 55) 1 dX6_node_54 rfl rfl rfl ?_
            refine rSi E (q := 58) csX6_140 T.rr [.int x] (c_X6_hasMember x) (by omega) rfl rfl (Nat.le_of_ble_eq_true rfl) ⟨Nat.zero_le _, Nat.zero_le _⟩ dX6_node_55 rfl ?_
            refine r_if_eq E (q := 61) 74 dX6_node_58 (by decide) rfl (fun c12 => ?_) (fun c12 => ?_)
            · refine r_aload_n E (q := 75) 0 dX6_node_74 rfl rfl rfl ?_
              refine r_iload_n E (q := 76) 1 dX6_node_75 rfl rfl rfl ?_
              refine r_iload E (q := 78) 5 dX6_node_76 rfl rfl ?_
              refine r_iload E (q := 80) 4 dX6_node_78 rfl rfl ?_
              refine rVi E (q := 83) cvX6_151 T.rr 0 wm_0 rfl [.int x, .int v, .int m] (c_X6_isRight x v m) (by omega) rfl rfl (Nat.le_of_ble_eq_true rfl) ⟨Nat.zero_le _, Nat.zero_le _⟩ dX6_node_80 rfl ?_
              refine r_if_ne E (q := 86) 88 dX6_node_83 (by decide) rfl (fun c13 => ?_) (fun c13 => ?_)
              · refine r_aload_n E (q := 89) 0 dX6_node_88 rfl rfl rfl ?_
                refine r_get E (q := 92) fX6_120 0 wm_0 rfl dX6_node_89 rfl ?_
                refine r_bipush E (q := 94) (v := 60) dX6_node_92 (by decide) rfl ?_
                refine r_icmp_ne E (q := 97) 100 dX6_node_94 (by decide) rfl (fun c14 => ?_) (fun c14 => ?_)
                · exact k11 c1 c2 c3 c4 c11 c12 c13 c14
                · refine r_bipush E (q := 99) (v := (-2)) dX6_node_97 (by decide) rfl ?_
                  exact r_iret E T dX6_node_99 (k12 c1 c2 c3 c4 c11 c12 c13 c14)
              · refine r_iconst E (q := 87) (v := (-1)) dX6_node_86 (by decide) rfl ?_
                exact r_iret E T dX6_node_87 (k13 c1 c2 c3 c4 c11 c12 c13)
            · refine r_iload E (q := 63) 4 dX6_node_61 rfl rfl ?_
              refine r_i2l E (q := 64) dX6_node_63 rfl ?_
              refine r_lconst E (q := 65) (v := 0) dX6_node_64 (by decide) rfl ?_
              refine r_ldc2 E (q := 68) kX6_112 dX6_node_65 rfl ?_
              refine rSi E (q := 71) csX6_90 T.rr [.long m.toInt64, .long 0, .long 5] (c_X6_in m.toInt64 0 5) (by omega) rfl rfl (Nat.le_of_ble_eq_true rfl) ⟨Nat.zero_le _, Nat.zero_le _⟩ dX6_node_68 rfl ?_
              refine r_if_eq E (q := 74) 86 dX6_node_71 (by decide) rfl (fun c15 => ?_) (fun c15 => ?_)
              · refine r_iconst E (q := 87) (v := (-1)) dX6_node_86 (by decide) rfl ?_
                exact r_iret E T dX6_node_87 (k14 c1 c2 c3 c4 c11 c12 c15)
              · refine r_aload_n E (q := 75) 0 dX6_node_74 rfl rfl rfl ?_
                refine r_iload_n E (q := 76) 1 dX6_node_75 rfl rfl rfl ?_
                refine r_iload E (q := 78) 5 dX6_node_76 rfl rfl ?_
                refine r_iload E (q := 80) 4 dX6_node_78 rfl rfl ?_
                refine rVi E (q := 83) cvX6_151 T.rr 0 wm_0 rfl [.int x, .int v, .int m] (c_X6_isRight x v m) (by omega) rfl rfl (Nat.le_of_ble_eq_true rfl) ⟨Nat.zero_le _, Nat.zero_le _⟩ dX6_node_80 rfl ?_
                refine r_if_ne E (q := 86) 88 dX6_node_83 (by decide) rfl (fun c16 => ?_) (fun c16 => ?_)
                · refine r_aload_n E (q := 89) 0 dX6_node_88 rfl rfl rfl ?_
                  refine r_get E (q := 92) fX6_120 0 wm_0 rfl dX6_node_89 rfl ?_
                  refine r_bipush E (q := 94) (v := 60) dX6_node_92 (by decide) rfl ?_
                  refine r_icmp_ne E (q := 97) 100 dX6_node_94 (by decide) rfl (fun c17 => ?_) (fun c17 => ?_)
                  · exact k15 c1 c2 c3 c4 c11 c12 c15 c16 c17
                  · refine r_bipush E (q := 99) (v := (-2)) dX6_node_97 (by decide) rfl ?_
                    exact r_iret E T dX6_node_99 (k16 c1 c2 c3 c4 c11 c12 c15 c16 c17)
                · refine r_iconst E (q := 87) (v := (-1)) dX6_node_86 (by decide) rfl ?_
                  exact r_iret E T dX6_node_87 (k17 c1 c2 c3 c4 c11 c12 c15 c16)
    · refine r_iload_n E (q := 17) 2 dX6_node_16 rfl rfl rfl ?_
      refine r_i2l E (q := 18) dX6_node_17 rfl ?_
      refine r_lconst E (q := 19) (v := 0) dX6_node_18 (by decide) rfl ?_
      refine r_ldc2 E (q := 22) kX6_88 dX6_node_19 rfl ?_
      refine rSi E (q := 25) csX6_90 T.rr [.long a.toInt64, .long 0, .long 3] (c_X6_in a.toInt64 0 3) (by omega) rfl rfl (Nat.le_of_ble_eq_true rfl) ⟨Nat.zero_le _, Nat.zero_le _⟩ dX6_node_22 rfl ?_
      refine r_if_ne E (q := 28) 39 dX6_node_25 (by decide) rfl (fun c18 => ?_) (fun c18 => ?_)
      · refine r_iload_n E (q := 40) 1 dX6_node_39 rfl rfl rfl ?_
        refine rSi E (q := 43) csX6_129 T.rr [.int x] (c_X6_isTwo x) (by omega) rfl rfl (Nat.le_of_ble_eq_true rfl) ⟨Nat.zero_le _, Nat.zero_le _⟩ dX6_node_40 rfl ?_
        refine r_if_eq E (q := 46) 54 dX6_node_43 (by decide) rfl (fun c19 => ?_) (fun c19 => ?_)
        · refine r_iload_n E (q := 55) 1 dX6_node_54 rfl rfl rfl ?_
          refine rSi E (q := 58) csX6_140 T.rr [.int x] (c_X6_hasMember x) (by omega) rfl rfl (Nat.le_of_ble_eq_true rfl) ⟨Nat.zero_le _, Nat.zero_le _⟩ dX6_node_55 rfl ?_
          refine r_if_eq E (q := 61) 74 dX6_node_58 (by decide) rfl (fun c20 => ?_) (fun c20 => ?_)
          · refine r_aload_n E (q := 75) 0 dX6_node_74 rfl rfl rfl ?_
            refine r_iload_n E (q := 76) 1 dX6_node_75 rfl rfl rfl ?_
            refine r_iload E (q := 78) 5 dX6_node_76 rfl rfl ?_
            refine r_iload E (q := 80) 4 dX6_node_78 rfl rfl ?_
            refine rVi E (q := 83) cvX6_151 T.rr 0 wm_0 rfl [.int x, .int v, .int m] (c_X6_isRight x v m) (by omega) rfl rfl (Nat.le_of_ble_eq_true rfl) ⟨Nat.zero_le _, Nat.zero_le _⟩ dX6_node_80 rfl ?_
            refine r_if_ne E (q := 86) 88 dX6_node_83 (by decide) rfl (fun c21 => ?_) (fun c21 => ?_)
            · refine r_aload_n E (q := 89) 0 dX6_node_88 rfl rfl rfl ?_
              refine r_get E (q := 92) fX6_120 0 wm_0 rfl dX6_node_89 rfl ?_
              refine r_bipush E (q := 94) (v := 60) dX6_node_92 (by decide) rfl ?_
              refine r_icmp_ne E (q := 97) 100 dX6_node_94 (by decide) rfl (fun c22 => ?_) (fun c22 => ?_)
              · exact k18 c1 c2 c18 c19 c20 c21 c22
              · refine r_bipush E (q := 99) (v := (-2)) dX6_node_97 (by decide) rfl ?_
                exact r_iret E T dX6_node_99 (k19 c1 c2 c18 c19 c20 c21 c22)
            · refine r_iconst E (q := 87) (v := (-1)) dX6_node_86 (by decide) rfl ?_
              exact r_iret E T dX6_node_87 (k20 c1 c2 c18 c19 c20 c21)
          · refine r_iload E (q := 63) 4 dX6_node_61 rfl rfl ?_
            refine r_i2l E (q := 64) dX6_node_63 rfl ?_
            refine r_lconst E (q := 65) (v := 0) dX6_node_64 (by decide) rfl ?_
            refine r_ldc2 E (q := 68) kX6_112 dX6_node_65 rfl ?_
            refine rSi E (q := 71) csX6_90 T.rr [.long m.toInt64, .long 0, .long 5] (c_X6_in m.toInt64 0 5) (by omega) rfl rfl (Nat.le_of_ble_eq_true rfl) ⟨Nat.zero_le _, Nat.zero_le _⟩ dX6_node_68 rfl ?_
            refine r_if_eq E (q := 74) 86 dX6_node_71 (by decide) rfl (fun c23 => ?_) (fun c23 => ?_)
            · refine r_iconst E (q := 87) (v := (-1)) dX6_node_86 (by decide) rfl ?_
              exact r_iret E T dX6_node_87 (k21 c1 c2 c18 c19 c20 c23)
            · refine r_aload_n E (q := 75) 0 dX6_node_74 rfl rfl rfl ?_
              refine r_iload_n E (q := 76) 1 dX6_node_75 rfl rfl rfl ?_
              refine r_iload E (q := 78) 5 dX6_node_76 rfl rfl ?_
              refine r_iload E (q := 80) 4 dX6_node_78 rfl rfl ?_
              refine rVi E (q := 83) cvX6_151 T.rr 0 wm_0 rfl [.int x, .int v, .int m] (c_X6_isRight x v m) (by omega) rfl rfl (Nat.le_of_ble_eq_true rfl) ⟨Nat.zero_le _, Nat.zero_le _⟩ dX6_node_80 rfl ?_
              refine r_if_ne E (q := 86) 88 dX6_node_83 (by decide) rfl (fun c24 => ?_) (fun c24 => ?_)
              · refine r_aload_n E (q := 89) 0 dX6_node_88 rfl rfl rfl ?_
                refine r_get E (q := 92) fX6_120 0 wm_0 rfl dX6_node_89 rfl ?_
                refine r_bipush E (q := 94) (v := 60) dX6_node_92 (by decide) rfl ?_
                refine r_icmp_ne E (q := 97) 100 dX6_node_94 (by decide) rfl (fun c25 => ?_) (fun c25 => ?_)
                · exact k22 c1 c2 c18 c19 c20 c23 c24 c25
                · refine r_bipush E (q := 99) (v := (-2)) dX6_node_97 (by decide) rfl ?_
                  exact r_iret E T dX6_node_99 (k23 c1 c2 c18 c19 c20 c23 c24 c25)
              · refine r_iconst E (q := 87) (v := (-1)) dX6_node_86 (by decide) rfl ?_
                exact r_iret E T dX6_node_87 (k24 c1 c2 c18 c19 c20 c23 c24)
        · refine r_aload_n E (q := 47) 0 dX6_node_46 rfl rfl rfl ?_
          refine r_iload_n E (q := 48) 3 dX6_node_47 rfl rfl rfl ?_
          refine rVi E (q := 51) cvX6_148 T.rr 0 wm_0 rfl [.int b] (c_X6_isNode b) (by omega) rfl rfl (Nat.le_of_ble_eq_true rfl) ⟨Nat.zero_le _, Nat.zero_le _⟩ dX6_node_48 rfl ?_
          refine r_if_eq E (q := 54) 86 dX6_node_51 (by decide) rfl (fun c26 => ?_) (fun c26 => ?_)
          · refine r_iconst E (q := 87) (v := (-1)) dX6_node_86 (by decide) rfl ?_
            exact r_iret E T dX6_node_87 (k25 c1 c2 c18 c19 c26)
          · refine r_iload_n E (q := 55) 1 dX6_node_54 rfl rfl rfl ?_
            refine rSi E (q := 58) csX6_140 T.rr [.int x] (c_X6_hasMember x) (by omega) rfl rfl (Nat.le_of_ble_eq_true rfl) ⟨Nat.zero_le _, Nat.zero_le _⟩ dX6_node_55 rfl ?_
            refine r_if_eq E (q := 61) 74 dX6_node_58 (by decide) rfl (fun c27 => ?_) (fun c27 => ?_)
            · refine r_aload_n E (q := 75) 0 dX6_node_74 rfl rfl rfl ?_
              refine r_iload_n E (q := 76) 1 dX6_node_75 rfl rfl rfl ?_
              refine r_iload E (q := 78) 5 dX6_node_76 rfl rfl ?_
              refine r_iload E (q := 80) 4 dX6_node_78 rfl rfl ?_
              refine rVi E (q := 83) cvX6_151 T.rr 0 wm_0 rfl [.int x, .int v, .int m] (c_X6_isRight x v m) (by omega) rfl rfl (Nat.le_of_ble_eq_true rfl) ⟨Nat.zero_le _, Nat.zero_le _⟩ dX6_node_80 rfl ?_
              refine r_if_ne E (q := 86) 88 dX6_node_83 (by decide) rfl (fun c28 => ?_) (fun c28 => ?_)
              · refine r_aload_n E (q := 89) 0 dX6_node_88 rfl rfl rfl ?_
                refine r_get E (q := 92) fX6_120 0 wm_0 rfl dX6_node_89 rfl ?_
                refine r_bipush E (q := 94) (v := 60) dX6_node_92 (by decide) rfl ?_
                refine r_icmp_ne E (q := 97) 100 dX6_node_94 (by decide) rfl (fun c29 => ?_) (fun c29 => ?_)
                · exact k26 c1 c2 c18 c19 c26 c27 c28 c29
                · refine r_bipush E (q := 99) (v := (-2)) dX6_node_97 (by decide) rfl ?_
                  exact r_iret E T dX6_node_99 (k27 c1 c2 c18 c19 c26 c27 c28 c29)
              · refine r_iconst E (q := 87) (v := (-1)) dX6_node_86 (by decide) rfl ?_
                exact r_iret E T dX6_node_87 (k28 c1 c2 c18 c19 c26 c27 c28)
            · refine r_iload E (q := 63) 4 dX6_node_61 rfl rfl ?_
              refine r_i2l E (q := 64) dX6_node_63 rfl ?_
              refine r_lconst E (q := 65) (v := 0) dX6_node_64 (by decide) rfl ?_
              refine r_ldc2 E (q := 68) kX6_112 dX6_node_65 rfl ?_
              refine rSi E (q := 71) csX6_90 T.rr [.long m.toInt64, .long 0, .long 5] (c_X6_in m.toInt64 0 5) (by omega) rfl rfl (Nat.le_of_ble_eq_true rfl) ⟨Nat.zero_le _, Nat.zero_le _⟩ dX6_node_68 rfl ?_
              refine r_if_eq E (q := 74) 86 dX6_node_71 (by decide) rfl (fun c30 => ?_) (fun c30 => ?_)
              · refine r_iconst E (q := 87) (v := (-1)) dX6_node_86 (by decide) rfl ?_
                exact r_iret E T dX6_node_87 (k29 c1 c2 c18 c19 c26 c27 c30)
              · refine r_aload_n E (q := 75) 0 dX6_node_74 rfl rfl rfl ?_
                refine r_iload_n E (q := 76) 1 dX6_node_75 rfl rfl rfl ?_
                refine r_iload E (q := 78) 5 dX6_node_76 rfl rfl ?_
                refine r_iload E (q := 80) 4 dX6_node_78 rfl rfl ?_
                refine rVi E (q := 83) cvX6_151 T.rr 0 wm_0 rfl [.int x, .int v, .int m] (c_X6_isRight x v m) (by omega) rfl rfl (Nat.le_of_ble_eq_true rfl) ⟨Nat.zero_le _, Nat.zero_le _⟩ dX6_node_80 rfl ?_
                refine r_if_ne E (q := 86) 88 dX6_node_83 (by decide) rfl (fun c31 => ?_) (fun c31 => ?_)
                · refine r_aload_n E (q := 89) 0 dX6_node_88 rfl rfl rfl ?_
                  refine r_get E (q := 92) fX6_120 0 wm_0 rfl dX6_node_89 rfl ?_
                  refine r_bipush E (q := 94) (v := 60) dX6_node_92 (by decide) rfl ?_
                  refine r_icmp_ne E (q := 97) 100 dX6_node_94 (by decide) rfl (fun c32 => ?_) (fun c32 => ?_)
                  · exact k30 c1 c2 c18 c19 c26 c27 c30 c31 c32
                  · refine r_bipush E (q := 99) (v := (-2)) dX6_node_97 (by decide) rfl ?_
                    exact r_iret E T dX6_node_99 (k31 c1 c2 c18 c19 c26 c27 c30 c31 c32)
                · refine r_iconst E (q := 87) (v := (-1)) dX6_node_86 (by decide) rfl ?_
                  exact r_iret E T dX6_node_87 (k32 c1 c2 c18 c19 c26 c27 c30 c31)
      · refine r_goto E 86 dX6_node_28 (by decide) ?_
        refine r_iconst E (q := 87) (v := (-1)) dX6_node_86 (by decide) rfl ?_
        exact r_iret E T dX6_node_87 (k33 c1 c2 c18)
set_option maxRecDepth 100000 in
set_option maxHeartbeats 800000 in
theorem pn_b {z : Zt} (E : EN z cX6_node RX6) {w0 : va_W} {P : Option Value → va_W → Prop} {lvl : Nat} (T : RT z (some .int) lvl w0 P 0 0) (hz : zn z = 7) {ad : Nat → Nat} {G : Nat → Nat → Int32} {V : Nat → Int32} (hlv : 5 ≤ lvl) (x a b m v : Int32) (hn : vp_in (V 1) 60) 
    (k1 : WW z 0 0 (WM (zk z) ad (fX6_lay_G G V x a b m v) (fX6_lay_V G V x a b m v)) 114 [(0, .ref (ad 0)), (6, .int (fX6_lay G V x a b m v))] [.ref (ad 0)]) :
    WW z 0 0 (WM (zk z) ad G V) 100 [(0, .ref (ad 0)), (1, .int x), (2, .int a), (3, .int b), (4, .int m), (5, .int v)] [] := by
  refine r_aload_n E (q := 101) 0 dX6_node_100 rfl rfl rfl ?_
  refine r_iload_n E (q := 102) 1 dX6_node_101 rfl rfl rfl ?_
  refine r_iload_n E (q := 103) 2 dX6_node_102 rfl rfl rfl ?_
  refine r_iload_n E (q := 104) 3 dX6_node_103 rfl rfl rfl ?_
  refine r_iload E (q := 106) 4 dX6_node_104 rfl rfl ?_
  refine r_iload E (q := 108) 5 dX6_node_106 rfl rfl ?_
  refine rVi E (q := 111) cvX6_155 T.rr 0 wm_0 rfl [.int x, .int a, .int b, .int m, .int v] (c_X6_lay x a b m v hn) (by omega) rfl rfl (Nat.le_of_ble_eq_true rfl) ⟨Nat.zero_le _, Nat.zero_le _⟩ dX6_node_108 rfl ?_
  refine r_istore E (q := 113) (lv' := [(0, .ref (ad 0)), (1, .int x), (2, .int a), (3, .int b), (4, .int m), (5, .int v), (6, .int (fX6_lay G V x a b m v))]) [1, 2, 3, 4, 5, 6, 0] dX6_node_111 (by rw [hz]; decide) rfl rfl ?_
  refine r_aload_n E (q := 114) 0 dX6_node_113 rfl rfl rfl ?_
  refine r_sub [0, 6] rfl ?_
  exact k1 
set_option maxRecDepth 100000 in
set_option maxHeartbeats 800000 in
theorem pn_c {z : Zt} (E : EN z cX6_node RX6) {w0 : va_W} {P : Option Value → va_W → Prop} {lvl : Nat} (T : RT z (some .int) lvl w0 P 0 0) (hz : zn z = 7) {ad : Nat → Nat} {G : Nat → Nat → Int32} {V : Nat → Int32} (y : Int32) (hy : vp_in y 60) 
    (k1 : G 15 (ix y) ≤ 100 → P (some (.int y)) (WM (zk z) ad G V)) 
    (k2 : ¬ (G 15 (ix y) ≤ 100) → P (some (.int (-2))) (WM (zk z) ad G (upd V 1 ((V 1) - 1)))) :
    WW z 0 0 (WM (zk z) ad G V) 117 [(0, .ref (ad 0)), (6, .int y)] [] := by
  refine r_aload_n E (q := 118) 0 dX6_node_117 rfl rfl rfl ?_
  refine r_get E (q := 121) fX6_53 0 wm_0 rfl dX6_node_118 rfl ?_
  refine r_iload E (q := 123) 1 dX6_node_121 rfl rfl ?_
  refine r_iald E (q := 124) 15 wm_15 hy dX6_node_123 rfl ?_
  refine r_bipush E (q := 126) (v := 100) dX6_node_124 (by decide) rfl ?_
  refine r_icmp_le E (q := 129) 142 dX6_node_126 (by decide) rfl (fun c1 => ?_) (fun c1 => ?_)
  · refine r_iload E (q := 144) 1 dX6_node_142 rfl rfl ?_
    exact r_iret E T dX6_node_144 (k1 c1)
  · refine r_aload_n E (q := 130) 0 dX6_node_129 rfl rfl rfl ?_
    refine r_dup E (q := 131) dX6_node_130 rfl rfl ?_
    refine r_get E (q := 134) fX6_120 0 wm_0 rfl dX6_node_131 rfl ?_
    refine r_iconst E (q := 135) (v := 1) dX6_node_134 (by decide) rfl ?_
    refine r_isub E (q := 136) dX6_node_135 rfl ?_
    refine r_put E (q := 139) pX6_120 rfl 0 wm_0 rfl rfl (Nat.le_of_ble_eq_true rfl) wmv_1 dX6_node_136 rfl ?_
    refine r_bipush E (q := 141) (v := (-2)) dX6_node_139 (by decide) rfl ?_
    exact r_iret E T dX6_node_141 (k2 c1)
set_option maxRecDepth 100000 in
set_option maxHeartbeats 800000 in
theorem be_a {z : Zt} (E : EN z cX6_below RX6) {w0 : va_W} {P : Option Value → va_W → Prop} {lvl : Nat} (T : RT z (some .long) lvl w0 P 0 0) (hz : zn z = 7) {ad : Nat → Nat} {G : Nat → Nat → Int32} {V : Nat → Int32} (x : Int32) 
    (k1 : WW z 0 0 (WM (zk z) ad G V) 7 [(0, .ref (ad 0)), (2, .long (1 <<< (x.toInt64 &&& 63))), (4, .long 0)] []) :
    WW z 0 0 (WM (zk z) ad G V) 0 [(0, .ref (ad 0)), (1, .int x)] [] := by
  refine r_lconst E (q := 1) (v := 1) dX6_below_0 (by decide) rfl ?_
  refine r_iload_n E (q := 2) 1 dX6_below_1 rfl rfl rfl ?_
  refine r_lshl E (q := 3) dX6_below_2 rfl ?_
  refine r_lstore_n E (q := 4) (lv' := [(0, .ref (ad 0)), (1, .int x), (2, .long (1 <<< (x.toInt64 &&& 63)))]) [1, 2, 0] dX6_below_3 rfl (by rw [hz]; decide) rfl rfl ?_
  refine r_lconst E (q := 5) (v := 0) dX6_below_4 (by decide) rfl ?_
  refine r_lstore E (q := 7) (lv' := [(0, .ref (ad 0)), (1, .int x), (2, .long (1 <<< (x.toInt64 &&& 63))), (4, .long 0)]) [1, 2, 3, 0] dX6_below_5 (by rw [hz]; decide) rfl rfl ?_
  refine r_sub [0, 2, 3] rfl ?_
  exact k1 
set_option maxRecDepth 100000 in
set_option maxHeartbeats 800000 in
theorem be_b {z : Zt} (E : EN z cX6_below RX6) {w0 : va_W} {P : Option Value → va_W → Prop} {lvl : Nat} (T : RT z (some .long) lvl w0 P 0 0) (hz : zn z = 7) {ad : Nat → Nat} {G : Nat → Nat → Int32} {V : Nat → Int32} (w9 b9 : Int64) 
    (k1 : lg_cmp w9 b9 = 0 → P (some (.long w9)) (WM (zk z) ad G V)) 
    (k2 : ¬ (lg_cmp w9 b9 = 0) → WW z 0 0 (WM (zk z) ad G V) 20 [(0, .ref (ad 0)), (2, .long w9), (4, .long w9), (6, .int 0)] []) :
    WW z 0 0 (WM (zk z) ad G V) 7 [(0, .ref (ad 0)), (2, .long w9), (4, .long b9)] [] := by
  refine r_lload_n E (q := 8) 1 dX6_below_7 rfl rfl rfl ?_
  refine r_lload E (q := 10) 2 dX6_below_8 rfl rfl ?_
  refine r_lcmp E (q := 11) dX6_below_10 rfl ?_
  refine r_if_eq E (q := 14) 100 dX6_below_11 (by decide) rfl (fun c1 => ?_) (fun c1 => ?_)
  · refine r_lload_n E (q := 101) 1 dX6_below_100 rfl rfl rfl ?_
    exact r_lret E T dX6_below_101 (k1 c1)
  · refine r_lload_n E (q := 15) 1 dX6_below_14 rfl rfl rfl ?_
    refine r_lstore E (q := 17) (lv' := [(0, .ref (ad 0)), (2, .long w9), (4, .long w9)]) [1, 2, 0] dX6_below_15 (by rw [hz]; decide) rfl rfl ?_
    refine r_iconst E (q := 18) (v := 0) dX6_below_17 (by decide) rfl ?_
    refine r_istore E (q := 20) (lv' := [(0, .ref (ad 0)), (2, .long w9), (4, .long w9), (6, .int 0)]) [1, 2, 3, 0] dX6_below_18 (by rw [hz]; decide) rfl rfl ?_
    exact k2 c1
set_option maxRecDepth 100000 in
set_option maxHeartbeats 800000 in
theorem be_c {z : Zt} (E : EN z cX6_below RX6) {w0 : va_W} {P : Option Value → va_W → Prop} {lvl : Nat} (T : RT z (some .long) lvl w0 P 0 0) (hz : zn z = 7) {ad : Nat → Nat} {G : Nat → Nat → Int32} {V : Nat → Int32} (hlv : 2 ≤ lvl) (w9 b9 : Int64) (i9 : Int32) (hi : ¬ V 1 ≤ i9 → vp_in i9 60) 
    (k1 : V 1 ≤ i9 → WW z 0 0 (WM (zk z) ad G V) 7 [(0, .ref (ad 0)), (2, .long w9), (4, .long b9)] []) 
    (k2 : ¬ (V 1 ≤ i9) → ¬ (lg_cmp ((w9 >>> (i9.toInt64 &&& 63)) &&& 1) 1 = 0) → WW z 0 0 (WM (zk z) ad G V) 20 [(0, .ref (ad 0)), (2, .long w9), (4, .long b9), (6, .int (i9 + 1))] []) 
    (k3 : ¬ (V 1 ≤ i9) → lg_cmp ((w9 >>> (i9.toInt64 &&& 63)) &&& 1) 1 = 0 → G 10 (ix i9) = 0 → WW z 0 0 (WM (zk z) ad G V) 20 [(0, .ref (ad 0)), (2, .long w9), (4, .long b9), (6, .int (i9 + 1))] []) 
    (k4 : ¬ (V 1 ≤ i9) → lg_cmp ((w9 >>> (i9.toInt64 &&& 63)) &&& 1) 1 = 0 → ¬ (G 10 (ix i9) = 0) → fX6_isTwo (G 10 (ix i9)) = 0 → WW z 0 0 (WM (zk z) ad G V) 20 [(0, .ref (ad 0)), (2, .long (w9 ||| (1 <<< ((G 11 (ix i9)).toInt64 &&& 63)))), (4, .long b9), (6, .int (i9 + 1))] []) 
    (k5 : ¬ (V 1 ≤ i9) → lg_cmp ((w9 >>> (i9.toInt64 &&& 63)) &&& 1) 1 = 0 → ¬ (G 10 (ix i9) = 0) → ¬ (fX6_isTwo (G 10 (ix i9)) = 0) → WW z 0 0 (WM (zk z) ad G V) 20 [(0, .ref (ad 0)), (2, .long ((w9 ||| (1 <<< ((G 11 (ix i9)).toInt64 &&& 63))) ||| (1 <<< ((G 12 (ix i9)).toInt64 &&& 63)))), (4, .long b9), (6, .int (i9 + 1))] []) :
    WW z 0 0 (WM (zk z) ad G V) 20 [(0, .ref (ad 0)), (2, .long w9), (4, .long b9), (6, .int i9)] [] := by
  refine r_iload E (q := 22) 3 dX6_below_20 rfl rfl ?_
  refine r_aload_n E (q := 23) 0 dX6_below_22 rfl rfl rfl ?_
  refine r_get E (q := 26) fX6_120 0 wm_0 rfl dX6_below_23 rfl ?_
  refine r_icmp_ge E (q := 29) 97 dX6_below_26 (by decide) rfl (fun c1 => ?_) (fun c1 => ?_)
  · refine r_goto E 7 dX6_below_97 (by decide) ?_
    refine r_sub [0, 1, 2] rfl ?_
    exact k1 c1
  · refine r_lload_n E (q := 30) 1 dX6_below_29 rfl rfl rfl ?_
    refine r_iload E (q := 32) 3 dX6_below_30 rfl rfl ?_
    refine r_lshr E (q := 33) dX6_below_32 rfl ?_
    refine r_lconst E (q := 34) (v := 1) dX6_below_33 (by decide) rfl ?_
    refine r_land E (q := 35) dX6_below_34 rfl ?_
    refine r_lconst E (q := 36) (v := 1) dX6_below_35 (by decide) rfl ?_
    refine r_lcmp E (q := 37) dX6_below_36 rfl ?_
    refine r_if_ne E (q := 40) 91 dX6_below_37 (by decide) rfl (fun c2 => ?_) (fun c2 => ?_)
    · refine r_iinc E (q := 94) (v := i9 + 1) (lv' := [(0, .ref (ad 0)), (2, .long w9), (4, .long b9), (6, .int (i9 + 1))]) 3 [1, 2, 3, 0] dX6_below_91 rfl (by rfl) (by rw [hz]; decide) rfl rfl ?_
      refine r_goto E 20 dX6_below_94 (by decide) ?_
      exact k2 c1 c2
    · refine r_aload_n E (q := 41) 0 dX6_below_40 rfl rfl rfl ?_
      refine r_get E (q := 44) fX6_38 0 wm_0 rfl dX6_below_41 rfl ?_
      refine r_iload E (q := 46) 3 dX6_below_44 rfl rfl ?_
      refine r_iald E (q := 47) 10 wm_10 (hi (by assumption)) dX6_below_46 rfl ?_
      refine r_if_eq E (q := 50) 91 dX6_below_47 (by decide) rfl (fun c3 => ?_) (fun c3 => ?_)
      · refine r_iinc E (q := 94) (v := i9 + 1) (lv' := [(0, .ref (ad 0)), (2, .long w9), (4, .long b9), (6, .int (i9 + 1))]) 3 [1, 2, 3, 0] dX6_below_91 rfl (by rfl) (by rw [hz]; decide) rfl rfl ?_
        refine r_goto E 20 dX6_below_94 (by decide) ?_
        exact k3 c1 c2 c3
      · refine r_lload_n E (q := 51) 1 dX6_below_50 rfl rfl rfl ?_
        refine r_lconst E (q := 52) (v := 1) dX6_below_51 (by decide) rfl ?_
        refine r_aload_n E (q := 53) 0 dX6_below_52 rfl rfl rfl ?_
        refine r_get E (q := 56) fX6_41 0 wm_0 rfl dX6_below_53 rfl ?_
        refine r_iload E (q := 58) 3 dX6_below_56 rfl rfl ?_
        refine r_iald E (q := 59) 11 wm_11 (hi (by assumption)) dX6_below_58 rfl ?_
        refine r_lshl E (q := 60) dX6_below_59 rfl ?_
        refine r_lor E (q := 61) dX6_below_60 rfl ?_
        refine r_lstore_n E (q := 62) (lv' := [(0, .ref (ad 0)), (2, .long (w9 ||| (1 <<< ((G 11 (ix i9)).toInt64 &&& 63)))), (4, .long b9), (6, .int i9)]) [1, 0, 2, 3] dX6_below_61 rfl (by rw [hz]; decide) rfl rfl ?_
        refine r_aload_n E (q := 63) 0 dX6_below_62 rfl rfl rfl ?_
        refine r_get E (q := 66) fX6_38 0 wm_0 rfl dX6_below_63 rfl ?_
        refine r_iload E (q := 68) 3 dX6_below_66 rfl rfl ?_
        refine r_iald E (q := 69) 10 wm_10 (hi (by assumption)) dX6_below_68 rfl ?_
        refine rSi E (q := 72) csX6_129 T.rr [.int (G 10 (ix i9))] (c_X6_isTwo (G 10 (ix i9))) (by omega) rfl rfl (Nat.le_of_ble_eq_true rfl) ⟨Nat.zero_le _, Nat.zero_le _⟩ dX6_below_69 rfl ?_
        refine r_if_eq E (q := 75) 89 dX6_below_72 (by decide) rfl (fun c4 => ?_) (fun c4 => ?_)
        · refine r_lload_n E (q := 90) 1 dX6_below_89 rfl rfl rfl ?_
          refine r_lstore_n E (q := 91) (lv' := [(0, .ref (ad 0)), (2, .long (w9 ||| (1 <<< ((G 11 (ix i9)).toInt64 &&& 63)))), (4, .long b9), (6, .int i9)]) [1, 0, 2, 3] dX6_below_90 rfl (by rw [hz]; decide) rfl rfl ?_
          refine r_iinc E (q := 94) (v := i9 + 1) (lv' := [(0, .ref (ad 0)), (2, .long (w9 ||| (1 <<< ((G 11 (ix i9)).toInt64 &&& 63)))), (4, .long b9), (6, .int (i9 + 1))]) 3 [1, 2, 3, 0] dX6_below_91 rfl (by rfl) (by rw [hz]; decide) rfl rfl ?_
          refine r_goto E 20 dX6_below_94 (by decide) ?_
          exact k4 c1 c2 c3 c4
        · refine r_lload_n E (q := 76) 1 dX6_below_75 rfl rfl rfl ?_
          refine r_lconst E (q := 77) (v := 1) dX6_below_76 (by decide) rfl ?_
          refine r_aload_n E (q := 78) 0 dX6_below_77 rfl rfl rfl ?_
          refine r_get E (q := 81) fX6_44 0 wm_0 rfl dX6_below_78 rfl ?_
          refine r_iload E (q := 83) 3 dX6_below_81 rfl rfl ?_
          refine r_iald E (q := 84) 12 wm_12 (hi (by assumption)) dX6_below_83 rfl ?_
          refine r_lshl E (q := 85) dX6_below_84 rfl ?_
          refine r_lor E (q := 86) dX6_below_85 rfl ?_
          refine r_goto E 90 dX6_below_86 (by decide) ?_
          refine r_lstore_n E (q := 91) (lv' := [(0, .ref (ad 0)), (2, .long ((w9 ||| (1 <<< ((G 11 (ix i9)).toInt64 &&& 63))) ||| (1 <<< ((G 12 (ix i9)).toInt64 &&& 63)))), (4, .long b9), (6, .int i9)]) [1, 0, 2, 3] dX6_below_90 rfl (by rw [hz]; decide) rfl rfl ?_
          refine r_iinc E (q := 94) (v := i9 + 1) (lv' := [(0, .ref (ad 0)), (2, .long ((w9 ||| (1 <<< ((G 11 (ix i9)).toInt64 &&& 63))) ||| (1 <<< ((G 12 (ix i9)).toInt64 &&& 63)))), (4, .long b9), (6, .int (i9 + 1))]) 3 [1, 2, 3, 0] dX6_below_91 rfl (by rfl) (by rw [hz]; decide) rfl rfl ?_
          refine r_goto E 20 dX6_below_94 (by decide) ?_
          exact k5 c1 c2 c3 c4
set_option maxRecDepth 100000 in
set_option maxHeartbeats 800000 in
theorem sr_a {z : Zt} (E : EN z cX6_sweep RX6) {w0 : va_W} {P : Option Value → va_W → Prop} {lvl : Nat} (T : RT z (some .int) lvl w0 P 0 0) (hz : zn z = 8) {ad : Nat → Nat} {G : Nat → Nat → Int32} {V : Nat → Int32} (hlv : 3 ≤ lvl) (x t9 : Int32) 
    (k1 : fX6_isNode V x = 0 → P (some (.int (-1))) (WM (zk z) ad G V)) 
    (k2 : ¬ (fX6_isNode V x = 0) → ¬ (fX6_in t9.toInt64 0 100 = 0) → WW z 0 0 (WM (zk z) ad G V) 27 [(0, .ref (ad 0)), (1, .int x), (2, .int t9), (3, .int 0), (4, .int 1)] []) 
    (k3 : ¬ (fX6_isNode V x = 0) → fX6_in t9.toInt64 0 100 = 0 → P (some (.int (-1))) (WM (zk z) ad G V)) :
    WW z 0 0 (WM (zk z) ad G V) 0 [(0, .ref (ad 0)), (1, .int x), (2, .int t9)] [] := by
  refine r_aload_n E (q := 1) 0 dX6_sweep_0 rfl rfl rfl ?_
  refine r_iload_n E (q := 2) 1 dX6_sweep_1 rfl rfl rfl ?_
  refine rVi E (q := 5) cvX6_148 T.rr 0 wm_0 rfl [.int x] (c_X6_isNode x) (by omega) rfl rfl (Nat.le_of_ble_eq_true rfl) ⟨Nat.zero_le _, Nat.zero_le _⟩ dX6_sweep_2 rfl ?_
  refine r_if_eq E (q := 8) 20 dX6_sweep_5 (by decide) rfl (fun c1 => ?_) (fun c1 => ?_)
  · refine r_iconst E (q := 21) (v := (-1)) dX6_sweep_20 (by decide) rfl ?_
    exact r_iret E T dX6_sweep_21 (k1 c1)
  · refine r_iload_n E (q := 9) 2 dX6_sweep_8 rfl rfl rfl ?_
    refine r_i2l E (q := 10) dX6_sweep_9 rfl ?_
    refine r_lconst E (q := 11) (v := 0) dX6_sweep_10 (by decide) rfl ?_
    refine r_ldc2 E (q := 14) kX6_127 dX6_sweep_11 rfl ?_
    refine rSi E (q := 17) csX6_90 T.rr [.long t9.toInt64, .long 0, .long 100] (c_X6_in t9.toInt64 0 100) (by omega) rfl rfl (Nat.le_of_ble_eq_true rfl) ⟨Nat.zero_le _, Nat.zero_le _⟩ dX6_sweep_14 rfl ?_
    refine r_if_ne E (q := 20) 22 dX6_sweep_17 (by decide) rfl (fun c2 => ?_) (fun c2 => ?_)
    · refine r_iconst E (q := 23) (v := 0) dX6_sweep_22 (by decide) rfl ?_
      refine r_istore_n E (q := 24) (lv' := [(0, .ref (ad 0)), (1, .int x), (2, .int t9), (3, .int 0)]) [1, 2, 3, 0] dX6_sweep_23 rfl (by rw [hz]; decide) rfl rfl ?_
      refine r_iconst E (q := 25) (v := 1) dX6_sweep_24 (by decide) rfl ?_
      refine r_istore E (q := 27) (lv' := [(0, .ref (ad 0)), (1, .int x), (2, .int t9), (3, .int 0), (4, .int 1)]) [1, 2, 3, 4, 0] dX6_sweep_25 (by rw [hz]; decide) rfl rfl ?_
      exact k2 c1 c2
    · refine r_iconst E (q := 21) (v := (-1)) dX6_sweep_20 (by decide) rfl ?_
      exact r_iret E T dX6_sweep_21 (k3 c1 c2)
set_option maxRecDepth 100000 in
set_option maxHeartbeats 800000 in
theorem sr_b {z : Zt} (E : EN z cX6_sweep RX6) {w0 : va_W} {P : Option Value → va_W → Prop} {lvl : Nat} (T : RT z (some .int) lvl w0 P 0 0) (hz : zn z = 8) {ad : Nat → Nat} {G : Nat → Nat → Int32} {V : Nat → Int32} (x t9 i9 g9 : Int32) 
    (k1 : g9 = 0 → P (some (.int i9)) (WM (zk z) ad G V)) 
    (k2 : ¬ (g9 = 0) → t9 ≤ i9 → P (some (.int i9)) (WM (zk z) ad G V)) 
    (k3 : ¬ (g9 = 0) → ¬ (t9 ≤ i9) → WW z 0 0 (WM (zk z) ad G V) 38 [(0, .ref (ad 0)), (1, .int x), (2, .int t9), (3, .int i9)] [.ref (ad 0)]) :
    WW z 0 0 (WM (zk z) ad G V) 27 [(0, .ref (ad 0)), (1, .int x), (2, .int t9), (3, .int i9), (4, .int g9)] [] := by
  refine r_iload E (q := 29) 4 dX6_sweep_27 rfl rfl ?_
  refine r_if_eq E (q := 32) 142 dX6_sweep_29 (by decide) rfl (fun c1 => ?_) (fun c1 => ?_)
  · refine r_iload_n E (q := 143) 3 dX6_sweep_142 rfl rfl rfl ?_
    exact r_iret E T dX6_sweep_143 (k1 c1)
  · refine r_iload_n E (q := 33) 3 dX6_sweep_32 rfl rfl rfl ?_
    refine r_iload_n E (q := 34) 2 dX6_sweep_33 rfl rfl rfl ?_
    refine r_icmp_ge E (q := 37) 142 dX6_sweep_34 (by decide) rfl (fun c2 => ?_) (fun c2 => ?_)
    · refine r_iload_n E (q := 143) 3 dX6_sweep_142 rfl rfl rfl ?_
      exact r_iret E T dX6_sweep_143 (k2 c1 c2)
    · refine r_aload_n E (q := 38) 0 dX6_sweep_37 rfl rfl rfl ?_
      refine r_sub [0, 1, 2, 3] rfl ?_
      exact k3 c1 c2
set_option maxRecDepth 100000 in
set_option maxHeartbeats 800000 in
theorem sr_c {z : Zt} (E : EN z cX6_sweep RX6) {w0 : va_W} {P : Option Value → va_W → Prop} {lvl : Nat} (T : RT z (some .int) lvl w0 P 0 0) (hz : zn z = 8) {ad : Nat → Nat} {G : Nat → Nat → Int32} {V : Nat → Int32} (x t9 i9 : Int32) 
    (k1 : WW z 0 0 (WM (zk z) ad G V) 43 [(0, .ref (ad 0)), (1, .int x), (2, .int t9), (3, .int i9)] [.int x, .ref (ad 0)]) :
    WW z 0 0 (WM (zk z) ad G V) 41 [(0, .ref (ad 0)), (1, .int x), (2, .int t9), (3, .int i9)] [] := by
  refine r_aload_n E (q := 42) 0 dX6_sweep_41 rfl rfl rfl ?_
  refine r_iload_n E (q := 43) 1 dX6_sweep_42 rfl rfl rfl ?_
  exact k1 
set_option maxRecDepth 100000 in
set_option maxHeartbeats 800000 in
theorem sr_d {z : Zt} (E : EN z cX6_sweep RX6) {w0 : va_W} {P : Option Value → va_W → Prop} {lvl : Nat} (T : RT z (some .int) lvl w0 P 0 0) (hz : zn z = 8) {ad : Nat → Nat} {G : Nat → Nat → Int32} {V : Nat → Int32} (x t9 i9 : Int32) (w9 : Int64) 
    (k1 : WW z 0 0 (WM (zk z) ad G V) 51 [(0, .ref (ad 0)), (1, .int x), (2, .int t9), (3, .int i9), (5, .long w9), (7, .int 0)] []) :
    WW z 0 0 (WM (zk z) ad G V) 46 [(0, .ref (ad 0)), (1, .int x), (2, .int t9), (3, .int i9)] [.long w9] := by
  refine r_lstore E (q := 48) (lv' := [(0, .ref (ad 0)), (1, .int x), (2, .int t9), (3, .int i9), (5, .long w9)]) [1, 2, 3, 4, 0] dX6_sweep_46 (by rw [hz]; decide) rfl rfl ?_
  refine r_iconst E (q := 49) (v := 0) dX6_sweep_48 (by decide) rfl ?_
  refine r_istore E (q := 51) (lv' := [(0, .ref (ad 0)), (1, .int x), (2, .int t9), (3, .int i9), (5, .long w9), (7, .int 0)]) [1, 2, 3, 4, 5, 0] dX6_sweep_49 (by rw [hz]; decide) rfl rfl ?_
  exact k1 
set_option maxRecDepth 100000 in
set_option maxHeartbeats 800000 in
theorem sr_e {z : Zt} (E : EN z cX6_sweep RX6) {w0 : va_W} {P : Option Value → va_W → Prop} {lvl : Nat} (T : RT z (some .int) lvl w0 P 0 0) (hz : zn z = 8) {ad : Nat → Nat} {G : Nat → Nat → Int32} {V : Nat → Int32} (hlv : 4 ≤ lvl) (x t9 i9 : Int32) (w9 : Int64) (j9 : Int32) 
    (o1 : ¬ (V 1 ≤ j9) → ¬ (lg_cmp ((w9 >>> (j9.toInt64 &&& 63)) &&& 1) 0 = 0) → vp_in j9 60) 
    (o2 : ¬ (V 1 ≤ j9) → ¬ (lg_cmp ((w9 >>> (j9.toInt64 &&& 63)) &&& 1) 0 = 0) → (¬ G 10 (ix j9) = 0 → vp_in (G 11 (ix j9)) 60)) 
    (o3 : ¬ (V 1 ≤ j9) → ¬ (lg_cmp ((w9 >>> (j9.toInt64 &&& 63)) &&& 1) 0 = 0) → (G 10 (ix j9) = 1 ∨ G 10 (ix j9) = 2 → vp_in (G 14 (ix j9)) 40)) 
    (o4 : ¬ (V 1 ≤ j9) → ¬ (lg_cmp ((w9 >>> (j9.toInt64 &&& 63)) &&& 1) 0 = 0) → (¬ G 10 (ix j9) = 0 → G 10 (ix (G 11 (ix j9))) = 1 ∨ G 10 (ix (G 11 (ix j9))) = 2 → vp_in (G 14 (ix (G 11 (ix j9)))) 40)) 
    (o5 : ¬ (V 1 ≤ j9) → ¬ (lg_cmp ((w9 >>> (j9.toInt64 &&& 63)) &&& 1) 0 = 0) → (¬ G 10 (ix j9) = 0 → G 10 (ix (G 11 (ix j9))) = 5 → vp_in (G 11 (ix (G 11 (ix j9)))) 60 ∧ vp_in (G 12 (ix (G 11 (ix j9)))) 60))
    (k1 : V 1 ≤ j9 → WW z 0 0 (WM (zk z) ad G V) 88 [(0, .ref (ad 0)), (1, .int x), (2, .int t9), (3, .int i9), (7, .int j9)] []) 
    (k2 : ¬ (V 1 ≤ j9) → lg_cmp ((w9 >>> (j9.toInt64 &&& 63)) &&& 1) 0 = 0 → WW z 0 0 (WM (zk z) ad G V) 51 [(0, .ref (ad 0)), (1, .int x), (2, .int t9), (3, .int i9), (5, .long w9), (7, .int (j9 + 1))] []) 
    (k3 : ¬ (V 1 ≤ j9) → ¬ (lg_cmp ((w9 >>> (j9.toInt64 &&& 63)) &&& 1) 0 = 0) → ¬ (fX6_ruleFor G j9 = (-1)) → WW z 0 0 (WM (zk z) ad G V) 88 [(0, .ref (ad 0)), (1, .int x), (2, .int t9), (3, .int i9), (7, .int j9)] []) 
    (k4 : ¬ (V 1 ≤ j9) → ¬ (lg_cmp ((w9 >>> (j9.toInt64 &&& 63)) &&& 1) 0 = 0) → fX6_ruleFor G j9 = (-1) → WW z 0 0 (WM (zk z) ad G V) 51 [(0, .ref (ad 0)), (1, .int x), (2, .int t9), (3, .int i9), (5, .long w9), (7, .int (j9 + 1))] []) :
    WW z 0 0 (WM (zk z) ad G V) 51 [(0, .ref (ad 0)), (1, .int x), (2, .int t9), (3, .int i9), (5, .long w9), (7, .int j9)] [] := by
  refine r_iload E (q := 53) 5 dX6_sweep_51 rfl rfl ?_
  refine r_aload_n E (q := 54) 0 dX6_sweep_53 rfl rfl rfl ?_
  refine r_get E (q := 57) fX6_120 0 wm_0 rfl dX6_sweep_54 rfl ?_
  refine r_icmp_ge E (q := 60) 88 dX6_sweep_57 (by decide) rfl (fun c1 => ?_) (fun c1 => ?_)
  · refine r_sub [0, 1, 2, 3, 5] rfl ?_
    exact k1 c1
  · refine r_lload E (q := 62) 4 dX6_sweep_60 rfl rfl ?_
    refine r_iload E (q := 64) 5 dX6_sweep_62 rfl rfl ?_
    refine r_lshr E (q := 65) dX6_sweep_64 rfl ?_
    refine r_lconst E (q := 66) (v := 1) dX6_sweep_65 (by decide) rfl ?_
    refine r_land E (q := 67) dX6_sweep_66 rfl ?_
    refine r_lconst E (q := 68) (v := 0) dX6_sweep_67 (by decide) rfl ?_
    refine r_lcmp E (q := 69) dX6_sweep_68 rfl ?_
    refine r_if_eq E (q := 72) 82 dX6_sweep_69 (by decide) rfl (fun c2 => ?_) (fun c2 => ?_)
    · refine r_iinc E (q := 85) (v := j9 + 1) (lv' := [(0, .ref (ad 0)), (1, .int x), (2, .int t9), (3, .int i9), (5, .long w9), (7, .int (j9 + 1))]) 5 [1, 2, 3, 4, 5, 0] dX6_sweep_82 rfl (by rfl) (by rw [hz]; decide) rfl rfl ?_
      refine r_goto E 51 dX6_sweep_85 (by decide) ?_
      exact k2 c1 c2
    · refine r_aload_n E (q := 73) 0 dX6_sweep_72 rfl rfl rfl ?_
      refine r_iload E (q := 75) 5 dX6_sweep_73 rfl rfl ?_
      refine rVi E (q := 78) cvX6_271 T.rr 0 wm_0 rfl [.int j9] (c_X6_ruleFor j9 (o1 c1 c2) (o2 c1 c2) (o3 c1 c2) (o4 c1 c2) (o5 c1 c2)) (by omega) rfl rfl (Nat.le_of_ble_eq_true rfl) ⟨Nat.zero_le _, Nat.zero_le _⟩ dX6_sweep_75 rfl ?_
      refine r_iconst E (q := 79) (v := (-1)) dX6_sweep_78 (by decide) rfl ?_
      refine r_icmp_ne E (q := 82) 88 dX6_sweep_79 (by decide) rfl (fun c3 => ?_) (fun c3 => ?_)
      · refine r_sub [0, 1, 2, 3, 5] rfl ?_
        exact k3 c1 c2 c3
      · refine r_iinc E (q := 85) (v := j9 + 1) (lv' := [(0, .ref (ad 0)), (1, .int x), (2, .int t9), (3, .int i9), (5, .long w9), (7, .int (j9 + 1))]) 5 [1, 2, 3, 4, 5, 0] dX6_sweep_82 rfl (by rfl) (by rw [hz]; decide) rfl rfl ?_
        refine r_goto E 51 dX6_sweep_85 (by decide) ?_
        exact k4 c1 c2 c3
set_option maxRecDepth 100000 in
set_option maxHeartbeats 800000 in
theorem sr_f {z : Zt} (E : EN z cX6_sweep RX6) {w0 : va_W} {P : Option Value → va_W → Prop} {lvl : Nat} (T : RT z (some .int) lvl w0 P 0 0) (hz : zn z = 8) {ad : Nat → Nat} {G : Nat → Nat → Int32} {V : Nat → Int32} (hlv : 4 ≤ lvl) (x t9 i9 j9 : Int32) 
    (o1 : ¬ (V 1 ≤ j9) → vp_in j9 60) 
    (o2 : ¬ (V 1 ≤ j9) → (¬ G 10 (ix j9) = 0 → vp_in (G 11 (ix j9)) 60)) 
    (o3 : ¬ (V 1 ≤ j9) → (G 10 (ix j9) = 1 ∨ G 10 (ix j9) = 2 → vp_in (G 14 (ix j9)) 40)) 
    (o4 : ¬ (V 1 ≤ j9) → (¬ G 10 (ix j9) = 0 → G 10 (ix (G 11 (ix j9))) = 1 ∨ G 10 (ix (G 11 (ix j9))) = 2 → vp_in (G 14 (ix (G 11 (ix j9)))) 40)) 
    (o5 : ¬ (V 1 ≤ j9) → (¬ G 10 (ix j9) = 0 → G 10 (ix (G 11 (ix j9))) = 5 → vp_in (G 11 (ix (G 11 (ix j9)))) 60 ∧ vp_in (G 12 (ix (G 11 (ix j9)))) 60)) 
    (o6 : ¬ (V 1 ≤ j9) → ((fX6_ruleFor G j9) = 7 → vp_in (G 11 (ix j9)) 60 ∧ vp_in (G 14 (ix (G 11 (ix j9)))) 40 ∧ vp_in (G 14 (ix j9)) 40))
    (k1 : WW z 0 0 (WM (zk z) ad G V) 119 [(0, .ref (ad 0)), (1, .int x), (2, .int t9), (3, .int i9), (4, .int (if V 1 ≤ j9 then 0 else (if fX6_hasRoom G V j9 (fX6_ruleFor G j9) = 0 then 0 else 1))), (7, .int j9)] []) :
    WW z 0 0 (WM (zk z) ad G V) 88 [(0, .ref (ad 0)), (1, .int x), (2, .int t9), (3, .int i9), (7, .int j9)] [] := by
  refine r_iload E (q := 90) 4 dX6_sweep_88 rfl rfl ?_
  refine r_aload_n E (q := 91) 0 dX6_sweep_90 rfl rfl rfl ?_
  refine r_get E (q := 94) fX6_120 0 wm_0 rfl dX6_sweep_91 rfl ?_
  refine r_join 117 (if V 1 ≤ j9 then 0 else (if fX6_hasRoom G V j9 (fX6_ruleFor G j9) = 0 then 0 else 1)) (rest := []) ?_ (fun hj1 => ?_)
  · refine r_istore E (q := 119) (lv' := [(0, .ref (ad 0)), (1, .int x), (2, .int t9), (3, .int i9), (4, .int (if V 1 ≤ j9 then 0 else (if fX6_hasRoom G V j9 (fX6_ruleFor G j9) = 0 then 0 else 1))), (7, .int j9)]) [1, 2, 3, 4, 0, 5] dX6_sweep_117 (by rw [hz]; decide) rfl rfl ?_
    exact k1 
  · refine r_icmp_ge E (q := 97) 116 dX6_sweep_94 (by decide) rfl (fun c1 => ?_) (fun c1 => ?_)
    · refine r_iconst E (q := 117) (v := 0) dX6_sweep_116 (by decide) rfl ?_
      exact hj1 _ (if_pos c1).symm
    · refine r_aload_n E (q := 98) 0 dX6_sweep_97 rfl rfl rfl ?_
      refine r_iload E (q := 100) 4 dX6_sweep_98 rfl rfl ?_
      refine r_aload_n E (q := 101) 0 dX6_sweep_100 rfl rfl rfl ?_
      refine r_iload E (q := 103) 4 dX6_sweep_101 rfl rfl ?_
      refine rVi E (q := 106) cvX6_271 T.rr 0 wm_0 rfl [.int j9] (c_X6_ruleFor j9 (o1 c1) (o2 c1) (o3 c1) (o4 c1) (o5 c1)) (by omega) rfl rfl (Nat.le_of_ble_eq_true rfl) ⟨Nat.zero_le _, Nat.zero_le _⟩ dX6_sweep_103 rfl ?_
      refine rVi E (q := 109) cvX6_261 T.rr 0 wm_0 rfl [.int j9, .int (fX6_ruleFor G j9)] (c_X6_hasRoom j9 (fX6_ruleFor G j9) (o1 c1) (o6 c1)) (by omega) rfl rfl (Nat.le_of_ble_eq_true rfl) ⟨Nat.zero_le _, Nat.zero_le _⟩ dX6_sweep_106 rfl ?_
      refine r_if_eq E (q := 112) 116 dX6_sweep_109 (by decide) rfl (fun c2 => ?_) (fun c2 => ?_)
      · refine r_iconst E (q := 117) (v := 0) dX6_sweep_116 (by decide) rfl ?_
        exact hj1 _ ((if_neg c1).trans (if_pos c2)).symm
      · refine r_iconst E (q := 113) (v := 1) dX6_sweep_112 (by decide) rfl ?_
        refine r_goto E 117 dX6_sweep_113 (by decide) ?_
        exact hj1 _ ((if_neg c1).trans (if_neg c2)).symm
set_option maxRecDepth 100000 in
set_option maxHeartbeats 800000 in
theorem sr_g {z : Zt} (E : EN z cX6_sweep RX6) {w0 : va_W} {P : Option Value → va_W → Prop} {lvl : Nat} (T : RT z (some .int) lvl w0 P 0 0) (hz : zn z = 8) {ad : Nat → Nat} {G : Nat → Nat → Int32} {V : Nat → Int32} (hlv : 5 ≤ lvl) (x t9 i9 g9 j9 : Int32) 
    (o1 : ¬ (g9 = 0) → vp_in j9 60) 
    (o2 : ¬ (g9 = 0) → (¬ G 10 (ix j9) = 0 → vp_in (G 11 (ix j9)) 60)) 
    (o3 : ¬ (g9 = 0) → (G 10 (ix j9) = 1 ∨ G 10 (ix j9) = 2 → vp_in (G 14 (ix j9)) 40)) 
    (o4 : ¬ (g9 = 0) → (¬ G 10 (ix j9) = 0 → G 10 (ix (G 11 (ix j9))) = 1 ∨ G 10 (ix (G 11 (ix j9))) = 2 → vp_in (G 14 (ix (G 11 (ix j9)))) 40)) 
    (o5 : ¬ (g9 = 0) → (¬ G 10 (ix j9) = 0 → G 10 (ix (G 11 (ix j9))) = 5 → vp_in (G 11 (ix (G 11 (ix j9)))) 60 ∧ vp_in (G 12 (ix (G 11 (ix j9)))) 60)) 
    (o6 : ¬ (g9 = 0) → vp_in (G 11 (ix j9)) 60) 
    (o7 : ¬ (g9 = 0) → (¬ ((fX6_ruleFor G j9) = 7 ∨ (fX6_ruleFor G j9) = 8 ∨ (fX6_ruleFor G j9) = 9 ∨ (fX6_ruleFor G j9) = 10 ∨ (fX6_ruleFor G j9) = 13 ∨ (fX6_ruleFor G j9) = 14 ∨ (fX6_ruleFor G j9) = 15) → vp_in (V 1) 60)) 
    (o8 : ¬ (g9 = 0) → ((fX6_ruleFor G j9) = 4 ∨ (fX6_ruleFor G j9) = 11 ∨ (fX6_ruleFor G j9) = 12 ∨ (fX6_ruleFor G j9) = 16 → vp_in (V 1 + 1) 60)) 
    (o9 : ¬ (g9 = 0) → ((fX6_ruleFor G j9) = 12 ∨ (fX6_ruleFor G j9) = 16 → vp_in (V 1 + 1 + 1) 60)) 
    (o10 : ¬ (g9 = 0) → ((fX6_ruleFor G j9) = 7 → vp_in (G 14 (ix (G 11 (ix j9)))) 40 ∧ vp_in (G 14 (ix j9)) 40 ∧ vp_in (V 0) 40))
    (k1 : g9 = 0 → WW z 0 0 (WM (zk z) ad G V) 27 [(0, .ref (ad 0)), (1, .int x), (2, .int t9), (3, .int i9), (4, .int g9)] []) 
    (k2 : ∀ (G1 : Nat → Nat → Int32), G1 = fX6_rewrites_G G V j9 (fX6_ruleFor G j9) → ¬ (g9 = 0) → WW z 0 0 (WM (zk z) ad G1 (fX6_rewrites_V G V j9 (fX6_ruleFor G j9))) 27 [(0, .ref (ad 0)), (1, .int x), (2, .int t9), (3, .int (i9 + 1)), (4, .int g9)] []) :
    WW z 0 0 (WM (zk z) ad G V) 119 [(0, .ref (ad 0)), (1, .int x), (2, .int t9), (3, .int i9), (4, .int g9), (7, .int j9)] [] := by
  refine r_iload E (q := 121) 4 dX6_sweep_119 rfl rfl ?_
  refine r_if_eq E (q := 124) 139 dX6_sweep_121 (by decide) rfl (fun c1 => ?_) (fun c1 => ?_)
  · refine r_goto E 27 dX6_sweep_139 (by decide) ?_
    refine r_sub [0, 1, 2, 3, 4] rfl ?_
    exact k1 c1
  · refine r_aload_n E (q := 125) 0 dX6_sweep_124 rfl rfl rfl ?_
    refine r_iload E (q := 127) 5 dX6_sweep_125 rfl rfl ?_
    refine r_aload_n E (q := 128) 0 dX6_sweep_127 rfl rfl rfl ?_
    refine r_iload E (q := 130) 5 dX6_sweep_128 rfl rfl ?_
    refine rVi E (q := 133) cvX6_271 T.rr 0 wm_0 rfl [.int j9] (c_X6_ruleFor j9 (o1 c1) (o2 c1) (o3 c1) (o4 c1) (o5 c1)) (by omega) rfl rfl (Nat.le_of_ble_eq_true rfl) ⟨Nat.zero_le _, Nat.zero_le _⟩ dX6_sweep_130 rfl ?_
    refine rVv E (q := 136) cvX6_264 T.rr 0 wm_0 rfl [.int j9, .int (fX6_ruleFor G j9)] (c_X6_rewrites j9 (fX6_ruleFor G j9) (o1 c1) (o6 c1) (o7 c1) (o8 c1) (o9 c1) (o10 c1)) (by omega) rfl rfl (Nat.le_of_ble_eq_true rfl) ⟨Nat.zero_le _, Nat.zero_le _⟩ dX6_sweep_133 rfl ?_
    refine r_nGM (fun G1 eG1 => ?_)
    refine r_iinc E (q := 139) (v := i9 + 1) (lv' := [(0, .ref (ad 0)), (1, .int x), (2, .int t9), (3, .int (i9 + 1)), (4, .int g9), (7, .int j9)]) 3 [1, 2, 3, 0, 4, 5] dX6_sweep_136 rfl (by rfl) (by rw [hz]; decide) rfl rfl ?_
    refine r_goto E 27 dX6_sweep_139 (by decide) ?_
    refine r_sub [0, 1, 2, 3, 4] rfl ?_
    exact k2 G1 eG1 c1

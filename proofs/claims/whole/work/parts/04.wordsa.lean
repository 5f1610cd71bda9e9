set_option maxRecDepth 100000 in
theorem m0 : Cond.selects RX0 yX0_sizeOf yX0_sizeOf ∈ TB := TB_mem 0 (by rfl) (by rfl)
set_option maxRecDepth 100000 in
theorem m1 : Cond.selects RX0 yX0_readsOf yX0_readsOf ∈ TB := TB_mem 1 (by rfl) (by rfl)
set_option maxRecDepth 100000 in
theorem m2 : Cond.selects RX0 yX0_failsOf yX0_failsOf ∈ TB := TB_mem 2 (by rfl) (by rfl)
set_option maxRecDepth 100000 in
theorem m3 : Cond.selects RX1 yX1_isValue yX1_isValue ∈ TB := TB_mem 3 (by rfl) (by rfl)
set_option maxRecDepth 100000 in
theorem m4 : Cond.selects RX1 yX1_failsOf yX1_failsOf ∈ TB := TB_mem 4 (by rfl) (by rfl)
set_option maxRecDepth 100000 in
theorem m5 : Cond.selects RX1 yX1_leftBelow yX1_leftBelow ∈ TB := TB_mem 5 (by rfl) (by rfl)
set_option maxRecDepth 100000 in
theorem m6 : Cond.selects RX1 yX1_rightBelow yX1_rightBelow ∈ TB := TB_mem 6 (by rfl) (by rfl)
set_option maxRecDepth 100000 in
theorem m7 : Cond.selects RX3 yX3_work yX3_work ∈ TB := TB_mem 7 (by rfl) (by rfl)
set_option maxRecDepth 100000 in
theorem m8 : Cond.selects RX3 yX3_giveSource yX3_giveSource ∈ TB := TB_mem 8 (by rfl) (by rfl)
set_option maxRecDepth 100000 in
theorem m9 : Cond.selects RX3 yX3_addEmpty yX3_addEmpty ∈ TB := TB_mem 9 (by rfl) (by rfl)
set_option maxRecDepth 100000 in
theorem m10 : Cond.selects RX3 yX3_giveFiltered yX3_giveFiltered ∈ TB := TB_mem 10 (by rfl) (by rfl)
set_option maxRecDepth 100000 in
theorem m11 : Cond.selects RX3 yX3_valueOf yX3_valueOf ∈ TB := TB_mem 11 (by rfl) (by rfl)
set_option maxRecDepth 100000 in
theorem m12 : Cond.selects RX3 yX3_valueOfParts yX3_valueOfParts ∈ TB := TB_mem 12 (by rfl) (by rfl)
set_option maxRecDepth 100000 in
theorem m13 : Cond.selects RX3 yX3_itemAt yX3_itemAt ∈ TB := TB_mem 13 (by rfl) (by rfl)
set_option maxRecDepth 100000 in
theorem m14 : Cond.selects RX3 yX3_valueOfPair yX3_valueOfPair ∈ TB := TB_mem 14 (by rfl) (by rfl)
set_option maxRecDepth 100000 in
theorem m15 : Cond.selects RX3 yX3_addCopy yX3_addCopy ∈ TB := TB_mem 15 (by rfl) (by rfl)
set_option maxRecDepth 100000 in
theorem m16 : Cond.selects RX3 yX3_giveSet yX3_giveSet ∈ TB := TB_mem 16 (by rfl) (by rfl)
set_option maxRecDepth 100000 in
theorem m17 : Cond.selects RX3 yX3_giveKept yX3_giveKept ∈ TB := TB_mem 17 (by rfl) (by rfl)
set_option maxRecDepth 100000 in
theorem m18 : Cond.selects RX3 yX3_copyMembers yX3_copyMembers ∈ TB := TB_mem 18 (by rfl) (by rfl)
set_option maxRecDepth 100000 in
theorem m19 : Cond.selects RX3 yX3_giveJoined yX3_giveJoined ∈ TB := TB_mem 19 (by rfl) (by rfl)
set_option maxRecDepth 100000 in
theorem m20 : Cond.selects RX3 yX3_giveFirst yX3_giveFirst ∈ TB := TB_mem 20 (by rfl) (by rfl)
set_option maxRecDepth 100000 in
theorem m21 : Cond.selects RX3 yX3_giveFolded yX3_giveFolded ∈ TB := TB_mem 21 (by rfl) (by rfl)
set_option maxRecDepth 100000 in
theorem m22 : Cond.selects RX3 yX3_findMember yX3_findMember ∈ TB := TB_mem 22 (by rfl) (by rfl)
set_option maxRecDepth 100000 in
theorem m23 : Cond.selects RX3 yX3_giveOnce yX3_giveOnce ∈ TB := TB_mem 23 (by rfl) (by rfl)
set_option maxRecDepth 100000 in
theorem m24 : Cond.selects RX3 yX3_hasLike yX3_hasLike ∈ TB := TB_mem 24 (by rfl) (by rfl)
set_option maxRecDepth 100000 in
theorem m25 : Cond.selects RX3 yX3_isLike yX3_isLike ∈ TB := TB_mem 25 (by rfl) (by rfl)
set_option maxRecDepth 100000 in
theorem m26 : Cond.selects RX2 yX2_suitsFilter yX2_suitsFilter ∈ TB := TB_mem 26 (by rfl) (by rfl)
set_option maxRecDepth 100000 in
theorem m27 : Cond.selects RX2 yX2_suitsOther yX2_suitsOther ∈ TB := TB_mem 27 (by rfl) (by rfl)
set_option maxRecDepth 100000 in
theorem m28 : Cond.selects RX2 yX2_isLikeJob yX2_isLikeJob ∈ TB := TB_mem 28 (by rfl) (by rfl)
set_option maxRecDepth 100000 in
theorem m29 : Cond.selects RX2 yX2_addLike yX2_addLike ∈ TB := TB_mem 29 (by rfl) (by rfl)
set_option maxRecDepth 100000 in
theorem m30 : Cond.selects RX2 yX2_exchange yX2_exchange ∈ TB := TB_mem 30 (by rfl) (by rfl)
set_option maxRecDepth 100000 in
theorem m31 : Cond.selects RX2 yX2_skip yX2_skip ∈ TB := TB_mem 31 (by rfl) (by rfl)
set_option maxRecDepth 100000 in
theorem m32 : Cond.selects RX2 yX2_workAbove yX2_workAbove ∈ TB := TB_mem 32 (by rfl) (by rfl)
set_option maxRecDepth 100000 in
theorem m33 : Cond.selects RX6 yX6_isFormula yX6_isFormula ∈ TB := TB_mem 33 (by rfl) (by rfl)
set_option maxRecDepth 100000 in
theorem m34 : Cond.selects RX6 yX6_sizeOf yX6_sizeOf ∈ TB := TB_mem 34 (by rfl) (by rfl)
set_option maxRecDepth 100000 in
theorem m35 : Cond.selects RX6 yX6_tell yX6_tell ∈ TB := TB_mem 35 (by rfl) (by rfl)
set_option maxRecDepth 100000 in
theorem m36 : Cond.selects RX6 yX6_isNode yX6_isNode ∈ TB := TB_mem 36 (by rfl) (by rfl)
set_option maxRecDepth 100000 in
theorem m37 : Cond.selects RX6 yX6_isRight yX6_isRight ∈ TB := TB_mem 37 (by rfl) (by rfl)
set_option maxRecDepth 100000 in
theorem m38 : Cond.selects RX6 yX6_lay yX6_lay ∈ TB := TB_mem 38 (by rfl) (by rfl)
set_option maxRecDepth 100000 in
theorem m39 : Cond.selects RX6 yX6_put yX6_put ∈ TB := TB_mem 39 (by rfl) (by rfl)
set_option maxRecDepth 100000 in
theorem m40 : Cond.selects RX6 yX6_look yX6_look ∈ TB := TB_mem 40 (by rfl) (by rfl)
set_option maxRecDepth 100000 in
theorem m41 : Cond.selects RX6 yX6_bound yX6_bound ∈ TB := TB_mem 41 (by rfl) (by rfl)
set_option maxRecDepth 100000 in
theorem m42 : Cond.selects RX6 yX6_does yX6_does ∈ TB := TB_mem 42 (by rfl) (by rfl)
set_option maxRecDepth 100000 in
theorem m43 : Cond.selects RX6 yX6_takes yX6_takes ∈ TB := TB_mem 43 (by rfl) (by rfl)
set_option maxRecDepth 100000 in
theorem m44 : Cond.selects RX6 yX6_work yX6_work ∈ TB := TB_mem 44 (by rfl) (by rfl)
set_option maxRecDepth 100000 in
theorem m45 : Cond.selects RX6 yX6_begins yX6_begins ∈ TB := TB_mem 45 (by rfl) (by rfl)
set_option maxRecDepth 100000 in
theorem m46 : Cond.selects RX6 yX6_goesOn yX6_goesOn ∈ TB := TB_mem 46 (by rfl) (by rfl)
set_option maxRecDepth 100000 in
theorem m47 : Cond.selects RX6 yX6_gives yX6_gives ∈ TB := TB_mem 47 (by rfl) (by rfl)
set_option maxRecDepth 100000 in
theorem m48 : Cond.selects RX6 yX6_asks yX6_asks ∈ TB := TB_mem 48 (by rfl) (by rfl)
set_option maxRecDepth 100000 in
theorem m49 : Cond.selects RX6 yX6_single yX6_single ∈ TB := TB_mem 49 (by rfl) (by rfl)
set_option maxRecDepth 100000 in
theorem m50 : Cond.selects RX6 yX6_both yX6_both ∈ TB := TB_mem 50 (by rfl) (by rfl)
set_option maxRecDepth 100000 in
theorem m51 : Cond.selects RX6 yX6_add yX6_add ∈ TB := TB_mem 51 (by rfl) (by rfl)
set_option maxRecDepth 100000 in
theorem m52 : Cond.selects RX6 yX6_copy yX6_copy ∈ TB := TB_mem 52 (by rfl) (by rfl)
set_option maxRecDepth 100000 in
theorem m53 : Cond.selects RX6 yX6_joins yX6_joins ∈ TB := TB_mem 53 (by rfl) (by rfl)
set_option maxRecDepth 100000 in
theorem m54 : Cond.selects RX6 yX6_folds yX6_folds ∈ TB := TB_mem 54 (by rfl) (by rfl)
set_option maxRecDepth 100000 in
theorem m55 : Cond.selects RX6 yX6_has yX6_has ∈ TB := TB_mem 55 (by rfl) (by rfl)
set_option maxRecDepth 100000 in
theorem m56 : Cond.selects RX6 yX6_stands yX6_stands ∈ TB := TB_mem 56 (by rfl) (by rfl)
set_option maxRecDepth 100000 in
theorem m57 : Cond.selects RX6 yX6_isFold yX6_isFold ∈ TB := TB_mem 57 (by rfl) (by rfl)
set_option maxRecDepth 100000 in
theorem m58 : Cond.selects RX6 yX6_hasRoom yX6_hasRoom ∈ TB := TB_mem 58 (by rfl) (by rfl)
set_option maxRecDepth 100000 in
theorem m59 : Cond.selects RX6 yX6_rewrites yX6_rewrites ∈ TB := TB_mem 59 (by rfl) (by rfl)
set_option maxRecDepth 100000 in
theorem m60 : Cond.selects RX6 yX6_below yX6_below ∈ TB := TB_mem 60 (by rfl) (by rfl)
set_option maxRecDepth 100000 in
theorem m61 : Cond.selects RX6 yX6_ruleFor yX6_ruleFor ∈ TB := TB_mem 61 (by rfl) (by rfl)
set_option maxRecDepth 100000 in
theorem m63 : Cond.initialized RX5 ∈ TB := TB_mem 63 (by rfl) (by rfl)
set_option maxRecDepth 100000 in
theorem m64 : Cond.initialized RX4 ∈ TB := TB_mem 64 (by rfl) (by rfl)
set_option maxRecDepth 100000 in
theorem m65 : Cond.initialized RX0 ∈ TB := TB_mem 65 (by rfl) (by rfl)
set_option maxRecDepth 100000 in
theorem m66 : Cond.initialized RX1 ∈ TB := TB_mem 66 (by rfl) (by rfl)
set_option maxRecDepth 100000 in
theorem m67 : Cond.initialized RX3 ∈ TB := TB_mem 67 (by rfl) (by rfl)
set_option maxRecDepth 100000 in
theorem m68 : Cond.initialized RX2 ∈ TB := TB_mem 68 (by rfl) (by rfl)
set_option maxRecDepth 100000 in
theorem m69 : Cond.initialized RX6 ∈ TB := TB_mem 69 (by rfl) (by rfl)
set_option maxRecDepth 100000 in
theorem m70 : Cond.initialized "java/lang/Math" ∈ TB := TB_mem 70 (by rfl) (by rfl)
set_option maxRecDepth 100000 in
theorem m71 : Cond.initialized RJ7 ∈ TB := TB_mem 71 (by rfl) (by rfl)
set_option maxRecDepth 100000 in
theorem m72 : Cond.initialized "java/lang/System" ∈ TB := TB_mem 72 (by rfl) (by rfl)
set_option maxRecDepth 100000 in
theorem m87 : Cond.fieldLink RX4 11 (TX4 0).1 (TX4 0).2.1 (TX4 0).2.2.1 ∈ TB := TB_mem 87 (by rfl) (by rfl)
set_option maxRecDepth 100000 in
theorem m88 : Cond.fieldLink RX3 119 (TX4 0).1 (TX4 0).2.1 (TX4 0).2.2.1 ∈ TB := TB_mem 88 (by rfl) (by rfl)
set_option maxRecDepth 100000 in
theorem m89 : Cond.fieldLink RX4 15 (TX4 1).1 (TX4 1).2.1 (TX4 1).2.2.1 ∈ TB := TB_mem 89 (by rfl) (by rfl)
set_option maxRecDepth 100000 in
theorem m90 : Cond.fieldLink RX3 110 (TX4 1).1 (TX4 1).2.1 (TX4 1).2.2.1 ∈ TB := TB_mem 90 (by rfl) (by rfl)
set_option maxRecDepth 100000 in
theorem m91 : Cond.fieldLink RX4 18 (TX4 2).1 (TX4 2).2.1 (TX4 2).2.2.1 ∈ TB := TB_mem 91 (by rfl) (by rfl)
set_option maxRecDepth 100000 in
theorem m92 : Cond.fieldLink RX5 65 (TX4 2).1 (TX4 2).2.1 (TX4 2).2.2.1 ∈ TB := TB_mem 92 (by rfl) (by rfl)
set_option maxRecDepth 100000 in
theorem m93 : Cond.fieldLink RX3 188 (TX4 2).1 (TX4 2).2.1 (TX4 2).2.2.1 ∈ TB := TB_mem 93 (by rfl) (by rfl)
set_option maxRecDepth 100000 in
theorem m108 : Cond.fieldLink RX0 11 (TX0 0).1 (TX0 0).2.1 (TX0 0).2.2.1 ∈ TB := TB_mem 108 (by rfl) (by rfl)
set_option maxRecDepth 100000 in
theorem m109 : Cond.fieldLink RX3 170 (TX0 0).1 (TX0 0).2.1 (TX0 0).2.2.1 ∈ TB := TB_mem 109 (by rfl) (by rfl)
set_option maxRecDepth 100000 in
theorem m110 : Cond.fieldLink RX0 15 (TX0 1).1 (TX0 1).2.1 (TX0 1).2.2.1 ∈ TB := TB_mem 110 (by rfl) (by rfl)
set_option maxRecDepth 100000 in
theorem m111 : Cond.fieldLink RX3 165 (TX0 1).1 (TX0 1).2.1 (TX0 1).2.2.1 ∈ TB := TB_mem 111 (by rfl) (by rfl)
set_option maxRecDepth 100000 in
theorem m112 : Cond.fieldLink RX0 18 (TX0 2).1 (TX0 2).2.1 (TX0 2).2.2.1 ∈ TB := TB_mem 112 (by rfl) (by rfl)
set_option maxRecDepth 100000 in
theorem m113 : Cond.fieldLink RX3 171 (TX0 2).1 (TX0 2).2.1 (TX0 2).2.2.1 ∈ TB := TB_mem 113 (by rfl) (by rfl)
set_option maxRecDepth 100000 in
theorem m114 : Cond.fieldLink RX0 21 (TX0 3).1 (TX0 3).2.1 (TX0 3).2.2.1 ∈ TB := TB_mem 114 (by rfl) (by rfl)
set_option maxRecDepth 100000 in
theorem m115 : Cond.fieldLink RX0 24 (TX0 4).1 (TX0 4).2.1 (TX0 4).2.2.1 ∈ TB := TB_mem 115 (by rfl) (by rfl)
set_option maxRecDepth 100000 in
theorem m116 : Cond.fieldLink RX2 42 (TX0 4).1 (TX0 4).2.1 (TX0 4).2.2.1 ∈ TB := TB_mem 116 (by rfl) (by rfl)
set_option maxRecDepth 100000 in
theorem m117 : Cond.fieldLink RX5 77 (TX0 4).1 (TX0 4).2.1 (TX0 4).2.2.1 ∈ TB := TB_mem 117 (by rfl) (by rfl)
set_option maxRecDepth 100000 in
theorem m118 : Cond.fieldLink RX0 27 (TX0 5).1 (TX0 5).2.1 (TX0 5).2.2.1 ∈ TB := TB_mem 118 (by rfl) (by rfl)
set_option maxRecDepth 100000 in
theorem m119 : Cond.fieldLink RX2 47 (TX0 5).1 (TX0 5).2.1 (TX0 5).2.2.1 ∈ TB := TB_mem 119 (by rfl) (by rfl)
set_option maxRecDepth 100000 in
theorem m120 : Cond.fieldLink RX5 80 (TX0 5).1 (TX0 5).2.1 (TX0 5).2.2.1 ∈ TB := TB_mem 120 (by rfl) (by rfl)
set_option maxRecDepth 100000 in
theorem m121 : Cond.fieldLink RX1 85 (TX0 5).1 (TX0 5).2.1 (TX0 5).2.2.1 ∈ TB := TB_mem 121 (by rfl) (by rfl)
set_option maxRecDepth 100000 in
theorem m122 : Cond.fieldLink RX0 31 (TX0 6).1 (TX0 6).2.1 (TX0 6).2.2.1 ∈ TB := TB_mem 122 (by rfl) (by rfl)
set_option maxRecDepth 100000 in
theorem m123 : Cond.fieldLink RX5 163 (TX0 6).1 (TX0 6).2.1 (TX0 6).2.2.1 ∈ TB := TB_mem 123 (by rfl) (by rfl)
set_option maxRecDepth 100000 in
theorem m146 : Cond.fieldLink RX1 41 (TX1 0).1 (TX1 0).2.1 (TX1 0).2.2.1 ∈ TB := TB_mem 146 (by rfl) (by rfl)
set_option maxRecDepth 100000 in
theorem m147 : Cond.fieldLink RX1 9 (TX1 1).1 (TX1 1).2.1 (TX1 1).2.2.1 ∈ TB := TB_mem 147 (by rfl) (by rfl)
set_option maxRecDepth 100000 in
theorem m148 : Cond.fieldLink RX2 17 (TX1 1).1 (TX1 1).2.1 (TX1 1).2.2.1 ∈ TB := TB_mem 148 (by rfl) (by rfl)
set_option maxRecDepth 100000 in
theorem m149 : Cond.fieldLink RX3 71 (TX1 1).1 (TX1 1).2.1 (TX1 1).2.2.1 ∈ TB := TB_mem 149 (by rfl) (by rfl)
set_option maxRecDepth 100000 in
theorem m150 : Cond.fieldLink RX5 101 (TX1 1).1 (TX1 1).2.1 (TX1 1).2.2.1 ∈ TB := TB_mem 150 (by rfl) (by rfl)
set_option maxRecDepth 100000 in
theorem m151 : Cond.fieldLink RX1 13 (TX1 2).1 (TX1 2).2.1 (TX1 2).2.2.1 ∈ TB := TB_mem 151 (by rfl) (by rfl)
set_option maxRecDepth 100000 in
theorem m152 : Cond.fieldLink RX2 26 (TX1 2).1 (TX1 2).2.1 (TX1 2).2.2.1 ∈ TB := TB_mem 152 (by rfl) (by rfl)
set_option maxRecDepth 100000 in
theorem m153 : Cond.fieldLink RX3 68 (TX1 2).1 (TX1 2).2.1 (TX1 2).2.2.1 ∈ TB := TB_mem 153 (by rfl) (by rfl)
set_option maxRecDepth 100000 in
theorem m154 : Cond.fieldLink RX5 104 (TX1 2).1 (TX1 2).2.1 (TX1 2).2.2.1 ∈ TB := TB_mem 154 (by rfl) (by rfl)
set_option maxRecDepth 100000 in
theorem m155 : Cond.fieldLink RX1 16 (TX1 3).1 (TX1 3).2.1 (TX1 3).2.2.1 ∈ TB := TB_mem 155 (by rfl) (by rfl)
set_option maxRecDepth 100000 in
theorem m156 : Cond.fieldLink RX3 94 (TX1 3).1 (TX1 3).2.1 (TX1 3).2.2.1 ∈ TB := TB_mem 156 (by rfl) (by rfl)
set_option maxRecDepth 100000 in
theorem m157 : Cond.fieldLink RX2 64 (TX1 3).1 (TX1 3).2.1 (TX1 3).2.2.1 ∈ TB := TB_mem 157 (by rfl) (by rfl)
set_option maxRecDepth 100000 in
theorem m158 : Cond.fieldLink RX5 107 (TX1 3).1 (TX1 3).2.1 (TX1 3).2.2.1 ∈ TB := TB_mem 158 (by rfl) (by rfl)
set_option maxRecDepth 100000 in
theorem m159 : Cond.fieldLink RX1 19 (TX1 4).1 (TX1 4).2.1 (TX1 4).2.2.1 ∈ TB := TB_mem 159 (by rfl) (by rfl)
set_option maxRecDepth 100000 in
theorem m160 : Cond.fieldLink RX2 51 (TX1 4).1 (TX1 4).2.1 (TX1 4).2.2.1 ∈ TB := TB_mem 160 (by rfl) (by rfl)
set_option maxRecDepth 100000 in
theorem m161 : Cond.fieldLink RX3 84 (TX1 4).1 (TX1 4).2.1 (TX1 4).2.2.1 ∈ TB := TB_mem 161 (by rfl) (by rfl)
set_option maxRecDepth 100000 in
theorem m162 : Cond.fieldLink RX5 110 (TX1 4).1 (TX1 4).2.1 (TX1 4).2.2.1 ∈ TB := TB_mem 162 (by rfl) (by rfl)
set_option maxRecDepth 100000 in
theorem m163 : Cond.fieldLink RX1 22 (TX1 5).1 (TX1 5).2.1 (TX1 5).2.2.1 ∈ TB := TB_mem 163 (by rfl) (by rfl)
set_option maxRecDepth 100000 in
theorem m164 : Cond.fieldLink RX2 32 (TX1 5).1 (TX1 5).2.1 (TX1 5).2.2.1 ∈ TB := TB_mem 164 (by rfl) (by rfl)
set_option maxRecDepth 100000 in
theorem m165 : Cond.fieldLink RX3 77 (TX1 5).1 (TX1 5).2.1 (TX1 5).2.2.1 ∈ TB := TB_mem 165 (by rfl) (by rfl)
set_option maxRecDepth 100000 in
theorem m166 : Cond.fieldLink RX5 113 (TX1 5).1 (TX1 5).2.1 (TX1 5).2.2.1 ∈ TB := TB_mem 166 (by rfl) (by rfl)
set_option maxRecDepth 100000 in
theorem m167 : Cond.fieldLink RX1 25 (TX1 6).1 (TX1 6).2.1 (TX1 6).2.2.1 ∈ TB := TB_mem 167 (by rfl) (by rfl)
set_option maxRecDepth 100000 in
theorem m168 : Cond.fieldLink RX5 116 (TX1 6).1 (TX1 6).2.1 (TX1 6).2.2.1 ∈ TB := TB_mem 168 (by rfl) (by rfl)
set_option maxRecDepth 100000 in
theorem m169 : Cond.fieldLink RX1 28 (TX1 7).1 (TX1 7).2.1 (TX1 7).2.2.1 ∈ TB := TB_mem 169 (by rfl) (by rfl)
set_option maxRecDepth 100000 in
theorem m170 : Cond.fieldLink RX2 63 (TX1 7).1 (TX1 7).2.1 (TX1 7).2.2.1 ∈ TB := TB_mem 170 (by rfl) (by rfl)
set_option maxRecDepth 100000 in
theorem m171 : Cond.fieldLink RX5 119 (TX1 7).1 (TX1 7).2.1 (TX1 7).2.2.1 ∈ TB := TB_mem 171 (by rfl) (by rfl)
set_option maxRecDepth 100000 in
theorem m172 : Cond.fieldLink RX1 45 (TX1 8).1 (TX1 8).2.1 (TX1 8).2.2.1 ∈ TB := TB_mem 172 (by rfl) (by rfl)
set_option maxRecDepth 100000 in
theorem m173 : Cond.fieldLink RX2 118 (TX1 8).1 (TX1 8).2.1 (TX1 8).2.2.1 ∈ TB := TB_mem 173 (by rfl) (by rfl)
set_option maxRecDepth 100000 in
theorem m174 : Cond.fieldLink RX5 154 (TX1 8).1 (TX1 8).2.1 (TX1 8).2.2.1 ∈ TB := TB_mem 174 (by rfl) (by rfl)
set_option maxRecDepth 100000 in
theorem m175 : Cond.fieldLink RX1 32 (TX1 9).1 (TX1 9).2.1 (TX1 9).2.2.1 ∈ TB := TB_mem 175 (by rfl) (by rfl)
set_option maxRecDepth 100000 in
theorem m176 : Cond.fieldLink RX3 55 (TX1 9).1 (TX1 9).2.1 (TX1 9).2.2.1 ∈ TB := TB_mem 176 (by rfl) (by rfl)
set_option maxRecDepth 100000 in
theorem m177 : Cond.fieldLink RX1 35 (TX1 10).1 (TX1 10).2.1 (TX1 10).2.2.1 ∈ TB := TB_mem 177 (by rfl) (by rfl)
set_option maxRecDepth 100000 in
theorem m178 : Cond.fieldLink RX1 38 (TX1 11).1 (TX1 11).2.1 (TX1 11).2.2.1 ∈ TB := TB_mem 178 (by rfl) (by rfl)
set_option maxRecDepth 100000 in
theorem m210 : Cond.fieldLink RX3 27 (TX3 0).1 (TX3 0).2.1 (TX3 0).2.2.1 ∈ TB := TB_mem 210 (by rfl) (by rfl)
set_option maxRecDepth 100000 in
theorem m211 : Cond.fieldLink RX3 31 (TX3 1).1 (TX3 1).2.1 (TX3 1).2.2.1 ∈ TB := TB_mem 211 (by rfl) (by rfl)
set_option maxRecDepth 100000 in
theorem m212 : Cond.fieldLink RX3 35 (TX3 2).1 (TX3 2).2.1 (TX3 2).2.2.1 ∈ TB := TB_mem 212 (by rfl) (by rfl)
set_option maxRecDepth 100000 in
theorem m213 : Cond.fieldLink RX3 13 (TX3 3).1 (TX3 3).2.1 (TX3 3).2.2.1 ∈ TB := TB_mem 213 (by rfl) (by rfl)
set_option maxRecDepth 100000 in
theorem m214 : Cond.fieldLink RX3 39 (TX3 4).1 (TX3 4).2.1 (TX3 4).2.2.1 ∈ TB := TB_mem 214 (by rfl) (by rfl)
set_option maxRecDepth 100000 in
theorem m215 : Cond.fieldLink RX3 17 (TX3 5).1 (TX3 5).2.1 (TX3 5).2.2.1 ∈ TB := TB_mem 215 (by rfl) (by rfl)
set_option maxRecDepth 100000 in
theorem m216 : Cond.fieldLink RX3 20 (TX3 6).1 (TX3 6).2.1 (TX3 6).2.2.1 ∈ TB := TB_mem 216 (by rfl) (by rfl)
set_option maxRecDepth 100000 in
theorem m217 : Cond.fieldLink RX3 62 (TX3 7).1 (TX3 7).2.1 (TX3 7).2.2.1 ∈ TB := TB_mem 217 (by rfl) (by rfl)
set_option maxRecDepth 100000 in
theorem m218 : Cond.fieldLink RX3 65 (TX3 8).1 (TX3 8).2.1 (TX3 8).2.2.1 ∈ TB := TB_mem 218 (by rfl) (by rfl)
set_option maxRecDepth 100000 in
theorem m219 : Cond.fieldLink RX3 42 (TX3 9).1 (TX3 9).2.1 (TX3 9).2.2.1 ∈ TB := TB_mem 219 (by rfl) (by rfl)
set_option maxRecDepth 100000 in
theorem m220 : Cond.fieldLink RX5 130 (TX3 9).1 (TX3 9).2.1 (TX3 9).2.2.1 ∈ TB := TB_mem 220 (by rfl) (by rfl)
set_option maxRecDepth 100000 in
theorem m221 : Cond.fieldLink RX3 45 (TX3 10).1 (TX3 10).2.1 (TX3 10).2.2.1 ∈ TB := TB_mem 221 (by rfl) (by rfl)
set_option maxRecDepth 100000 in
theorem m222 : Cond.fieldLink RX5 134 (TX3 10).1 (TX3 10).2.1 (TX3 10).2.2.1 ∈ TB := TB_mem 222 (by rfl) (by rfl)
set_option maxRecDepth 100000 in
theorem m223 : Cond.fieldLink RX3 48 (TX3 11).1 (TX3 11).2.1 (TX3 11).2.2.1 ∈ TB := TB_mem 223 (by rfl) (by rfl)
set_option maxRecDepth 100000 in
theorem m224 : Cond.fieldLink RX5 137 (TX3 11).1 (TX3 11).2.1 (TX3 11).2.2.1 ∈ TB := TB_mem 224 (by rfl) (by rfl)
set_option maxRecDepth 100000 in
theorem m225 : Cond.fieldLink RX3 23 (TX3 12).1 (TX3 12).2.1 (TX3 12).2.2.1 ∈ TB := TB_mem 225 (by rfl) (by rfl)
set_option maxRecDepth 100000 in
theorem m226 : Cond.fieldLink RX5 140 (TX3 12).1 (TX3 12).2.1 (TX3 12).2.2.1 ∈ TB := TB_mem 226 (by rfl) (by rfl)
set_option maxRecDepth 100000 in
theorem m260 : Cond.fieldLink RX2 7 (TX2 0).1 (TX2 0).2.1 (TX2 0).2.2.1 ∈ TB := TB_mem 260 (by rfl) (by rfl)
set_option maxRecDepth 100000 in
theorem m261 : Cond.fieldLink RX2 13 (TX2 1).1 (TX2 1).2.1 (TX2 1).2.2.1 ∈ TB := TB_mem 261 (by rfl) (by rfl)
set_option maxRecDepth 100000 in
theorem m262 : Cond.fieldLink RX2 79 (TX2 2).1 (TX2 2).2.1 (TX2 2).2.2.1 ∈ TB := TB_mem 262 (by rfl) (by rfl)
set_option maxRecDepth 100000 in
theorem m263 : Cond.fieldLink RX5 164 (TX2 2).1 (TX2 2).2.1 (TX2 2).2.2.1 ∈ TB := TB_mem 263 (by rfl) (by rfl)
set_option maxRecDepth 100000 in
theorem m271 : Cond.fieldLink RX5 12 (TX5 0).1 (TX5 0).2.1 (TX5 0).2.2.1 ∈ TB := TB_mem 271 (by rfl) (by rfl)
set_option maxRecDepth 100000 in
theorem m272 : Cond.fieldLink RX5 19 (TX5 1).1 (TX5 1).2.1 (TX5 1).2.2.1 ∈ TB := TB_mem 272 (by rfl) (by rfl)
set_option maxRecDepth 100000 in
theorem m273 : Cond.fieldLink RX5 28 (TX5 2).1 (TX5 2).2.1 (TX5 2).2.2.1 ∈ TB := TB_mem 273 (by rfl) (by rfl)
set_option maxRecDepth 100000 in
theorem m274 : Cond.fieldLink RX5 37 (TX5 3).1 (TX5 3).2.1 (TX5 3).2.2.1 ∈ TB := TB_mem 274 (by rfl) (by rfl)
set_option maxRecDepth 100000 in
theorem m275 : Cond.fieldLink RX5 46 (TX5 4).1 (TX5 4).2.1 (TX5 4).2.2.1 ∈ TB := TB_mem 275 (by rfl) (by rfl)
set_option maxRecDepth 100000 in
theorem m287 : Cond.methodLink RL 13 yX5_row ∈ TB := TB_mem 287 (by rfl) (by rfl)
set_option maxRecDepth 100000 in
theorem m288 : Cond.instanceMethod yX5_row ∈ TB := TB_mem 288 (by rfl) (by rfl)
set_option maxRecDepth 100000 in
theorem m289 : Cond.selects RX5 yX5_row yX5_row ∈ TB := TB_mem 289 (by rfl) (by rfl)
set_option maxRecDepth 100000 in
theorem m290 : Cond.code yX5_row cX5_row 5 (some .int) ∈ TB := TB_mem 290 (by rfl) (by rfl)
set_option maxRecDepth 100000 in
theorem m291 : Cond.methodLink RX5 50 yX4_has ∈ TB := TB_mem 291 (by rfl) (by rfl)
set_option maxRecDepth 100000 in
theorem m292 : Cond.instanceMethod yX4_has ∈ TB := TB_mem 292 (by rfl) (by rfl)
set_option maxRecDepth 100000 in
theorem m293 : Cond.selects RX4 yX4_has yX4_has ∈ TB := TB_mem 293 (by rfl) (by rfl)
set_option maxRecDepth 100000 in
theorem m294 : Cond.code yX4_has cX4_has 2 (some .boolean) ∈ TB := TB_mem 294 (by rfl) (by rfl)
set_option maxRecDepth 100000 in
theorem m295 : Cond.methodLink RX5 54 yX4_add ∈ TB := TB_mem 295 (by rfl) (by rfl)
set_option maxRecDepth 100000 in
theorem m296 : Cond.instanceMethod yX4_add ∈ TB := TB_mem 296 (by rfl) (by rfl)
set_option maxRecDepth 100000 in
theorem m297 : Cond.selects RX4 yX4_add yX4_add ∈ TB := TB_mem 297 (by rfl) (by rfl)
set_option maxRecDepth 100000 in
theorem m298 : Cond.code yX4_add cX4_add 6 (some .int) ∈ TB := TB_mem 298 (by rfl) (by rfl)
set_option maxRecDepth 100000 in
theorem m299 : Cond.methodLink RX4 21 yX4_cellOf ∈ TB := TB_mem 299 (by rfl) (by rfl)
set_option maxRecDepth 100000 in
theorem m300 : Cond.instanceMethod yX4_cellOf ∈ TB := TB_mem 300 (by rfl) (by rfl)
set_option maxRecDepth 100000 in
theorem m301 : Cond.selects RX4 yX4_cellOf yX4_cellOf ∈ TB := TB_mem 301 (by rfl) (by rfl)
set_option maxRecDepth 100000 in
theorem m302 : Cond.code yX4_cellOf cX4_cellOf 3 (some .int) ∈ TB := TB_mem 302 (by rfl) (by rfl)
set_option maxRecDepth 100000 in
theorem m303 : Cond.methodLink RL 18 yX5_clear ∈ TB := TB_mem 303 (by rfl) (by rfl)
set_option maxRecDepth 100000 in
theorem m304 : Cond.instanceMethod yX5_clear ∈ TB := TB_mem 304 (by rfl) (by rfl)
set_option maxRecDepth 100000 in
theorem m305 : Cond.selects RX5 yX5_clear yX5_clear ∈ TB := TB_mem 305 (by rfl) (by rfl)
set_option maxRecDepth 100000 in
theorem m306 : Cond.code yX5_clear cX5_clear 2 (some .int) ∈ TB := TB_mem 306 (by rfl) (by rfl)
set_option maxRecDepth 100000 in
theorem m307 : Cond.methodLink RX5 58 yX4_empty ∈ TB := TB_mem 307 (by rfl) (by rfl)
set_option maxRecDepth 100000 in
theorem m308 : Cond.instanceMethod yX4_empty ∈ TB := TB_mem 308 (by rfl) (by rfl)
set_option maxRecDepth 100000 in
theorem m309 : Cond.selects RX4 yX4_empty yX4_empty ∈ TB := TB_mem 309 (by rfl) (by rfl)
set_option maxRecDepth 100000 in
theorem m310 : Cond.code yX4_empty cX4_empty 3 (some .int) ∈ TB := TB_mem 310 (by rfl) (by rfl)
set_option maxRecDepth 100000 in
theorem m311 : Cond.methodLink RL 23 yX5_table ∈ TB := TB_mem 311 (by rfl) (by rfl)
set_option maxRecDepth 100000 in
theorem m312 : Cond.instanceMethod yX5_table ∈ TB := TB_mem 312 (by rfl) (by rfl)
set_option maxRecDepth 100000 in
theorem m313 : Cond.selects RX5 yX5_table yX5_table ∈ TB := TB_mem 313 (by rfl) (by rfl)
set_option maxRecDepth 100000 in
theorem m314 : Cond.code yX5_table cX5_table 3 (some .int) ∈ TB := TB_mem 314 (by rfl) (by rfl)
set_option maxRecDepth 100000 in
theorem m315 : Cond.methodLink RX5 62 yX4_hasItem ∈ TB := TB_mem 315 (by rfl) (by rfl)
set_option maxRecDepth 100000 in
theorem m316 : Cond.instanceMethod yX4_hasItem ∈ TB := TB_mem 316 (by rfl) (by rfl)
set_option maxRecDepth 100000 in
theorem m317 : Cond.selects RX4 yX4_hasItem yX4_hasItem ∈ TB := TB_mem 317 (by rfl) (by rfl)
set_option maxRecDepth 100000 in
theorem m318 : Cond.code yX4_hasItem cX4_hasItem 2 (some .boolean) ∈ TB := TB_mem 318 (by rfl) (by rfl)
set_option maxRecDepth 100000 in
theorem m319 : Cond.methodLink RL 28 yX5_formula ∈ TB := TB_mem 319 (by rfl) (by rfl)
set_option maxRecDepth 100000 in
theorem m320 : Cond.instanceMethod yX5_formula ∈ TB := TB_mem 320 (by rfl) (by rfl)
set_option maxRecDepth 100000 in
theorem m321 : Cond.selects RX5 yX5_formula yX5_formula ∈ TB := TB_mem 321 (by rfl) (by rfl)
set_option maxRecDepth 100000 in
theorem m322 : Cond.code yX5_formula cX5_formula 4 (some .int) ∈ TB := TB_mem 322 (by rfl) (by rfl)
set_option maxRecDepth 100000 in
theorem m323 : Cond.methodLink RX5 69 yX0_isAsTold ∈ TB := TB_mem 323 (by rfl) (by rfl)
set_option maxRecDepth 100000 in
theorem m324 : Cond.instanceMethod yX0_isAsTold ∈ TB := TB_mem 324 (by rfl) (by rfl)
set_option maxRecDepth 100000 in
theorem m325 : Cond.selects RX0 yX0_isAsTold yX0_isAsTold ∈ TB := TB_mem 325 (by rfl) (by rfl)
set_option maxRecDepth 100000 in
theorem m326 : Cond.code yX0_isAsTold cX0_isAsTold 4 (some .boolean) ∈ TB := TB_mem 326 (by rfl) (by rfl)
set_option maxRecDepth 100000 in
theorem m328 : Cond.static yX5_isMember ∈ TB := TB_mem 328 (by rfl) (by rfl)
set_option maxRecDepth 100000 in
theorem m329 : Cond.code yX5_isMember cX5_isMember 1 (some .boolean) ∈ TB := TB_mem 329 (by rfl) (by rfl)
set_option maxRecDepth 100000 in
theorem m330 : Cond.methodLink RX0 39 yX0_takesFirst ∈ TB := TB_mem 330 (by rfl) (by rfl)
set_option maxRecDepth 100000 in
theorem m331 : Cond.static yX0_takesFirst ∈ TB := TB_mem 331 (by rfl) (by rfl)
set_option maxRecDepth 100000 in
theorem m332 : Cond.code yX0_takesFirst cX0_takesFirst 1 (some .boolean) ∈ TB := TB_mem 332 (by rfl) (by rfl)
set_option maxRecDepth 100000 in
theorem m333 : Cond.methodLink RX0 42 yX0_has ∈ TB := TB_mem 333 (by rfl) (by rfl)
set_option maxRecDepth 100000 in
theorem m334 : Cond.instanceMethod yX0_has ∈ TB := TB_mem 334 (by rfl) (by rfl)
set_option maxRecDepth 100000 in
theorem m335 : Cond.selects RX0 yX0_has yX0_has ∈ TB := TB_mem 335 (by rfl) (by rfl)
set_option maxRecDepth 100000 in
theorem m336 : Cond.code yX0_has cX0_has 2 (some .boolean) ∈ TB := TB_mem 336 (by rfl) (by rfl)
set_option maxRecDepth 100000 in
theorem m337 : Cond.methodLink RX0 45 yX0_takesSecond ∈ TB := TB_mem 337 (by rfl) (by rfl)
set_option maxRecDepth 100000 in
theorem m338 : Cond.static yX0_takesSecond ∈ TB := TB_mem 338 (by rfl) (by rfl)
set_option maxRecDepth 100000 in
theorem m339 : Cond.code yX0_takesSecond cX0_takesSecond 1 (some .boolean) ∈ TB := TB_mem 339 (by rfl) (by rfl)
set_option maxRecDepth 100000 in
theorem m340 : Cond.methodLink RX5 73 yX0_add ∈ TB := TB_mem 340 (by rfl) (by rfl)
set_option maxRecDepth 100000 in
theorem m341 : Cond.instanceMethod yX0_add ∈ TB := TB_mem 341 (by rfl) (by rfl)
set_option maxRecDepth 100000 in
theorem m342 : Cond.selects RX0 yX0_add yX0_add ∈ TB := TB_mem 342 (by rfl) (by rfl)
set_option maxRecDepth 100000 in
theorem m343 : Cond.code yX0_add cX0_add 5 (some .int) ∈ TB := TB_mem 343 (by rfl) (by rfl)
set_option maxRecDepth 100000 in
theorem m344 : Cond.methodLink RX0 52 yX0_hasRoom ∈ TB := TB_mem 344 (by rfl) (by rfl)
set_option maxRecDepth 100000 in
theorem m345 : Cond.instanceMethod yX0_hasRoom ∈ TB := TB_mem 345 (by rfl) (by rfl)
set_option maxRecDepth 100000 in
theorem m346 : Cond.selects RX0 yX0_hasRoom yX0_hasRoom ∈ TB := TB_mem 346 (by rfl) (by rfl)
set_option maxRecDepth 100000 in
theorem m347 : Cond.code yX0_hasRoom cX0_hasRoom 4 (some .boolean) ∈ TB := TB_mem 347 (by rfl) (by rfl)
set_option maxRecDepth 100000 in
theorem m348 : Cond.methodLink RX0 48 yX0_sizeOf ∈ TB := TB_mem 348 (by rfl) (by rfl)
set_option maxRecDepth 100000 in
theorem m350 : Cond.instanceMethod yX0_sizeOf ∈ TB := TB_mem 350 (by rfl) (by rfl)
set_option maxRecDepth 100000 in
theorem m351 : Cond.code yX0_sizeOf cX0_sizeOf 4 (some .int) ∈ TB := TB_mem 351 (by rfl) (by rfl)
set_option maxRecDepth 100000 in
theorem m352 : Cond.methodLink RX0 56 yX0_readsOf ∈ TB := TB_mem 352 (by rfl) (by rfl)
set_option maxRecDepth 100000 in
theorem m354 : Cond.instanceMethod yX0_readsOf ∈ TB := TB_mem 354 (by rfl) (by rfl)
set_option maxRecDepth 100000 in
theorem m355 : Cond.code yX0_readsOf cX0_readsOf 4 (some .int) ∈ TB := TB_mem 355 (by rfl) (by rfl)
set_option maxRecDepth 100000 in
theorem m356 : Cond.methodLink RX0 59 yX0_failsOf ∈ TB := TB_mem 356 (by rfl) (by rfl)
set_option maxRecDepth 100000 in
theorem m358 : Cond.instanceMethod yX0_failsOf ∈ TB := TB_mem 358 (by rfl) (by rfl)
set_option maxRecDepth 100000 in
theorem m359 : Cond.code yX0_failsOf cX0_failsOf 4 (some .boolean) ∈ TB := TB_mem 359 (by rfl) (by rfl)
set_option maxRecDepth 100000 in
theorem m360 : Cond.methodLink RL 33 yX5_formulaOf ∈ TB := TB_mem 360 (by rfl) (by rfl)
set_option maxRecDepth 100000 in
theorem m361 : Cond.instanceMethod yX5_formulaOf ∈ TB := TB_mem 361 (by rfl) (by rfl)
set_option maxRecDepth 100000 in
theorem m362 : Cond.selects RX5 yX5_formulaOf yX5_formulaOf ∈ TB := TB_mem 362 (by rfl) (by rfl)
set_option maxRecDepth 100000 in
theorem m363 : Cond.code yX5_formulaOf cX5_formulaOf 3 (some .int) ∈ TB := TB_mem 363 (by rfl) (by rfl)
set_option maxRecDepth 100000 in
theorem m364 : Cond.methodLink RX5 76 yX0_has ∈ TB := TB_mem 364 (by rfl) (by rfl)
set_option maxRecDepth 100000 in
theorem m365 : Cond.methodLink RX5 84 yX5_asNumber ∈ TB := TB_mem 365 (by rfl) (by rfl)
set_option maxRecDepth 100000 in
theorem m366 : Cond.static yX5_asNumber ∈ TB := TB_mem 366 (by rfl) (by rfl)
set_option maxRecDepth 100000 in
theorem m367 : Cond.code yX5_asNumber cX5_asNumber 1 (some .int) ∈ TB := TB_mem 367 (by rfl) (by rfl)
set_option maxRecDepth 100000 in
theorem m368 : Cond.methodLink RL 37 yX5_node ∈ TB := TB_mem 368 (by rfl) (by rfl)
set_option maxRecDepth 100000 in
theorem m369 : Cond.instanceMethod yX5_node ∈ TB := TB_mem 369 (by rfl) (by rfl)
set_option maxRecDepth 100000 in
theorem m370 : Cond.selects RX5 yX5_node yX5_node ∈ TB := TB_mem 370 (by rfl) (by rfl)
set_option maxRecDepth 100000 in
theorem m371 : Cond.code yX5_node cX5_node 6 (some .int) ∈ TB := TB_mem 371 (by rfl) (by rfl)
set_option maxRecDepth 100000 in
theorem m372 : Cond.methodLink RX5 88 yX1_isAsTold ∈ TB := TB_mem 372 (by rfl) (by rfl)
set_option maxRecDepth 100000 in
theorem m373 : Cond.instanceMethod yX1_isAsTold ∈ TB := TB_mem 373 (by rfl) (by rfl)
set_option maxRecDepth 100000 in
theorem m374 : Cond.selects RX1 yX1_isAsTold yX1_isAsTold ∈ TB := TB_mem 374 (by rfl) (by rfl)
set_option maxRecDepth 100000 in
theorem m375 : Cond.code yX1_isAsTold cX1_isAsTold 6 (some .boolean) ∈ TB := TB_mem 375 (by rfl) (by rfl)
set_option maxRecDepth 100000 in
theorem m376 : Cond.methodLink RX1 51 yX1_has ∈ TB := TB_mem 376 (by rfl) (by rfl)

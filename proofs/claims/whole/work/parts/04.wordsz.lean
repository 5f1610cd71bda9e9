set_option maxRecDepth 100000 in
theorem m945 : Cond.code yX6_stands cX6_stands 9 (some .boolean) ∈ TB := TB_mem 945 (by rfl) (by rfl)
set_option maxRecDepth 100000 in
theorem m970 : Cond.code yX6_rewrites cX6_rewrites 11 none ∈ TB := TB_mem 970 (by rfl) (by rfl)

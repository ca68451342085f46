set_option maxRecDepth 20000 in
theorem x_CP_requireIndex : tk_Tw "ChargePlans" 166 168 170 eI "no such number" upNames := ⟨by decide +kernel, by decide +kernel, tk_at 318 (by decide +kernel) (by decide +kernel), tk_at 13 (by decide +kernel) (by decide +kernel), tk_at 327 (by decide +kernel) (by decide +kernel), tk_own (by decide +kernel), by decide⟩
set_option maxRecDepth 20000 in
theorem x_CP_requireTurn : tk_Tw "ChargePlans" 173 175 177 eS "the call is out of turn" upNames := ⟨by decide +kernel, by decide +kernel, tk_at 211 (by decide +kernel) (by decide +kernel), tk_at 11 (by decide +kernel) (by decide +kernel), tk_at 253 (by decide +kernel) (by decide +kernel), tk_own (by decide +kernel), by decide⟩
set_option maxRecDepth 20000 in
theorem x_CP_requireArgument : tk_Tw "ChargePlans" 178 180 182 eA "a value is out of its range" upNames := ⟨by decide +kernel, by decide +kernel, tk_at 286 (by decide +kernel) (by decide +kernel), tk_at 12 (by decide +kernel) (by decide +kernel), tk_at 295 (by decide +kernel) (by decide +kernel), tk_own (by decide +kernel), by decide⟩
set_option maxRecDepth 20000 in
theorem x_CP_requireMeaning : tk_Tw "ChargePlans" 183 185 187 eU "the call has no meaning here" upNames := ⟨by decide +kernel, by decide +kernel, tk_at 355 (by decide +kernel) (by decide +kernel), tk_at 14 (by decide +kernel) (by decide +kernel), tk_at 364 (by decide +kernel) (by decide +kernel), tk_own (by decide +kernel), by decide⟩
theorem z_G_min : Cond.methodLink "ChargePlans$Goods" 34 Lib.Math.min.name ∈ tk_tbl := tk_at 415 (by decide +kernel) (by decide +kernel)
theorem z_CP_maxL : Cond.methodLink "ChargePlans" 163 Lib.MathLoose.max_long.x ∈ tk_tbl := tk_at 494 (by decide +kernel) (by decide +kernel)
theorem z_CP_minL : Cond.methodLink "ChargePlans" 148 Lib.MathLoose.min_long.x ∈ tk_tbl := tk_at 506 (by decide +kernel) (by decide +kernel)
theorem z_min1 : Cond.static Lib.Math.min.name ∈ tk_tbl := tk_at 416 (by decide +kernel) (by decide +kernel)
set_option maxRecDepth 20000 in
theorem z_min2 : Cond.code Lib.Math.min.name Lib.Math.min.code 2 (some .int) ∈ tk_tbl := tk_at 417 (by decide +kernel) (by decide +kernel)
theorem z_maxL1 : Cond.static Lib.MathLoose.max_long.x ∈ tk_tbl := tk_at 495 (by decide +kernel) (by decide +kernel)
set_option maxRecDepth 20000 in
theorem z_maxL2 : Cond.code Lib.MathLoose.max_long.x Lib.MathLoose.max_long.code 4 (some .long) ∈ tk_tbl := tk_at 496 (by decide +kernel) (by decide +kernel)
theorem z_minL1 : Cond.static Lib.MathLoose.min_long.x ∈ tk_tbl := tk_at 507 (by decide +kernel) (by decide +kernel)
set_option maxRecDepth 20000 in
theorem z_minL2 : Cond.code Lib.MathLoose.min_long.x Lib.MathLoose.min_long.code 4 (some .long) ∈ tk_tbl := tk_at 508 (by decide +kernel) (by decide +kernel)
theorem z_math : Cond.initialized "java/lang/Math" ∈ tk_tbl := tk_at 15 (by decide +kernel) (by decide +kernel)

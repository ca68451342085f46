set_option maxRecDepth 20000 in
theorem x_CP_requireIndex : tk_Tw "ChargePlans" 166 168 170 eI "no such number" upNames := ⟨by decide +kernel, by decide +kernel, tk_at 318 (by decide +kernel) (by decide +kernel), tk_at 13 (by decide +kernel) (by decide +kernel), tk_at 327 (by decide +kernel) (by decide +kernel), tk_own (by decide +kernel), by decide⟩
set_option maxRecDepth 20000 in
theorem x_CP_requireTurn : tk_Tw "ChargePlans" 173 175 177 eS "the call is out of turn" upNames := ⟨by decide +kernel, by decide +kernel, tk_at 211 (by decide +kernel) (by decide +kernel), tk_at 11 (by decide +kernel) (by decide +kernel), tk_at 253 (by decide +kernel) (by decide +kernel), tk_own (by decide +kernel), by decide⟩
set_option maxRecDepth 20000 in
theorem x_CP_requireArgument : tk_Tw "ChargePlans" 178 180 182 eA "a value is out of its range" upNames := ⟨by decide +kernel, by decide +kernel, tk_at 286 (by decide +kernel) (by decide +kernel), tk_at 12 (by decide +kernel) (by decide +kernel), tk_at 295 (by decide +kernel) (by decide +kernel), tk_own (by decide +kernel), by decide⟩
set_option maxRecDepth 20000 in
theorem x_CP_requireMeaning : tk_Tw "ChargePlans" 183 185 187 eU "the call has no meaning here" upNames := ⟨by decide +kernel, by decide +kernel, tk_at 355 (by decide +kernel) (by decide +kernel), tk_at 14 (by decide +kernel) (by decide +kernel), tk_at 364 (by decide +kernel) (by decide +kernel), tk_own (by decide +kernel), by decide⟩

section
theorem gl_wsX8_strong_r1 : GoodIn lw_tbl wsX8_strong_r1 := (zl_cons zg_876 (zl_cons zg_875 (zl_cons zg_874 (zl_cons zg_49 (zl_cons zg_873 (zl_cons zg_312 (zl_cons zg_872 (zl_cons zg_871 (zl_cons zg_870 (zl_cons zg_869 (zl_cons zg_306 (zl_cons zg_868 (zl_cons zg_867 (zl_cons zg_866 (zl_cons zg_865 (zl_cons zg_864 (zl_cons zg_863 (zl_cons zg_862 (zl_cons zg_861 (zl_cons zg_860 (zl_cons zg_859 (zl_cons zg_858 (zl_cons zg_857 (zl_cons zg_856 zl_nil))))))))))))))))))))))))
theorem zg_877 : (Cond.code yX8_lacking cX8_lacking 3 (some .int)) ∈ lw_tbl ∧ ((((Cond.code yX8_lacking cX8_lacking 3 (some .int) : Cond)).onTables && ((Cond.code yX8_lacking cX8_lacking 3 (some .int) : Cond)).keeps) = true ∨ ∃ ty, (Cond.code yX8_lacking cX8_lacking 3 (some .int)) = .arrayClass ty) := ⟨zt_5 (List.mem_of_getElem? (i := 69) rfl), good_of_word rfl⟩
theorem zg_878 : (Cond.selects RX8 yX8_lacking yX8_lacking) ∈ lw_tbl ∧ ((((Cond.selects RX8 yX8_lacking yX8_lacking : Cond)).onTables && ((Cond.selects RX8 yX8_lacking yX8_lacking : Cond)).keeps) = true ∨ ∃ ty, (Cond.selects RX8 yX8_lacking yX8_lacking) = .arrayClass ty) := ⟨zp_4 6 (by decide +kernel), good_of_word rfl⟩
theorem zg_879 : (Cond.instanceMethod yX8_lacking) ∈ lw_tbl ∧ ((((Cond.instanceMethod yX8_lacking : Cond)).onTables && ((Cond.instanceMethod yX8_lacking : Cond)).keeps) = true ∨ ∃ ty, (Cond.instanceMethod yX8_lacking) = .arrayClass ty) := ⟨zt_5 (List.mem_of_getElem? (i := 68) rfl), good_of_word rfl⟩
theorem zg_880 : (Cond.methodLink RX8 262 yX8_lacking) ∈ lw_tbl ∧ ((((Cond.methodLink RX8 262 yX8_lacking : Cond)).onTables && ((Cond.methodLink RX8 262 yX8_lacking : Cond)).keeps) = true ∨ ∃ ty, (Cond.methodLink RX8 262 yX8_lacking) = .arrayClass ty) := ⟨zt_5 (List.mem_of_getElem? (i := 66) rfl), good_of_word rfl⟩
theorem zg_881 : (Cond.code yX8_greatest cX8_greatest 2 (some .int)) ∈ lw_tbl ∧ ((((Cond.code yX8_greatest cX8_greatest 2 (some .int) : Cond)).onTables && ((Cond.code yX8_greatest cX8_greatest 2 (some .int) : Cond)).keeps) = true ∨ ∃ ty, (Cond.code yX8_greatest cX8_greatest 2 (some .int)) = .arrayClass ty) := ⟨zt_5 (List.mem_of_getElem? (i := 65) rfl), good_of_word rfl⟩
theorem gl_wsX8_strong_r2 : GoodIn lw_tbl wsX8_strong_r2 := (zl_cons zg_881 (zl_cons zg_880 (zl_cons zg_879 (zl_cons zg_878 (zl_cons zg_877 (zl_cons zg_47 (zl_cons zg_46 (zl_cons zg_45 (zl_cons zg_44 (zl_cons zg_43 zl_nil))))))))))
theorem gl_wsX8_strong : GoodIn lw_tbl wsX8_strong := (zl_cons zg_855 (goodIn_app (goodIn_app gl_wsX8_strong_r1 gl_wsX8_strong_r2) gl_wsX80))
theorem zg_882 : (Cond.selects RX8 yX8_strong yX8_strong) ∈ lw_tbl ∧ ((((Cond.selects RX8 yX8_strong yX8_strong : Cond)).onTables && ((Cond.selects RX8 yX8_strong yX8_strong : Cond)).keeps) = true ∨ ∃ ty, (Cond.selects RX8 yX8_strong yX8_strong) = .arrayClass ty) := ⟨zt_5 (List.mem_of_getElem? (i := 44) rfl), good_of_word rfl⟩
theorem zg_883 : (Cond.instanceMethod yX8_strong) ∈ lw_tbl ∧ ((((Cond.instanceMethod yX8_strong : Cond)).onTables && ((Cond.instanceMethod yX8_strong : Cond)).keeps) = true ∨ ∃ ty, (Cond.instanceMethod yX8_strong) = .arrayClass ty) := ⟨zt_5 (List.mem_of_getElem? (i := 43) rfl), good_of_word rfl⟩
theorem zg_884 : (Cond.methodLink RL 114 yX8_strong) ∈ lw_tbl ∧ ((((Cond.methodLink RL 114 yX8_strong : Cond)).onTables && ((Cond.methodLink RL 114 yX8_strong : Cond)).keeps) = true ∨ ∃ ty, (Cond.methodLink RL 114 yX8_strong) = .arrayClass ty) := ⟨zt_5 (List.mem_of_getElem? (i := 42) rfl), good_of_word rfl⟩
theorem gq_114 : GoodIn lw_tbl (wsV RL 114 RX8 yX8_strong wsX8_strong) := goodIn_app (zl_cons zg_884 (zl_cons zg_883 (zl_cons zg_882 (zl_cons zg_49 zl_nil)))) gl_wsX8_strong
theorem zg_885 : (Cond.code yX7_catches cX7_catches 3 (some .int)) ∈ lw_tbl ∧ ((((Cond.code yX7_catches cX7_catches 3 (some .int) : Cond)).onTables && ((Cond.code yX7_catches cX7_catches 3 (some .int) : Cond)).keeps) = true ∨ ∃ ty, (Cond.code yX7_catches cX7_catches 3 (some .int)) = .arrayClass ty) := ⟨zt_2 (List.mem_of_getElem? (i := 228) rfl), good_of_word rfl⟩
theorem zg_886 : (Cond.fieldLink RX6 26 "TheLiningsInIt$Zip" "gap" "I") ∈ lw_tbl ∧ ((((Cond.fieldLink RX6 26 "TheLiningsInIt$Zip" "gap" "I" : Cond)).onTables && ((Cond.fieldLink RX6 26 "TheLiningsInIt$Zip" "gap" "I" : Cond)).keeps) = true ∨ ∃ ty, (Cond.fieldLink RX6 26 "TheLiningsInIt$Zip" "gap" "I") = .arrayClass ty) := ⟨zt_0 (List.mem_of_getElem? (i := 53) rfl), good_of_word rfl⟩
theorem zg_887 : (Cond.code yX6_catchesAt cX6_catchesAt 2 (some .boolean)) ∈ lw_tbl ∧ ((((Cond.code yX6_catchesAt cX6_catchesAt 2 (some .boolean) : Cond)).onTables && ((Cond.code yX6_catchesAt cX6_catchesAt 2 (some .boolean) : Cond)).keeps) = true ∨ ∃ ty, (Cond.code yX6_catchesAt cX6_catchesAt 2 (some .boolean)) = .arrayClass ty) := ⟨zt_2 (List.mem_of_getElem? (i := 236) rfl), good_of_word rfl⟩
theorem zg_888 : (Cond.selects RX6 yX6_catchesAt yX6_catchesAt) ∈ lw_tbl ∧ ((((Cond.selects RX6 yX6_catchesAt yX6_catchesAt : Cond)).onTables && ((Cond.selects RX6 yX6_catchesAt yX6_catchesAt : Cond)).keeps) = true ∨ ∃ ty, (Cond.selects RX6 yX6_catchesAt yX6_catchesAt) = .arrayClass ty) := ⟨zt_2 (List.mem_of_getElem? (i := 235) rfl), good_of_word rfl⟩
theorem zg_889 : (Cond.instanceMethod yX6_catchesAt) ∈ lw_tbl ∧ ((((Cond.instanceMethod yX6_catchesAt : Cond)).onTables && ((Cond.instanceMethod yX6_catchesAt : Cond)).keeps) = true ∨ ∃ ty, (Cond.instanceMethod yX6_catchesAt) = .arrayClass ty) := ⟨zt_2 (List.mem_of_getElem? (i := 234) rfl), good_of_word rfl⟩
theorem zg_890 : (Cond.methodLink RX6 52 yX6_catchesAt) ∈ lw_tbl ∧ ((((Cond.methodLink RX6 52 yX6_catchesAt : Cond)).onTables && ((Cond.methodLink RX6 52 yX6_catchesAt : Cond)).keeps) = true ∨ ∃ ty, (Cond.methodLink RX6 52 yX6_catchesAt) = .arrayClass ty) := ⟨zt_2 (List.mem_of_getElem? (i := 233) rfl), good_of_word rfl⟩
theorem zg_891 : (Cond.code yX6_catchingTeeth cX6_catchingTeeth 4 (some .int)) ∈ lw_tbl ∧ ((((Cond.code yX6_catchingTeeth cX6_catchingTeeth 4 (some .int) : Cond)).onTables && ((Cond.code yX6_catchingTeeth cX6_catchingTeeth 4 (some .int) : Cond)).keeps) = true ∨ ∃ ty, (Cond.code yX6_catchingTeeth cX6_catchingTeeth 4 (some .int)) = .arrayClass ty) := ⟨zt_2 (List.mem_of_getElem? (i := 232) rfl), good_of_word rfl⟩
theorem zg_892 : (Cond.selects RX6 yX6_catchingTeeth yX6_catchingTeeth) ∈ lw_tbl ∧ ((((Cond.selects RX6 yX6_catchingTeeth yX6_catchingTeeth : Cond)).onTables && ((Cond.selects RX6 yX6_catchingTeeth yX6_catchingTeeth : Cond)).keeps) = true ∨ ∃ ty, (Cond.selects RX6 yX6_catchingTeeth yX6_catchingTeeth) = .arrayClass ty) := ⟨zt_2 (List.mem_of_getElem? (i := 231) rfl), good_of_word rfl⟩
theorem zg_893 : (Cond.instanceMethod yX6_catchingTeeth) ∈ lw_tbl ∧ ((((Cond.instanceMethod yX6_catchingTeeth : Cond)).onTables && ((Cond.instanceMethod yX6_catchingTeeth : Cond)).keeps) = true ∨ ∃ ty, (Cond.instanceMethod yX6_catchingTeeth) = .arrayClass ty) := ⟨zt_2 (List.mem_of_getElem? (i := 230) rfl), good_of_word rfl⟩
theorem zg_894 : (Cond.methodLink RX7 243 yX6_catchingTeeth) ∈ lw_tbl ∧ ((((Cond.methodLink RX7 243 yX6_catchingTeeth : Cond)).onTables && ((Cond.methodLink RX7 243 yX6_catchingTeeth : Cond)).keeps) = true ∨ ∃ ty, (Cond.methodLink RX7 243 yX6_catchingTeeth) = .arrayClass ty) := ⟨zt_2 (List.mem_of_getElem? (i := 229) rfl), good_of_word rfl⟩
theorem gl_wsX7_catches_r1 : GoodIn lw_tbl wsX7_catches_r1 := (zl_cons zg_150 (zl_cons zg_295 (zl_cons zg_894 (zl_cons zg_893 (zl_cons zg_892 (zl_cons zg_290 (zl_cons zg_891 (zl_cons zg_288 (zl_cons zg_890 (zl_cons zg_889 (zl_cons zg_888 (zl_cons zg_887 (zl_cons zg_286 (zl_cons zg_285 (zl_cons zg_886 (zl_cons zg_824 (zl_cons zg_319 (zl_cons zg_318 (zl_cons zg_317 (zl_cons zg_15 (zl_cons zg_14 (zl_cons zg_13 (zl_cons zg_21 (zl_cons zg_12 zl_nil))))))))))))))))))))))))
theorem gl_wsX7_catches_r2 : GoodIn lw_tbl wsX7_catches_r2 := (zl_cons zg_11 (zl_cons zg_18 (zl_cons zg_17 (zl_cons zg_16 zl_nil))))
theorem gl_wsX7_catches : GoodIn lw_tbl wsX7_catches := (zl_cons zg_885 (goodIn_app (goodIn_app (goodIn_app (goodIn_app gl_wsX7_catches_r1 gl_wsX7_catches_r2) gl_wsX70) gl_wsX00) gl_wsX60))
theorem zg_895 : (Cond.selects RX7 yX7_catches yX7_catches) ∈ lw_tbl ∧ ((((Cond.selects RX7 yX7_catches yX7_catches : Cond)).onTables && ((Cond.selects RX7 yX7_catches yX7_catches : Cond)).keeps) = true ∨ ∃ ty, (Cond.selects RX7 yX7_catches yX7_catches) = .arrayClass ty) := ⟨zt_2 (List.mem_of_getElem? (i := 227) rfl), good_of_word rfl⟩
theorem zg_896 : (Cond.instanceMethod yX7_catches) ∈ lw_tbl ∧ ((((Cond.instanceMethod yX7_catches : Cond)).onTables && ((Cond.instanceMethod yX7_catches : Cond)).keeps) = true ∨ ∃ ty, (Cond.instanceMethod yX7_catches) = .arrayClass ty) := ⟨zt_2 (List.mem_of_getElem? (i := 226) rfl), good_of_word rfl⟩
theorem zg_897 : (Cond.methodLink RL 115 yX7_catches) ∈ lw_tbl ∧ ((((Cond.methodLink RL 115 yX7_catches : Cond)).onTables && ((Cond.methodLink RL 115 yX7_catches : Cond)).keeps) = true ∨ ∃ ty, (Cond.methodLink RL 115 yX7_catches) = .arrayClass ty) := ⟨zt_2 (List.mem_of_getElem? (i := 225) rfl), good_of_word rfl⟩
theorem gq_115 : GoodIn lw_tbl (wsV RL 115 RX7 yX7_catches wsX7_catches) := goodIn_app (zl_cons zg_897 (zl_cons zg_896 (zl_cons zg_895 (zl_cons zg_21 zl_nil)))) gl_wsX7_catches
theorem zg_898 : (Cond.code yX8_catches cX8_catches 4 (some .int)) ∈ lw_tbl ∧ ((((Cond.code yX8_catches cX8_catches 4 (some .int) : Cond)).onTables && ((Cond.code yX8_catches cX8_catches 4 (some .int) : Cond)).keeps) = true ∨ ∃ ty, (Cond.code yX8_catches cX8_catches 4 (some .int)) = .arrayClass ty) := ⟨zt_5 (List.mem_of_getElem? (i := 73) rfl), good_of_word rfl⟩
theorem zg_899 : (Cond.code yX8_doesCatch cX8_doesCatch 2 (some .boolean)) ∈ lw_tbl ∧ ((((Cond.code yX8_doesCatch cX8_doesCatch 2 (some .boolean) : Cond)).onTables && ((Cond.code yX8_doesCatch cX8_doesCatch 2 (some .boolean) : Cond)).keeps) = true ∨ ∃ ty, (Cond.code yX8_doesCatch cX8_doesCatch 2 (some .boolean)) = .arrayClass ty) := ⟨zt_5 (List.mem_of_getElem? (i := 77) rfl), good_of_word rfl⟩
theorem zg_900 : (Cond.selects RX8 yX8_doesCatch yX8_doesCatch) ∈ lw_tbl ∧ ((((Cond.selects RX8 yX8_doesCatch yX8_doesCatch : Cond)).onTables && ((Cond.selects RX8 yX8_doesCatch yX8_doesCatch : Cond)).keeps) = true ∨ ∃ ty, (Cond.selects RX8 yX8_doesCatch yX8_doesCatch) = .arrayClass ty) := ⟨zp_4 7 (by decide +kernel), good_of_word rfl⟩
theorem zg_901 : (Cond.instanceMethod yX8_doesCatch) ∈ lw_tbl ∧ ((((Cond.instanceMethod yX8_doesCatch : Cond)).onTables && ((Cond.instanceMethod yX8_doesCatch : Cond)).keeps) = true ∨ ∃ ty, (Cond.instanceMethod yX8_doesCatch) = .arrayClass ty) := ⟨zt_5 (List.mem_of_getElem? (i := 76) rfl), good_of_word rfl⟩
theorem zg_902 : (Cond.methodLink RX8 265 yX8_doesCatch) ∈ lw_tbl ∧ ((((Cond.methodLink RX8 265 yX8_doesCatch : Cond)).onTables && ((Cond.methodLink RX8 265 yX8_doesCatch : Cond)).keeps) = true ∨ ∃ ty, (Cond.methodLink RX8 265 yX8_doesCatch) = .arrayClass ty) := ⟨zt_5 (List.mem_of_getElem? (i := 74) rfl), good_of_word rfl⟩
theorem gl_wsX8_catches : GoodIn lw_tbl wsX8_catches := (zl_cons zg_898 (goodIn_app (zl_cons zg_312 (zl_cons zg_47 (zl_cons zg_46 (zl_cons zg_45 (zl_cons zg_49 (zl_cons zg_44 (zl_cons zg_43 (zl_cons zg_902 (zl_cons zg_901 (zl_cons zg_900 (zl_cons zg_899 (zl_cons zg_306 (zl_cons zg_305 (zl_cons zg_368 zl_nil)))))))))))))) gl_wsX80))
theorem zg_903 : (Cond.selects RX8 yX8_catches yX8_catches) ∈ lw_tbl ∧ ((((Cond.selects RX8 yX8_catches yX8_catches : Cond)).onTables && ((Cond.selects RX8 yX8_catches yX8_catches : Cond)).keeps) = true ∨ ∃ ty, (Cond.selects RX8 yX8_catches yX8_catches) = .arrayClass ty) := ⟨zt_5 (List.mem_of_getElem? (i := 72) rfl), good_of_word rfl⟩
theorem zg_904 : (Cond.instanceMethod yX8_catches) ∈ lw_tbl ∧ ((((Cond.instanceMethod yX8_catches : Cond)).onTables && ((Cond.instanceMethod yX8_catches : Cond)).keeps) = true ∨ ∃ ty, (Cond.instanceMethod yX8_catches) = .arrayClass ty) := ⟨zt_5 (List.mem_of_getElem? (i := 71) rfl), good_of_word rfl⟩
theorem zg_905 : (Cond.methodLink RL 118 yX8_catches) ∈ lw_tbl ∧ ((((Cond.methodLink RL 118 yX8_catches : Cond)).onTables && ((Cond.methodLink RL 118 yX8_catches : Cond)).keeps) = true ∨ ∃ ty, (Cond.methodLink RL 118 yX8_catches) = .arrayClass ty) := ⟨zt_5 (List.mem_of_getElem? (i := 70) rfl), good_of_word rfl⟩
theorem gq_118 : GoodIn lw_tbl (wsV RL 118 RX8 yX8_catches wsX8_catches) := goodIn_app (zl_cons zg_905 (zl_cons zg_904 (zl_cons zg_903 (zl_cons zg_49 zl_nil)))) gl_wsX8_catches
theorem zg_906 : (Cond.code yX7_stitches cX7_stitches 3 (some .int)) ∈ lw_tbl ∧ ((((Cond.code yX7_stitches cX7_stitches 3 (some .int) : Cond)).onTables && ((Cond.code yX7_stitches cX7_stitches 3 (some .int) : Cond)).keeps) = true ∨ ∃ ty, (Cond.code yX7_stitches cX7_stitches 3 (some .int)) = .arrayClass ty) := ⟨zt_3 (List.mem_of_getElem? (i := 0) rfl), good_of_word rfl⟩
theorem zg_907 : (Cond.methodLink RX6 55 Lib.Math.min.name) ∈ lw_tbl ∧ ((((Cond.methodLink RX6 55 Lib.Math.min.name : Cond)).onTables && ((Cond.methodLink RX6 55 Lib.Math.min.name : Cond)).keeps) = true ∨ ∃ ty, (Cond.methodLink RX6 55 Lib.Math.min.name) = .arrayClass ty) := ⟨zt_3 (List.mem_of_getElem? (i := 5) rfl), good_of_word rfl⟩
theorem zg_908 : (Cond.code yX6_stitchesNeeded cX6_stitchesNeeded 6 (some .int)) ∈ lw_tbl ∧ ((((Cond.code yX6_stitchesNeeded cX6_stitchesNeeded 6 (some .int) : Cond)).onTables && ((Cond.code yX6_stitchesNeeded cX6_stitchesNeeded 6 (some .int) : Cond)).keeps) = true ∨ ∃ ty, (Cond.code yX6_stitchesNeeded cX6_stitchesNeeded 6 (some .int)) = .arrayClass ty) := ⟨zt_3 (List.mem_of_getElem? (i := 4) rfl), good_of_word rfl⟩
theorem zg_909 : (Cond.selects RX6 yX6_stitchesNeeded yX6_stitchesNeeded) ∈ lw_tbl ∧ ((((Cond.selects RX6 yX6_stitchesNeeded yX6_stitchesNeeded : Cond)).onTables && ((Cond.selects RX6 yX6_stitchesNeeded yX6_stitchesNeeded : Cond)).keeps) = true ∨ ∃ ty, (Cond.selects RX6 yX6_stitchesNeeded yX6_stitchesNeeded) = .arrayClass ty) := ⟨zt_3 (List.mem_of_getElem? (i := 3) rfl), good_of_word rfl⟩
theorem zg_910 : (Cond.instanceMethod yX6_stitchesNeeded) ∈ lw_tbl ∧ ((((Cond.instanceMethod yX6_stitchesNeeded : Cond)).onTables && ((Cond.instanceMethod yX6_stitchesNeeded : Cond)).keeps) = true ∨ ∃ ty, (Cond.instanceMethod yX6_stitchesNeeded) = .arrayClass ty) := ⟨zt_3 (List.mem_of_getElem? (i := 2) rfl), good_of_word rfl⟩
theorem zg_911 : (Cond.methodLink RX7 246 yX6_stitchesNeeded) ∈ lw_tbl ∧ ((((Cond.methodLink RX7 246 yX6_stitchesNeeded : Cond)).onTables && ((Cond.methodLink RX7 246 yX6_stitchesNeeded : Cond)).keeps) = true ∨ ∃ ty, (Cond.methodLink RX7 246 yX6_stitchesNeeded) = .arrayClass ty) := ⟨zt_3 (List.mem_of_getElem? (i := 1) rfl), good_of_word rfl⟩
theorem gl_wsX7_stitches_r1 : GoodIn lw_tbl wsX7_stitches_r1 := (zl_cons zg_150 (zl_cons zg_295 (zl_cons zg_911 (zl_cons zg_910 (zl_cons zg_909 (zl_cons zg_290 (zl_cons zg_908 (zl_cons zg_288 (zl_cons zg_907 (zl_cons zg_190 (zl_cons zg_189 (zl_cons zg_188 (zl_cons zg_890 (zl_cons zg_889 (zl_cons zg_888 (zl_cons zg_887 (zl_cons zg_286 (zl_cons zg_285 (zl_cons zg_886 (zl_cons zg_824 (zl_cons zg_319 (zl_cons zg_318 (zl_cons zg_317 (zl_cons zg_15 zl_nil))))))))))))))))))))))))
theorem gl_wsX7_stitches_r2 : GoodIn lw_tbl wsX7_stitches_r2 := (zl_cons zg_14 (zl_cons zg_13 (zl_cons zg_21 (zl_cons zg_12 (zl_cons zg_11 (zl_cons zg_18 (zl_cons zg_17 (zl_cons zg_16 zl_nil))))))))
theorem gl_wsX7_stitches : GoodIn lw_tbl wsX7_stitches := (zl_cons zg_906 (goodIn_app (goodIn_app (goodIn_app (goodIn_app gl_wsX7_stitches_r1 gl_wsX7_stitches_r2) gl_wsX70) gl_wsX00) gl_wsX60))
theorem zg_912 : (Cond.selects RX7 yX7_stitches yX7_stitches) ∈ lw_tbl ∧ ((((Cond.selects RX7 yX7_stitches yX7_stitches : Cond)).onTables && ((Cond.selects RX7 yX7_stitches yX7_stitches : Cond)).keeps) = true ∨ ∃ ty, (Cond.selects RX7 yX7_stitches yX7_stitches) = .arrayClass ty) := ⟨zt_2 (List.mem_of_getElem? (i := 239) rfl), good_of_word rfl⟩
theorem zg_913 : (Cond.instanceMethod yX7_stitches) ∈ lw_tbl ∧ ((((Cond.instanceMethod yX7_stitches : Cond)).onTables && ((Cond.instanceMethod yX7_stitches : Cond)).keeps) = true ∨ ∃ ty, (Cond.instanceMethod yX7_stitches) = .arrayClass ty) := ⟨zt_2 (List.mem_of_getElem? (i := 238) rfl), good_of_word rfl⟩
theorem zg_914 : (Cond.methodLink RL 119 yX7_stitches) ∈ lw_tbl ∧ ((((Cond.methodLink RL 119 yX7_stitches : Cond)).onTables && ((Cond.methodLink RL 119 yX7_stitches : Cond)).keeps) = true ∨ ∃ ty, (Cond.methodLink RL 119 yX7_stitches) = .arrayClass ty) := ⟨zt_2 (List.mem_of_getElem? (i := 237) rfl), good_of_word rfl⟩
theorem gq_119 : GoodIn lw_tbl (wsV RL 119 RX7 yX7_stitches wsX7_stitches) := goodIn_app (zl_cons zg_914 (zl_cons zg_913 (zl_cons zg_912 (zl_cons zg_21 zl_nil)))) gl_wsX7_stitches
theorem zg_915 : (Cond.code yX8_stitches cX8_stitches 4 (some .int)) ∈ lw_tbl ∧ ((((Cond.code yX8_stitches cX8_stitches 4 (some .int) : Cond)).onTables && ((Cond.code yX8_stitches cX8_stitches 4 (some .int) : Cond)).keeps) = true ∨ ∃ ty, (Cond.code yX8_stitches cX8_stitches 4 (some .int)) = .arrayClass ty) := ⟨zt_5 (List.mem_of_getElem? (i := 81) rfl), good_of_word rfl⟩
theorem gl_wsX8_stitches : GoodIn lw_tbl wsX8_stitches := (zl_cons zg_915 (goodIn_app (zl_cons zg_312 (zl_cons zg_47 (zl_cons zg_46 (zl_cons zg_45 (zl_cons zg_49 (zl_cons zg_44 (zl_cons zg_43 (zl_cons zg_902 (zl_cons zg_901 (zl_cons zg_900 (zl_cons zg_899 (zl_cons zg_306 (zl_cons zg_305 (zl_cons zg_368 zl_nil)))))))))))))) gl_wsX80))
theorem zg_916 : (Cond.selects RX8 yX8_stitches yX8_stitches) ∈ lw_tbl ∧ ((((Cond.selects RX8 yX8_stitches yX8_stitches : Cond)).onTables && ((Cond.selects RX8 yX8_stitches yX8_stitches : Cond)).keeps) = true ∨ ∃ ty, (Cond.selects RX8 yX8_stitches yX8_stitches) = .arrayClass ty) := ⟨zt_5 (List.mem_of_getElem? (i := 80) rfl), good_of_word rfl⟩
theorem zg_917 : (Cond.instanceMethod yX8_stitches) ∈ lw_tbl ∧ ((((Cond.instanceMethod yX8_stitches : Cond)).onTables && ((Cond.instanceMethod yX8_stitches : Cond)).keeps) = true ∨ ∃ ty, (Cond.instanceMethod yX8_stitches) = .arrayClass ty) := ⟨zt_5 (List.mem_of_getElem? (i := 79) rfl), good_of_word rfl⟩
theorem zg_918 : (Cond.methodLink RL 122 yX8_stitches) ∈ lw_tbl ∧ ((((Cond.methodLink RL 122 yX8_stitches : Cond)).onTables && ((Cond.methodLink RL 122 yX8_stitches : Cond)).keeps) = true ∨ ∃ ty, (Cond.methodLink RL 122 yX8_stitches) = .arrayClass ty) := ⟨zt_5 (List.mem_of_getElem? (i := 78) rfl), good_of_word rfl⟩
theorem gq_122 : GoodIn lw_tbl (wsV RL 122 RX8 yX8_stitches wsX8_stitches) := goodIn_app (zl_cons zg_918 (zl_cons zg_917 (zl_cons zg_916 (zl_cons zg_49 zl_nil)))) gl_wsX8_stitches
theorem zg_919 : (Cond.code yX7_judge cX7_judge 5 (some .int)) ∈ lw_tbl ∧ ((((Cond.code yX7_judge cX7_judge 5 (some .int) : Cond)).onTables && ((Cond.code yX7_judge cX7_judge 5 (some .int) : Cond)).keeps) = true ∨ ∃ ty, (Cond.code yX7_judge cX7_judge 5 (some .int)) = .arrayClass ty) := ⟨zt_3 (List.mem_of_getElem? (i := 9) rfl), good_of_word rfl⟩
theorem zg_920 : (Cond.code yX4_noTelling cX4_noTelling 3 (some .int)) ∈ lw_tbl ∧ ((((Cond.code yX4_noTelling cX4_noTelling 3 (some .int) : Cond)).onTables && ((Cond.code yX4_noTelling cX4_noTelling 3 (some .int) : Cond)).keeps) = true ∨ ∃ ty, (Cond.code yX4_noTelling cX4_noTelling 3 (some .int)) = .arrayClass ty) := ⟨zt_3 (List.mem_of_getElem? (i := 13) rfl), good_of_word rfl⟩
theorem zg_921 : (Cond.selects RX4 yX4_noTelling yX4_noTelling) ∈ lw_tbl ∧ ((((Cond.selects RX4 yX4_noTelling yX4_noTelling : Cond)).onTables && ((Cond.selects RX4 yX4_noTelling yX4_noTelling : Cond)).keeps) = true ∨ ∃ ty, (Cond.selects RX4 yX4_noTelling yX4_noTelling) = .arrayClass ty) := ⟨zt_3 (List.mem_of_getElem? (i := 12) rfl), good_of_word rfl⟩
theorem zg_922 : (Cond.instanceMethod yX4_noTelling) ∈ lw_tbl ∧ ((((Cond.instanceMethod yX4_noTelling : Cond)).onTables && ((Cond.instanceMethod yX4_noTelling : Cond)).keeps) = true ∨ ∃ ty, (Cond.instanceMethod yX4_noTelling) = .arrayClass ty) := ⟨zt_3 (List.mem_of_getElem? (i := 11) rfl), good_of_word rfl⟩
theorem zg_923 : (Cond.methodLink RX7 249 yX4_noTelling) ∈ lw_tbl ∧ ((((Cond.methodLink RX7 249 yX4_noTelling : Cond)).onTables && ((Cond.methodLink RX7 249 yX4_noTelling : Cond)).keeps) = true ∨ ∃ ty, (Cond.methodLink RX7 249 yX4_noTelling) = .arrayClass ty) := ⟨zt_3 (List.mem_of_getElem? (i := 10) rfl), good_of_word rfl⟩
theorem gl_wsX7_judge_r1 : GoodIn lw_tbl wsX7_judge_r1 := (zl_cons zg_24 (zl_cons zg_23 (zl_cons zg_22 (zl_cons zg_21 (zl_cons zg_20 (zl_cons zg_19 (zl_cons zg_18 (zl_cons zg_17 (zl_cons zg_16 (zl_cons zg_633 (zl_cons zg_632 (zl_cons zg_631 (zl_cons zg_630 (zl_cons zg_15 (zl_cons zg_14 (zl_cons zg_13 (zl_cons zg_12 (zl_cons zg_11 (zl_cons zg_923 (zl_cons zg_922 (zl_cons zg_921 (zl_cons zg_7 (zl_cons zg_920 (zl_cons zg_4 zl_nil))))))))))))))))))))))))
theorem zg_924 : (Cond.code yX7_firstWrong cX7_firstWrong 8 (some .int)) ∈ lw_tbl ∧ ((((Cond.code yX7_firstWrong cX7_firstWrong 8 (some .int) : Cond)).onTables && ((Cond.code yX7_firstWrong cX7_firstWrong 8 (some .int) : Cond)).keeps) = true ∨ ∃ ty, (Cond.code yX7_firstWrong cX7_firstWrong 8 (some .int)) = .arrayClass ty) := ⟨zt_3 (List.mem_of_getElem? (i := 17) rfl), good_of_word rfl⟩
theorem zg_925 : (Cond.selects RX7 yX7_firstWrong yX7_firstWrong) ∈ lw_tbl ∧ ((((Cond.selects RX7 yX7_firstWrong yX7_firstWrong : Cond)).onTables && ((Cond.selects RX7 yX7_firstWrong yX7_firstWrong : Cond)).keeps) = true ∨ ∃ ty, (Cond.selects RX7 yX7_firstWrong yX7_firstWrong) = .arrayClass ty) := ⟨zp_1 9 (by decide +kernel), good_of_word rfl⟩
theorem zg_926 : (Cond.instanceMethod yX7_firstWrong) ∈ lw_tbl ∧ ((((Cond.instanceMethod yX7_firstWrong : Cond)).onTables && ((Cond.instanceMethod yX7_firstWrong : Cond)).keeps) = true ∨ ∃ ty, (Cond.instanceMethod yX7_firstWrong) = .arrayClass ty) := ⟨zt_3 (List.mem_of_getElem? (i := 16) rfl), good_of_word rfl⟩
theorem zg_927 : (Cond.methodLink RX7 252 yX7_firstWrong) ∈ lw_tbl ∧ ((((Cond.methodLink RX7 252 yX7_firstWrong : Cond)).onTables && ((Cond.methodLink RX7 252 yX7_firstWrong : Cond)).keeps) = true ∨ ∃ ty, (Cond.methodLink RX7 252 yX7_firstWrong) = .arrayClass ty) := ⟨zt_3 (List.mem_of_getElem? (i := 14) rfl), good_of_word rfl⟩
theorem gl_wsX7_judge_r2 : GoodIn lw_tbl wsX7_judge_r2 := (zl_cons zg_779 (zl_cons zg_106 (zl_cons zg_105 (zl_cons zg_104 (zl_cons zg_5 (zl_cons zg_927 (zl_cons zg_926 (zl_cons zg_925 (zl_cons zg_924 (zl_cons zg_150 (zl_cons zg_635 (zl_cons zg_634 (zl_cons zg_182 (zl_cons zg_183 (zl_cons zg_782 (zl_cons zg_426 (zl_cons zg_425 (zl_cons zg_424 (zl_cons zg_3 (zl_cons zg_423 (zl_cons zg_102 (zl_cons zg_101 (zl_cons zg_100 (zl_cons zg_149 zl_nil))))))))))))))))))))))))
theorem zg_928 : (Cond.methodLink RX7 310 yX2_mayBe) ∈ lw_tbl ∧ ((((Cond.methodLink RX7 310 yX2_mayBe : Cond)).onTables && ((Cond.methodLink RX7 310 yX2_mayBe : Cond)).keeps) = true ∨ ∃ ty, (Cond.methodLink RX7 310 yX2_mayBe) = .arrayClass ty) := ⟨zt_3 (List.mem_of_getElem? (i := 18) rfl), good_of_word rfl⟩
theorem gl_wsX7_judge_r3 : GoodIn lw_tbl wsX7_judge_r3 := (zl_cons zg_148 (zl_cons zg_147 (zl_cons zg_146 (zl_cons zg_145 (zl_cons zg_144 (zl_cons zg_143 (zl_cons zg_928 (zl_cons zg_263 (zl_cons zg_262 (zl_cons zg_203 (zl_cons zg_261 (zl_cons zg_243 (zl_cons zg_195 (zl_cons zg_194 (zl_cons zg_193 (zl_cons zg_192 (zl_cons zg_201 (zl_cons zg_191 (zl_cons zg_190 (zl_cons zg_189 (zl_cons zg_188 (zl_cons zg_187 (zl_cons zg_186 (zl_cons zg_185 zl_nil))))))))))))))))))))))))
theorem gl_wsX7_judge_r4 : GoodIn lw_tbl wsX7_judge_r4 := (zl_cons zg_184 (zl_cons zg_209 (zl_cons zg_208 (zl_cons zg_207 (zl_cons zg_196 (zl_cons zg_611 (zl_cons zg_610 (zl_cons zg_609 (zl_cons zg_608 (zl_cons zg_607 (zl_cons zg_199 (zl_cons zg_198 (zl_cons zg_197 (zl_cons zg_606 (zl_cons zg_605 (zl_cons zg_604 (zl_cons zg_603 zl_nil)))))))))))))))))
theorem gl_wsX7_judge : GoodIn lw_tbl wsX7_judge := (zl_cons zg_919 (goodIn_app (goodIn_app (goodIn_app (goodIn_app (goodIn_app gl_wsX7_judge_r1 (goodIn_app gl_wsX7_judge_r2 (goodIn_app gl_wsX7_judge_r3 gl_wsX7_judge_r4))) gl_wsX70) gl_wsX40) gl_wsX00) gl_wsX20))
theorem zg_929 : (Cond.selects RX7 yX7_judge yX7_judge) ∈ lw_tbl ∧ ((((Cond.selects RX7 yX7_judge yX7_judge : Cond)).onTables && ((Cond.selects RX7 yX7_judge yX7_judge : Cond)).keeps) = true ∨ ∃ ty, (Cond.selects RX7 yX7_judge yX7_judge) = .arrayClass ty) := ⟨zt_3 (List.mem_of_getElem? (i := 8) rfl), good_of_word rfl⟩
theorem zg_930 : (Cond.instanceMethod yX7_judge) ∈ lw_tbl ∧ ((((Cond.instanceMethod yX7_judge : Cond)).onTables && ((Cond.instanceMethod yX7_judge : Cond)).keeps) = true ∨ ∃ ty, (Cond.instanceMethod yX7_judge) = .arrayClass ty) := ⟨zt_3 (List.mem_of_getElem? (i := 7) rfl), good_of_word rfl⟩
theorem zg_931 : (Cond.methodLink RL 123 yX7_judge) ∈ lw_tbl ∧ ((((Cond.methodLink RL 123 yX7_judge : Cond)).onTables && ((Cond.methodLink RL 123 yX7_judge : Cond)).keeps) = true ∨ ∃ ty, (Cond.methodLink RL 123 yX7_judge) = .arrayClass ty) := ⟨zt_3 (List.mem_of_getElem? (i := 6) rfl), good_of_word rfl⟩
theorem gq_123 : GoodIn lw_tbl (wsV RL 123 RX7 yX7_judge wsX7_judge) := goodIn_app (zl_cons zg_931 (zl_cons zg_930 (zl_cons zg_929 (zl_cons zg_21 zl_nil)))) gl_wsX7_judge
theorem zg_932 : (Cond.code yX8_judge cX8_judge 8 (some .int)) ∈ lw_tbl ∧ ((((Cond.code yX8_judge cX8_judge 8 (some .int) : Cond)).onTables && ((Cond.code yX8_judge cX8_judge 8 (some .int) : Cond)).keeps) = true ∨ ∃ ty, (Cond.code yX8_judge cX8_judge 8 (some .int)) = .arrayClass ty) := ⟨zt_5 (List.mem_of_getElem? (i := 85) rfl), good_of_word rfl⟩
theorem gl_wsX8_judge_r1 : GoodIn lw_tbl wsX8_judge_r1 := (zl_cons zg_54 (zl_cons zg_280 (zl_cons zg_279 (zl_cons zg_227 (zl_cons zg_543 (zl_cons zg_542 (zl_cons zg_541 (zl_cons zg_49 (zl_cons zg_540 (zl_cons zg_56 (zl_cons zg_52 (zl_cons zg_51 (zl_cons zg_50 (zl_cons zg_48 (zl_cons zg_698 (zl_cons zg_697 (zl_cons zg_696 (zl_cons zg_695 (zl_cons zg_43 (zl_cons zg_792 (zl_cons zg_791 (zl_cons zg_790 (zl_cons zg_789 (zl_cons zg_53 zl_nil))))))))))))))))))))))))
theorem gl_wsX8_judge_r2 : GoodIn lw_tbl wsX8_judge_r2 := (zl_cons zg_168 (zl_cons zg_167 (zl_cons zg_166 (zl_cons zg_165 (zl_cons zg_164 (zl_cons zg_278 (zl_cons zg_277 (zl_cons zg_276 (zl_cons zg_275 (zl_cons zg_221 (zl_cons zg_220 (zl_cons zg_219 (zl_cons zg_218 (zl_cons zg_228 (zl_cons zg_222 (zl_cons zg_217 (zl_cons zg_619 (zl_cons zg_618 (zl_cons zg_617 (zl_cons zg_616 (zl_cons zg_226 (zl_cons zg_225 (zl_cons zg_224 (zl_cons zg_223 zl_nil))))))))))))))))))))))))
theorem gl_wsX8_judge : GoodIn lw_tbl wsX8_judge := (zl_cons zg_932 (goodIn_app (goodIn_app gl_wsX8_judge_r1 gl_wsX8_judge_r2) gl_wsX80))
theorem zg_933 : (Cond.selects RX8 yX8_judge yX8_judge) ∈ lw_tbl ∧ ((((Cond.selects RX8 yX8_judge yX8_judge : Cond)).onTables && ((Cond.selects RX8 yX8_judge yX8_judge : Cond)).keeps) = true ∨ ∃ ty, (Cond.selects RX8 yX8_judge yX8_judge) = .arrayClass ty) := ⟨zt_5 (List.mem_of_getElem? (i := 84) rfl), good_of_word rfl⟩
theorem zg_934 : (Cond.instanceMethod yX8_judge) ∈ lw_tbl ∧ ((((Cond.instanceMethod yX8_judge : Cond)).onTables && ((Cond.instanceMethod yX8_judge : Cond)).keeps) = true ∨ ∃ ty, (Cond.instanceMethod yX8_judge) = .arrayClass ty) := ⟨zt_5 (List.mem_of_getElem? (i := 83) rfl), good_of_word rfl⟩
theorem zg_935 : (Cond.methodLink RL 126 yX8_judge) ∈ lw_tbl ∧ ((((Cond.methodLink RL 126 yX8_judge : Cond)).onTables && ((Cond.methodLink RL 126 yX8_judge : Cond)).keeps) = true ∨ ∃ ty, (Cond.methodLink RL 126 yX8_judge) = .arrayClass ty) := ⟨zt_5 (List.mem_of_getElem? (i := 82) rfl), good_of_word rfl⟩
theorem gq_126 : GoodIn lw_tbl (wsV RL 126 RX8 yX8_judge wsX8_judge) := goodIn_app (zl_cons zg_935 (zl_cons zg_934 (zl_cons zg_933 (zl_cons zg_49 zl_nil)))) gl_wsX8_judge
theorem zg_936 : (Cond.code yX7_meant cX7_meant 8 (some .int)) ∈ lw_tbl ∧ ((((Cond.code yX7_meant cX7_meant 8 (some .int) : Cond)).onTables && ((Cond.code yX7_meant cX7_meant 8 (some .int) : Cond)).keeps) = true ∨ ∃ ty, (Cond.code yX7_meant cX7_meant 8 (some .int)) = .arrayClass ty) := ⟨zt_3 (List.mem_of_getElem? (i := 22) rfl), good_of_word rfl⟩
theorem gl_wsX7_meant_r1 : GoodIn lw_tbl wsX7_meant_r1 := (zl_cons zg_150 (zl_cons zg_635 (zl_cons zg_24 (zl_cons zg_23 (zl_cons zg_22 (zl_cons zg_21 (zl_cons zg_20 (zl_cons zg_19 (zl_cons zg_18 (zl_cons zg_17 (zl_cons zg_16 (zl_cons zg_15 (zl_cons zg_14 (zl_cons zg_13 (zl_cons zg_12 (zl_cons zg_11 (zl_cons zg_923 (zl_cons zg_922 (zl_cons zg_921 (zl_cons zg_7 (zl_cons zg_920 (zl_cons zg_4 (zl_cons zg_779 (zl_cons zg_106 zl_nil))))))))))))))))))))))))
theorem zg_937 : (Cond.methodLink RX7 316 Lib.Math.min.name) ∈ lw_tbl ∧ ((((Cond.methodLink RX7 316 Lib.Math.min.name : Cond)).onTables && ((Cond.methodLink RX7 316 Lib.Math.min.name : Cond)).keeps) = true ∨ ∃ ty, (Cond.methodLink RX7 316 Lib.Math.min.name) = .arrayClass ty) := ⟨zt_3 (List.mem_of_getElem? (i := 41) rfl), good_of_word rfl⟩
theorem zg_938 : (Cond.constant RX7 312 (1000000)) ∈ lw_tbl ∧ ((((Cond.constant RX7 312 (1000000) : Cond)).onTables && ((Cond.constant RX7 312 (1000000) : Cond)).keeps) = true ∨ ∃ ty, (Cond.constant RX7 312 (1000000)) = .arrayClass ty) := ⟨zt_3 (List.mem_of_getElem? (i := 28) rfl), good_of_word rfl⟩
theorem zg_939 : (Cond.code yX7_rowsMeant cX7_rowsMeant 7 (some .int)) ∈ lw_tbl ∧ ((((Cond.code yX7_rowsMeant cX7_rowsMeant 7 (some .int) : Cond)).onTables && ((Cond.code yX7_rowsMeant cX7_rowsMeant 7 (some .int) : Cond)).keeps) = true ∨ ∃ ty, (Cond.code yX7_rowsMeant cX7_rowsMeant 7 (some .int)) = .arrayClass ty) := ⟨zt_3 (List.mem_of_getElem? (i := 27) rfl), good_of_word rfl⟩
theorem zg_940 : (Cond.selects RX7 yX7_rowsMeant yX7_rowsMeant) ∈ lw_tbl ∧ ((((Cond.selects RX7 yX7_rowsMeant yX7_rowsMeant : Cond)).onTables && ((Cond.selects RX7 yX7_rowsMeant yX7_rowsMeant : Cond)).keeps) = true ∨ ∃ ty, (Cond.selects RX7 yX7_rowsMeant yX7_rowsMeant) = .arrayClass ty) := ⟨zp_1 10 (by decide +kernel), good_of_word rfl⟩
theorem zg_941 : (Cond.instanceMethod yX7_rowsMeant) ∈ lw_tbl ∧ ((((Cond.instanceMethod yX7_rowsMeant : Cond)).onTables && ((Cond.instanceMethod yX7_rowsMeant : Cond)).keeps) = true ∨ ∃ ty, (Cond.instanceMethod yX7_rowsMeant) = .arrayClass ty) := ⟨zt_3 (List.mem_of_getElem? (i := 26) rfl), good_of_word rfl⟩
theorem zg_942 : (Cond.methodLink RX7 259 yX7_rowsMeant) ∈ lw_tbl ∧ ((((Cond.methodLink RX7 259 yX7_rowsMeant : Cond)).onTables && ((Cond.methodLink RX7 259 yX7_rowsMeant : Cond)).keeps) = true ∨ ∃ ty, (Cond.methodLink RX7 259 yX7_rowsMeant) = .arrayClass ty) := ⟨zt_3 (List.mem_of_getElem? (i := 24) rfl), good_of_word rfl⟩
theorem zg_943 : (Cond.methodLink RX7 256 yX4_tellsWithin) ∈ lw_tbl ∧ ((((Cond.methodLink RX7 256 yX4_tellsWithin : Cond)).onTables && ((Cond.methodLink RX7 256 yX4_tellsWithin : Cond)).keeps) = true ∨ ∃ ty, (Cond.methodLink RX7 256 yX4_tellsWithin) = .arrayClass ty) := ⟨zt_3 (List.mem_of_getElem? (i := 23) rfl), good_of_word rfl⟩
theorem gl_wsX7_meant_r2 : GoodIn lw_tbl wsX7_meant_r2 := (zl_cons zg_105 (zl_cons zg_104 (zl_cons zg_5 (zl_cons zg_943 (zl_cons zg_777 (zl_cons zg_776 (zl_cons zg_775 (zl_cons zg_774 (zl_cons zg_426 (zl_cons zg_425 (zl_cons zg_424 (zl_cons zg_3 (zl_cons zg_423 (zl_cons zg_102 (zl_cons zg_101 (zl_cons zg_100 (zl_cons zg_942 (zl_cons zg_941 (zl_cons zg_940 (zl_cons zg_939 (zl_cons zg_938 (zl_cons zg_937 (zl_cons zg_190 (zl_cons zg_189 zl_nil))))))))))))))))))))))))
theorem zg_944 : (Cond.methodLink RX2 46 yX2_waysAt) ∈ lw_tbl ∧ ((((Cond.methodLink RX2 46 yX2_waysAt : Cond)).onTables && ((Cond.methodLink RX2 46 yX2_waysAt : Cond)).keeps) = true ∨ ∃ ty, (Cond.methodLink RX2 46 yX2_waysAt) = .arrayClass ty) := ⟨zt_3 (List.mem_of_getElem? (i := 38) rfl), good_of_word rfl⟩
theorem zg_945 : (Cond.code yX2_makes cX2_makes 5 (some .boolean)) ∈ lw_tbl ∧ ((((Cond.code yX2_makes cX2_makes 5 (some .boolean) : Cond)).onTables && ((Cond.code yX2_makes cX2_makes 5 (some .boolean) : Cond)).keeps) = true ∨ ∃ ty, (Cond.code yX2_makes cX2_makes 5 (some .boolean)) = .arrayClass ty) := ⟨zt_3 (List.mem_of_getElem? (i := 37) rfl), good_of_word rfl⟩
theorem zg_946 : (Cond.selects RX2 yX2_makes yX2_makes) ∈ lw_tbl ∧ ((((Cond.selects RX2 yX2_makes yX2_makes : Cond)).onTables && ((Cond.selects RX2 yX2_makes yX2_makes : Cond)).keeps) = true ∨ ∃ ty, (Cond.selects RX2 yX2_makes yX2_makes) = .arrayClass ty) := ⟨zt_3 (List.mem_of_getElem? (i := 36) rfl), good_of_word rfl⟩
theorem zg_947 : (Cond.instanceMethod yX2_makes) ∈ lw_tbl ∧ ((((Cond.instanceMethod yX2_makes : Cond)).onTables && ((Cond.instanceMethod yX2_makes : Cond)).keeps) = true ∨ ∃ ty, (Cond.instanceMethod yX2_makes) = .arrayClass ty) := ⟨zt_3 (List.mem_of_getElem? (i := 35) rfl), good_of_word rfl⟩
theorem zg_948 : (Cond.methodLink RX0 81 yX2_makes) ∈ lw_tbl ∧ ((((Cond.methodLink RX0 81 yX2_makes : Cond)).onTables && ((Cond.methodLink RX0 81 yX2_makes : Cond)).keeps) = true ∨ ∃ ty, (Cond.methodLink RX0 81 yX2_makes) = .arrayClass ty) := ⟨zt_3 (List.mem_of_getElem? (i := 34) rfl), good_of_word rfl⟩
theorem zg_949 : (Cond.methodLink RX0 77 yX0_pullAt) ∈ lw_tbl ∧ ((((Cond.methodLink RX0 77 yX0_pullAt : Cond)).onTables && ((Cond.methodLink RX0 77 yX0_pullAt : Cond)).keeps) = true ∨ ∃ ty, (Cond.methodLink RX0 77 yX0_pullAt) = .arrayClass ty) := ⟨zt_3 (List.mem_of_getElem? (i := 33) rfl), good_of_word rfl⟩
theorem zg_950 : (Cond.code yX0_pullsMaking cX0_pullsMaking 6 (some .int)) ∈ lw_tbl ∧ ((((Cond.code yX0_pullsMaking cX0_pullsMaking 6 (some .int) : Cond)).onTables && ((Cond.code yX0_pullsMaking cX0_pullsMaking 6 (some .int) : Cond)).keeps) = true ∨ ∃ ty, (Cond.code yX0_pullsMaking cX0_pullsMaking 6 (some .int)) = .arrayClass ty) := ⟨zt_3 (List.mem_of_getElem? (i := 32) rfl), good_of_word rfl⟩
theorem zg_951 : (Cond.selects RX0 yX0_pullsMaking yX0_pullsMaking) ∈ lw_tbl ∧ ((((Cond.selects RX0 yX0_pullsMaking yX0_pullsMaking : Cond)).onTables && ((Cond.selects RX0 yX0_pullsMaking yX0_pullsMaking : Cond)).keeps) = true ∨ ∃ ty, (Cond.selects RX0 yX0_pullsMaking yX0_pullsMaking) = .arrayClass ty) := ⟨zt_3 (List.mem_of_getElem? (i := 31) rfl), good_of_word rfl⟩
theorem zg_952 : (Cond.instanceMethod yX0_pullsMaking) ∈ lw_tbl ∧ ((((Cond.instanceMethod yX0_pullsMaking : Cond)).onTables && ((Cond.instanceMethod yX0_pullsMaking : Cond)).keeps) = true ∨ ∃ ty, (Cond.instanceMethod yX0_pullsMaking) = .arrayClass ty) := ⟨zt_3 (List.mem_of_getElem? (i := 30) rfl), good_of_word rfl⟩
theorem zg_953 : (Cond.methodLink RX7 313 yX0_pullsMaking) ∈ lw_tbl ∧ ((((Cond.methodLink RX7 313 yX0_pullsMaking : Cond)).onTables && ((Cond.methodLink RX7 313 yX0_pullsMaking : Cond)).keeps) = true ∨ ∃ ty, (Cond.methodLink RX7 313 yX0_pullsMaking) = .arrayClass ty) := ⟨zt_3 (List.mem_of_getElem? (i := 29) rfl), good_of_word rfl⟩
theorem gl_wsX7_meant_r3 : GoodIn lw_tbl wsX7_meant_r3 := (zl_cons zg_188 (zl_cons zg_782 (zl_cons zg_953 (zl_cons zg_952 (zl_cons zg_951 (zl_cons zg_146 (zl_cons zg_950 (zl_cons zg_144 (zl_cons zg_363 (zl_cons zg_949 (zl_cons zg_148 (zl_cons zg_147 (zl_cons zg_145 (zl_cons zg_143 (zl_cons zg_948 (zl_cons zg_947 (zl_cons zg_946 (zl_cons zg_203 (zl_cons zg_945 (zl_cons zg_944 (zl_cons zg_194 (zl_cons zg_193 (zl_cons zg_192 (zl_cons zg_201 zl_nil))))))))))))))))))))))))
theorem zg_954 : (Cond.selects RX0 yX0_firstMaking yX0_firstMaking) ∈ lw_tbl ∧ ((((Cond.selects RX0 yX0_firstMaking yX0_firstMaking : Cond)).onTables && ((Cond.selects RX0 yX0_firstMaking yX0_firstMaking : Cond)).keeps) = true ∨ ∃ ty, (Cond.selects RX0 yX0_firstMaking yX0_firstMaking) = .arrayClass ty) := ⟨zt_3 (List.mem_of_getElem? (i := 44) rfl), good_of_word rfl⟩
theorem zg_955 : (Cond.instanceMethod yX0_firstMaking) ∈ lw_tbl ∧ ((((Cond.instanceMethod yX0_firstMaking : Cond)).onTables && ((Cond.instanceMethod yX0_firstMaking : Cond)).keeps) = true ∨ ∃ ty, (Cond.instanceMethod yX0_firstMaking) = .arrayClass ty) := ⟨zt_3 (List.mem_of_getElem? (i := 43) rfl), good_of_word rfl⟩
theorem zg_956 : (Cond.methodLink RX7 262 yX0_firstMaking) ∈ lw_tbl ∧ ((((Cond.methodLink RX7 262 yX0_firstMaking : Cond)).onTables && ((Cond.methodLink RX7 262 yX0_firstMaking : Cond)).keeps) = true ∨ ∃ ty, (Cond.methodLink RX7 262 yX0_firstMaking) = .arrayClass ty) := ⟨zt_3 (List.mem_of_getElem? (i := 42) rfl), good_of_word rfl⟩
theorem zg_957 : (Cond.methodLink RX2 52 yX2_deeper) ∈ lw_tbl ∧ ((((Cond.methodLink RX2 52 yX2_deeper : Cond)).onTables && ((Cond.methodLink RX2 52 yX2_deeper : Cond)).keeps) = true ∨ ∃ ty, (Cond.methodLink RX2 52 yX2_deeper) = .arrayClass ty) := ⟨zt_3 (List.mem_of_getElem? (i := 40) rfl), good_of_word rfl⟩
theorem zg_958 : (Cond.methodLink RX2 49 yX2_shallower) ∈ lw_tbl ∧ ((((Cond.methodLink RX2 49 yX2_shallower : Cond)).onTables && ((Cond.methodLink RX2 49 yX2_shallower : Cond)).keeps) = true ∨ ∃ ty, (Cond.methodLink RX2 49 yX2_shallower) = .arrayClass ty) := ⟨zt_3 (List.mem_of_getElem? (i := 39) rfl), good_of_word rfl⟩
theorem gl_wsX7_meant_r4 : GoodIn lw_tbl wsX7_meant_r4 := (zl_cons zg_191 (zl_cons zg_187 (zl_cons zg_186 (zl_cons zg_185 (zl_cons zg_184 (zl_cons zg_209 (zl_cons zg_208 (zl_cons zg_207 (zl_cons zg_196 (zl_cons zg_958 (zl_cons zg_610 (zl_cons zg_609 (zl_cons zg_608 (zl_cons zg_607 (zl_cons zg_199 (zl_cons zg_198 (zl_cons zg_197 (zl_cons zg_957 (zl_cons zg_605 (zl_cons zg_604 (zl_cons zg_603 (zl_cons zg_956 (zl_cons zg_955 (zl_cons zg_954 zl_nil))))))))))))))))))))))))
theorem zg_959 : (Cond.code yX0_firstMaking cX0_firstMaking 5 (some .int)) ∈ lw_tbl ∧ ((((Cond.code yX0_firstMaking cX0_firstMaking 5 (some .int) : Cond)).onTables && ((Cond.code yX0_firstMaking cX0_firstMaking 5 (some .int) : Cond)).keeps) = true ∨ ∃ ty, (Cond.code yX0_firstMaking cX0_firstMaking 5 (some .int)) = .arrayClass ty) := ⟨zt_3 (List.mem_of_getElem? (i := 45) rfl), good_of_word rfl⟩
theorem gl_wsX7_meant_r5 : GoodIn lw_tbl wsX7_meant_r5 := (zl_cons zg_959 zl_nil)
theorem gl_wsX7_meant : GoodIn lw_tbl wsX7_meant := (zl_cons zg_936 (goodIn_app (goodIn_app (goodIn_app (goodIn_app (goodIn_app gl_wsX7_meant_r1 (goodIn_app gl_wsX7_meant_r2 (goodIn_app gl_wsX7_meant_r3 (goodIn_app gl_wsX7_meant_r4 gl_wsX7_meant_r5)))) gl_wsX70) gl_wsX00) gl_wsX40) gl_wsX20))
theorem zg_960 : (Cond.selects RX7 yX7_meant yX7_meant) ∈ lw_tbl ∧ ((((Cond.selects RX7 yX7_meant yX7_meant : Cond)).onTables && ((Cond.selects RX7 yX7_meant yX7_meant : Cond)).keeps) = true ∨ ∃ ty, (Cond.selects RX7 yX7_meant yX7_meant) = .arrayClass ty) := ⟨zt_3 (List.mem_of_getElem? (i := 21) rfl), good_of_word rfl⟩
theorem zg_961 : (Cond.instanceMethod yX7_meant) ∈ lw_tbl ∧ ((((Cond.instanceMethod yX7_meant : Cond)).onTables && ((Cond.instanceMethod yX7_meant : Cond)).keeps) = true ∨ ∃ ty, (Cond.instanceMethod yX7_meant) = .arrayClass ty) := ⟨zt_3 (List.mem_of_getElem? (i := 20) rfl), good_of_word rfl⟩
theorem zg_962 : (Cond.methodLink RL 127 yX7_meant) ∈ lw_tbl ∧ ((((Cond.methodLink RL 127 yX7_meant : Cond)).onTables && ((Cond.methodLink RL 127 yX7_meant : Cond)).keeps) = true ∨ ∃ ty, (Cond.methodLink RL 127 yX7_meant) = .arrayClass ty) := ⟨zt_3 (List.mem_of_getElem? (i := 19) rfl), good_of_word rfl⟩
theorem gq_127 : GoodIn lw_tbl (wsV RL 127 RX7 yX7_meant wsX7_meant) := goodIn_app (zl_cons zg_962 (zl_cons zg_961 (zl_cons zg_960 (zl_cons zg_21 zl_nil)))) gl_wsX7_meant
theorem zg_963 : (Cond.code yX8_meant cX8_meant 12 (some .int)) ∈ lw_tbl ∧ ((((Cond.code yX8_meant cX8_meant 12 (some .int) : Cond)).onTables && ((Cond.code yX8_meant cX8_meant 12 (some .int) : Cond)).keeps) = true ∨ ∃ ty, (Cond.code yX8_meant cX8_meant 12 (some .int)) = .arrayClass ty) := ⟨zt_5 (List.mem_of_getElem? (i := 89) rfl), good_of_word rfl⟩
theorem zg_964 : (Cond.constant RX8 271 (1000000)) ∈ lw_tbl ∧ ((((Cond.constant RX8 271 (1000000) : Cond)).onTables && ((Cond.constant RX8 271 (1000000) : Cond)).keeps) = true ∨ ∃ ty, (Cond.constant RX8 271 (1000000)) = .arrayClass ty) := ⟨zt_5 (List.mem_of_getElem? (i := 94) rfl), good_of_word rfl⟩
theorem gl_wsX8_meant_r1 : GoodIn lw_tbl wsX8_meant_r1 := (zl_cons zg_54 (zl_cons zg_280 (zl_cons zg_164 (zl_cons zg_964 (zl_cons zg_543 (zl_cons zg_542 (zl_cons zg_541 (zl_cons zg_49 (zl_cons zg_540 (zl_cons zg_56 (zl_cons zg_52 (zl_cons zg_51 (zl_cons zg_50 (zl_cons zg_48 (zl_cons zg_792 (zl_cons zg_791 (zl_cons zg_790 (zl_cons zg_789 (zl_cons zg_53 (zl_cons zg_47 (zl_cons zg_46 (zl_cons zg_45 (zl_cons zg_44 (zl_cons zg_43 zl_nil))))))))))))))))))))))))
theorem zg_965 : (Cond.code yX8_mayMake cX8_mayMake 5 (some .boolean)) ∈ lw_tbl ∧ ((((Cond.code yX8_mayMake cX8_mayMake 5 (some .boolean) : Cond)).onTables && ((Cond.code yX8_mayMake cX8_mayMake 5 (some .boolean) : Cond)).keeps) = true ∨ ∃ ty, (Cond.code yX8_mayMake cX8_mayMake 5 (some .boolean)) = .arrayClass ty) := ⟨zt_5 (List.mem_of_getElem? (i := 93) rfl), good_of_word rfl⟩
theorem zg_966 : (Cond.selects RX8 yX8_mayMake yX8_mayMake) ∈ lw_tbl ∧ ((((Cond.selects RX8 yX8_mayMake yX8_mayMake : Cond)).onTables && ((Cond.selects RX8 yX8_mayMake yX8_mayMake : Cond)).keeps) = true ∨ ∃ ty, (Cond.selects RX8 yX8_mayMake yX8_mayMake) = .arrayClass ty) := ⟨zp_4 8 (by decide +kernel), good_of_word rfl⟩
theorem zg_967 : (Cond.instanceMethod yX8_mayMake) ∈ lw_tbl ∧ ((((Cond.instanceMethod yX8_mayMake : Cond)).onTables && ((Cond.instanceMethod yX8_mayMake : Cond)).keeps) = true ∨ ∃ ty, (Cond.instanceMethod yX8_mayMake) = .arrayClass ty) := ⟨zt_5 (List.mem_of_getElem? (i := 92) rfl), good_of_word rfl⟩
theorem zg_968 : (Cond.methodLink RX8 268 yX8_mayMake) ∈ lw_tbl ∧ ((((Cond.methodLink RX8 268 yX8_mayMake : Cond)).onTables && ((Cond.methodLink RX8 268 yX8_mayMake : Cond)).keeps) = true ∨ ∃ ty, (Cond.methodLink RX8 268 yX8_mayMake) = .arrayClass ty) := ⟨zt_5 (List.mem_of_getElem? (i := 90) rfl), good_of_word rfl⟩
theorem gl_wsX8_meant_r2 : GoodIn lw_tbl wsX8_meant_r2 := (zl_cons zg_968 (zl_cons zg_967 (zl_cons zg_966 (zl_cons zg_965 (zl_cons zg_221 (zl_cons zg_220 (zl_cons zg_219 (zl_cons zg_218 (zl_cons zg_228 (zl_cons zg_222 (zl_cons zg_217 (zl_cons zg_619 (zl_cons zg_618 (zl_cons zg_617 (zl_cons zg_616 (zl_cons zg_226 (zl_cons zg_225 (zl_cons zg_224 (zl_cons zg_223 zl_nil)))))))))))))))))))
theorem gl_wsX8_meant : GoodIn lw_tbl wsX8_meant := (zl_cons zg_963 (goodIn_app (goodIn_app gl_wsX8_meant_r1 gl_wsX8_meant_r2) gl_wsX80))
theorem zg_969 : (Cond.selects RX8 yX8_meant yX8_meant) ∈ lw_tbl ∧ ((((Cond.selects RX8 yX8_meant yX8_meant : Cond)).onTables && ((Cond.selects RX8 yX8_meant yX8_meant : Cond)).keeps) = true ∨ ∃ ty, (Cond.selects RX8 yX8_meant yX8_meant) = .arrayClass ty) := ⟨zt_5 (List.mem_of_getElem? (i := 88) rfl), good_of_word rfl⟩
theorem zg_970 : (Cond.instanceMethod yX8_meant) ∈ lw_tbl ∧ ((((Cond.instanceMethod yX8_meant : Cond)).onTables && ((Cond.instanceMethod yX8_meant : Cond)).keeps) = true ∨ ∃ ty, (Cond.instanceMethod yX8_meant) = .arrayClass ty) := ⟨zt_5 (List.mem_of_getElem? (i := 87) rfl), good_of_word rfl⟩
theorem zg_971 : (Cond.methodLink RL 130 yX8_meant) ∈ lw_tbl ∧ ((((Cond.methodLink RL 130 yX8_meant : Cond)).onTables && ((Cond.methodLink RL 130 yX8_meant : Cond)).keeps) = true ∨ ∃ ty, (Cond.methodLink RL 130 yX8_meant) = .arrayClass ty) := ⟨zt_5 (List.mem_of_getElem? (i := 86) rfl), good_of_word rfl⟩
theorem gq_130 : GoodIn lw_tbl (wsV RL 130 RX8 yX8_meant wsX8_meant) := goodIn_app (zl_cons zg_971 (zl_cons zg_970 (zl_cons zg_969 (zl_cons zg_49 zl_nil)))) gl_wsX8_meant
theorem zg_972 : (Cond.code yX7_closed cX7_closed 1 (some .int)) ∈ lw_tbl ∧ ((((Cond.code yX7_closed cX7_closed 1 (some .int) : Cond)).onTables && ((Cond.code yX7_closed cX7_closed 1 (some .int) : Cond)).keeps) = true ∨ ∃ ty, (Cond.code yX7_closed cX7_closed 1 (some .int)) = .arrayClass ty) := ⟨zt_3 (List.mem_of_getElem? (i := 49) rfl), good_of_word rfl⟩
theorem zg_973 : (Cond.code yX6_runsTo cX6_runsTo 2 (some .int)) ∈ lw_tbl ∧ ((((Cond.code yX6_runsTo cX6_runsTo 2 (some .int) : Cond)).onTables && ((Cond.code yX6_runsTo cX6_runsTo 2 (some .int) : Cond)).keeps) = true ∨ ∃ ty, (Cond.code yX6_runsTo cX6_runsTo 2 (some .int)) = .arrayClass ty) := ⟨zt_3 (List.mem_of_getElem? (i := 53) rfl), good_of_word rfl⟩
theorem zg_974 : (Cond.selects RX6 yX6_runsTo yX6_runsTo) ∈ lw_tbl ∧ ((((Cond.selects RX6 yX6_runsTo yX6_runsTo : Cond)).onTables && ((Cond.selects RX6 yX6_runsTo yX6_runsTo : Cond)).keeps) = true ∨ ∃ ty, (Cond.selects RX6 yX6_runsTo yX6_runsTo) = .arrayClass ty) := ⟨zt_3 (List.mem_of_getElem? (i := 52) rfl), good_of_word rfl⟩
theorem zg_975 : (Cond.instanceMethod yX6_runsTo) ∈ lw_tbl ∧ ((((Cond.instanceMethod yX6_runsTo : Cond)).onTables && ((Cond.instanceMethod yX6_runsTo : Cond)).keeps) = true ∨ ∃ ty, (Cond.instanceMethod yX6_runsTo) = .arrayClass ty) := ⟨zt_3 (List.mem_of_getElem? (i := 51) rfl), good_of_word rfl⟩
theorem zg_976 : (Cond.methodLink RX7 265 yX6_runsTo) ∈ lw_tbl ∧ ((((Cond.methodLink RX7 265 yX6_runsTo : Cond)).onTables && ((Cond.methodLink RX7 265 yX6_runsTo : Cond)).keeps) = true ∨ ∃ ty, (Cond.methodLink RX7 265 yX6_runsTo) = .arrayClass ty) := ⟨zt_3 (List.mem_of_getElem? (i := 50) rfl), good_of_word rfl⟩
theorem gl_wsX7_closed_r1 : GoodIn lw_tbl wsX7_closed_r1 := (zl_cons zg_150 (zl_cons zg_295 (zl_cons zg_976 (zl_cons zg_975 (zl_cons zg_974 (zl_cons zg_290 (zl_cons zg_973 (zl_cons zg_287 (zl_cons zg_288 (zl_cons zg_890 (zl_cons zg_889 (zl_cons zg_888 (zl_cons zg_887 (zl_cons zg_286 (zl_cons zg_285 (zl_cons zg_886 (zl_cons zg_824 (zl_cons zg_319 (zl_cons zg_318 (zl_cons zg_317 (zl_cons zg_832 (zl_cons zg_831 (zl_cons zg_830 (zl_cons zg_829 zl_nil))))))))))))))))))))))))
theorem gl_wsX7_closed_r2 : GoodIn lw_tbl wsX7_closed_r2 := (zl_cons zg_828 (zl_cons zg_827 (zl_cons zg_826 (zl_cons zg_825 zl_nil))))
theorem gl_wsX7_closed : GoodIn lw_tbl wsX7_closed := (zl_cons zg_972 (goodIn_app (goodIn_app (goodIn_app (goodIn_app gl_wsX7_closed_r1 gl_wsX7_closed_r2) gl_wsX70) gl_wsX00) gl_wsX60))
theorem zg_977 : (Cond.selects RX7 yX7_closed yX7_closed) ∈ lw_tbl ∧ ((((Cond.selects RX7 yX7_closed yX7_closed : Cond)).onTables && ((Cond.selects RX7 yX7_closed yX7_closed : Cond)).keeps) = true ∨ ∃ ty, (Cond.selects RX7 yX7_closed yX7_closed) = .arrayClass ty) := ⟨zt_3 (List.mem_of_getElem? (i := 48) rfl), good_of_word rfl⟩
theorem zg_978 : (Cond.instanceMethod yX7_closed) ∈ lw_tbl ∧ ((((Cond.instanceMethod yX7_closed : Cond)).onTables && ((Cond.instanceMethod yX7_closed : Cond)).keeps) = true ∨ ∃ ty, (Cond.instanceMethod yX7_closed) = .arrayClass ty) := ⟨zt_3 (List.mem_of_getElem? (i := 47) rfl), good_of_word rfl⟩
theorem zg_979 : (Cond.methodLink RL 131 yX7_closed) ∈ lw_tbl ∧ ((((Cond.methodLink RL 131 yX7_closed : Cond)).onTables && ((Cond.methodLink RL 131 yX7_closed : Cond)).keeps) = true ∨ ∃ ty, (Cond.methodLink RL 131 yX7_closed) = .arrayClass ty) := ⟨zt_3 (List.mem_of_getElem? (i := 46) rfl), good_of_word rfl⟩
theorem gq_131 : GoodIn lw_tbl (wsV RL 131 RX7 yX7_closed wsX7_closed) := goodIn_app (zl_cons zg_979 (zl_cons zg_978 (zl_cons zg_977 (zl_cons zg_21 zl_nil)))) gl_wsX7_closed
theorem zg_980 : (Cond.code yX8_closed cX8_closed 2 (some .int)) ∈ lw_tbl ∧ ((((Cond.code yX8_closed cX8_closed 2 (some .int) : Cond)).onTables && ((Cond.code yX8_closed cX8_closed 2 (some .int) : Cond)).keeps) = true ∨ ∃ ty, (Cond.code yX8_closed cX8_closed 2 (some .int)) = .arrayClass ty) := ⟨zt_5 (List.mem_of_getElem? (i := 98) rfl), good_of_word rfl⟩
theorem gl_wsX8_closed : GoodIn lw_tbl wsX8_closed := (zl_cons zg_980 (goodIn_app (zl_cons zg_307 (zl_cons zg_312 (zl_cons zg_902 (zl_cons zg_901 (zl_cons zg_900 (zl_cons zg_49 (zl_cons zg_899 (zl_cons zg_306 (zl_cons zg_305 (zl_cons zg_368 (zl_cons zg_872 (zl_cons zg_871 (zl_cons zg_870 (zl_cons zg_869 zl_nil)))))))))))))) gl_wsX80))
theorem zg_981 : (Cond.selects RX8 yX8_closed yX8_closed) ∈ lw_tbl ∧ ((((Cond.selects RX8 yX8_closed yX8_closed : Cond)).onTables && ((Cond.selects RX8 yX8_closed yX8_closed : Cond)).keeps) = true ∨ ∃ ty, (Cond.selects RX8 yX8_closed yX8_closed) = .arrayClass ty) := ⟨zt_5 (List.mem_of_getElem? (i := 97) rfl), good_of_word rfl⟩
theorem zg_982 : (Cond.instanceMethod yX8_closed) ∈ lw_tbl ∧ ((((Cond.instanceMethod yX8_closed : Cond)).onTables && ((Cond.instanceMethod yX8_closed : Cond)).keeps) = true ∨ ∃ ty, (Cond.instanceMethod yX8_closed) = .arrayClass ty) := ⟨zt_5 (List.mem_of_getElem? (i := 96) rfl), good_of_word rfl⟩
theorem zg_983 : (Cond.methodLink RL 134 yX8_closed) ∈ lw_tbl ∧ ((((Cond.methodLink RL 134 yX8_closed : Cond)).onTables && ((Cond.methodLink RL 134 yX8_closed : Cond)).keeps) = true ∨ ∃ ty, (Cond.methodLink RL 134 yX8_closed) = .arrayClass ty) := ⟨zt_5 (List.mem_of_getElem? (i := 95) rfl), good_of_word rfl⟩
theorem gq_134 : GoodIn lw_tbl (wsV RL 134 RX8 yX8_closed wsX8_closed) := goodIn_app (zl_cons zg_983 (zl_cons zg_982 (zl_cons zg_981 (zl_cons zg_49 zl_nil)))) gl_wsX8_closed
theorem zg_984 : (Cond.code yX7_pulls cX7_pulls 3 (some .int)) ∈ lw_tbl ∧ ((((Cond.code yX7_pulls cX7_pulls 3 (some .int) : Cond)).onTables && ((Cond.code yX7_pulls cX7_pulls 3 (some .int) : Cond)).keeps) = true ∨ ∃ ty, (Cond.code yX7_pulls cX7_pulls 3 (some .int)) = .arrayClass ty) := ⟨zt_3 (List.mem_of_getElem? (i := 57) rfl), good_of_word rfl⟩
theorem gl_wsX7_pulls_r1 : GoodIn lw_tbl wsX7_pulls_r1 := (zl_cons zg_150 (zl_cons zg_635 (zl_cons zg_149 (zl_cons zg_148 (zl_cons zg_147 (zl_cons zg_146 (zl_cons zg_145 (zl_cons zg_144 (zl_cons zg_143 (zl_cons zg_17 (zl_cons zg_21 (zl_cons zg_16 (zl_cons zg_15 (zl_cons zg_14 (zl_cons zg_13 (zl_cons zg_12 (zl_cons zg_11 (zl_cons zg_18 (zl_cons zg_270 (zl_cons zg_269 (zl_cons zg_268 (zl_cons zg_267 (zl_cons zg_266 (zl_cons zg_265 zl_nil))))))))))))))))))))))))
theorem zg_985 : (Cond.methodLink RX0 89 yX2_waysAt) ∈ lw_tbl ∧ ((((Cond.methodLink RX0 89 yX2_waysAt : Cond)).onTables && ((Cond.methodLink RX0 89 yX2_waysAt : Cond)).keeps) = true ∨ ∃ ty, (Cond.methodLink RX0 89 yX2_waysAt) = .arrayClass ty) := ⟨zt_3 (List.mem_of_getElem? (i := 67) rfl), good_of_word rfl⟩
theorem zg_986 : (Cond.constant RX0 84 (1103515245)) ∈ lw_tbl ∧ ((((Cond.constant RX0 84 (1103515245) : Cond)).onTables && ((Cond.constant RX0 84 (1103515245) : Cond)).keeps) = true ∨ ∃ ty, (Cond.constant RX0 84 (1103515245)) = .arrayClass ty) := ⟨zt_3 (List.mem_of_getElem? (i := 66) rfl), good_of_word rfl⟩
theorem zg_987 : (Cond.fieldLink RX0 44 "TheLiningsInIt$Jacket" "seedNow" "I") ∈ lw_tbl ∧ ((((Cond.fieldLink RX0 44 "TheLiningsInIt$Jacket" "seedNow" "I" : Cond)).onTables && ((Cond.fieldLink RX0 44 "TheLiningsInIt$Jacket" "seedNow" "I" : Cond)).keeps) = true ∨ ∃ ty, (Cond.fieldLink RX0 44 "TheLiningsInIt$Jacket" "seedNow" "I") = .arrayClass ty) := ⟨zt_0 (List.mem_of_getElem? (i := 89) rfl), good_of_word rfl⟩
theorem zg_988 : (Cond.code yX0_draw cX0_draw 2 (some .int)) ∈ lw_tbl ∧ ((((Cond.code yX0_draw cX0_draw 2 (some .int) : Cond)).onTables && ((Cond.code yX0_draw cX0_draw 2 (some .int) : Cond)).keeps) = true ∨ ∃ ty, (Cond.code yX0_draw cX0_draw 2 (some .int)) = .arrayClass ty) := ⟨zt_3 (List.mem_of_getElem? (i := 65) rfl), good_of_word rfl⟩
theorem zg_989 : (Cond.selects RX0 yX0_draw yX0_draw) ∈ lw_tbl ∧ ((((Cond.selects RX0 yX0_draw yX0_draw : Cond)).onTables && ((Cond.selects RX0 yX0_draw yX0_draw : Cond)).keeps) = true ∨ ∃ ty, (Cond.selects RX0 yX0_draw yX0_draw) = .arrayClass ty) := ⟨zt_3 (List.mem_of_getElem? (i := 64) rfl), good_of_word rfl⟩
theorem zg_990 : (Cond.instanceMethod yX0_draw) ∈ lw_tbl ∧ ((((Cond.instanceMethod yX0_draw : Cond)).onTables && ((Cond.instanceMethod yX0_draw : Cond)).keeps) = true ∨ ∃ ty, (Cond.instanceMethod yX0_draw) = .arrayClass ty) := ⟨zt_3 (List.mem_of_getElem? (i := 63) rfl), good_of_word rfl⟩
theorem zg_991 : (Cond.methodLink RX0 85 yX0_draw) ∈ lw_tbl ∧ ((((Cond.methodLink RX0 85 yX0_draw : Cond)).onTables && ((Cond.methodLink RX0 85 yX0_draw : Cond)).keeps) = true ∨ ∃ ty, (Cond.methodLink RX0 85 yX0_draw) = .arrayClass ty) := ⟨zt_3 (List.mem_of_getElem? (i := 62) rfl), good_of_word rfl⟩
theorem zg_992 : (Cond.fieldLink RX0 35 "TheLiningsInIt$Jacket" "torn" "I") ∈ lw_tbl ∧ ((((Cond.fieldLink RX0 35 "TheLiningsInIt$Jacket" "torn" "I" : Cond)).onTables && ((Cond.fieldLink RX0 35 "TheLiningsInIt$Jacket" "torn" "I" : Cond)).keeps) = true ∨ ∃ ty, (Cond.fieldLink RX0 35 "TheLiningsInIt$Jacket" "torn" "I") = .arrayClass ty) := ⟨zt_0 (List.mem_of_getElem? (i := 83) rfl), good_of_word rfl⟩
theorem zg_993 : (Cond.fieldLink RX0 102 "TheLiningsInIt$Pull" "kind" "I") ∈ lw_tbl ∧ ((((Cond.fieldLink RX0 102 "TheLiningsInIt$Pull" "kind" "I" : Cond)).onTables && ((Cond.fieldLink RX0 102 "TheLiningsInIt$Pull" "kind" "I" : Cond)).keeps) = true ∨ ∃ ty, (Cond.fieldLink RX0 102 "TheLiningsInIt$Pull" "kind" "I") = .arrayClass ty) := ⟨zt_1 (List.mem_of_getElem? (i := 109) rfl), good_of_word rfl⟩
theorem zg_994 : (Cond.fieldLink RX0 99 "TheLiningsInIt$Pull" "takes" "I") ∈ lw_tbl ∧ ((((Cond.fieldLink RX0 99 "TheLiningsInIt$Pull" "takes" "I" : Cond)).onTables && ((Cond.fieldLink RX0 99 "TheLiningsInIt$Pull" "takes" "I" : Cond)).keeps) = true ∨ ∃ ty, (Cond.fieldLink RX0 99 "TheLiningsInIt$Pull" "takes" "I") = .arrayClass ty) := ⟨zt_1 (List.mem_of_getElem? (i := 116) rfl), good_of_word rfl⟩
theorem zg_995 : (Cond.code yX0_pullInTruth cX0_pullInTruth 3 none) ∈ lw_tbl ∧ ((((Cond.code yX0_pullInTruth cX0_pullInTruth 3 none : Cond)).onTables && ((Cond.code yX0_pullInTruth cX0_pullInTruth 3 none : Cond)).keeps) = true ∨ ∃ ty, (Cond.code yX0_pullInTruth cX0_pullInTruth 3 none) = .arrayClass ty) := ⟨zt_3 (List.mem_of_getElem? (i := 61) rfl), good_of_word rfl⟩
theorem zg_996 : (Cond.selects RX0 yX0_pullInTruth yX0_pullInTruth) ∈ lw_tbl ∧ ((((Cond.selects RX0 yX0_pullInTruth yX0_pullInTruth : Cond)).onTables && ((Cond.selects RX0 yX0_pullInTruth yX0_pullInTruth : Cond)).keeps) = true ∨ ∃ ty, (Cond.selects RX0 yX0_pullInTruth yX0_pullInTruth) = .arrayClass ty) := ⟨zt_3 (List.mem_of_getElem? (i := 60) rfl), good_of_word rfl⟩
theorem zg_997 : (Cond.instanceMethod yX0_pullInTruth) ∈ lw_tbl ∧ ((((Cond.instanceMethod yX0_pullInTruth : Cond)).onTables && ((Cond.instanceMethod yX0_pullInTruth : Cond)).keeps) = true ∨ ∃ ty, (Cond.instanceMethod yX0_pullInTruth) = .arrayClass ty) := ⟨zt_3 (List.mem_of_getElem? (i := 59) rfl), good_of_word rfl⟩
theorem zg_998 : (Cond.methodLink RX7 268 yX0_pullInTruth) ∈ lw_tbl ∧ ((((Cond.methodLink RX7 268 yX0_pullInTruth : Cond)).onTables && ((Cond.methodLink RX7 268 yX0_pullInTruth : Cond)).keeps) = true ∨ ∃ ty, (Cond.methodLink RX7 268 yX0_pullInTruth) = .arrayClass ty) := ⟨zt_3 (List.mem_of_getElem? (i := 58) rfl), good_of_word rfl⟩
theorem gl_wsX7_pulls_r2 : GoodIn lw_tbl wsX7_pulls_r2 := (zl_cons zg_264 (zl_cons zg_263 (zl_cons zg_262 (zl_cons zg_203 (zl_cons zg_261 (zl_cons zg_243 (zl_cons zg_998 (zl_cons zg_997 (zl_cons zg_996 (zl_cons zg_995 (zl_cons zg_363 (zl_cons zg_994 (zl_cons zg_993 (zl_cons zg_992 (zl_cons zg_991 (zl_cons zg_990 (zl_cons zg_989 (zl_cons zg_988 (zl_cons zg_987 (zl_cons zg_986 (zl_cons zg_985 (zl_cons zg_194 (zl_cons zg_193 (zl_cons zg_192 zl_nil))))))))))))))))))))))))
theorem zg_999 : (Cond.methodLink RX0 96 yX2_deeper) ∈ lw_tbl ∧ ((((Cond.methodLink RX0 96 yX2_deeper : Cond)).onTables && ((Cond.methodLink RX0 96 yX2_deeper : Cond)).keeps) = true ∨ ∃ ty, (Cond.methodLink RX0 96 yX2_deeper) = .arrayClass ty) := ⟨zt_3 (List.mem_of_getElem? (i := 69) rfl), good_of_word rfl⟩
theorem zg_1000 : (Cond.methodLink RX0 93 yX2_shallower) ∈ lw_tbl ∧ ((((Cond.methodLink RX0 93 yX2_shallower : Cond)).onTables && ((Cond.methodLink RX0 93 yX2_shallower : Cond)).keeps) = true ∨ ∃ ty, (Cond.methodLink RX0 93 yX2_shallower) = .arrayClass ty) := ⟨zt_3 (List.mem_of_getElem? (i := 68) rfl), good_of_word rfl⟩
theorem gl_wsX7_pulls_r3 : GoodIn lw_tbl wsX7_pulls_r3 := (zl_cons zg_201 (zl_cons zg_191 (zl_cons zg_190 (zl_cons zg_189 (zl_cons zg_188 (zl_cons zg_187 (zl_cons zg_186 (zl_cons zg_185 (zl_cons zg_184 (zl_cons zg_209 (zl_cons zg_208 (zl_cons zg_207 (zl_cons zg_196 (zl_cons zg_1000 (zl_cons zg_610 (zl_cons zg_609 (zl_cons zg_608 (zl_cons zg_607 (zl_cons zg_199 (zl_cons zg_198 (zl_cons zg_197 (zl_cons zg_999 (zl_cons zg_605 (zl_cons zg_604 zl_nil))))))))))))))))))))))))
theorem gl_wsX7_pulls_r4 : GoodIn lw_tbl wsX7_pulls_r4 := (zl_cons zg_603 zl_nil)
theorem gl_wsX7_pulls : GoodIn lw_tbl wsX7_pulls := (zl_cons zg_984 (goodIn_app (goodIn_app (goodIn_app (goodIn_app gl_wsX7_pulls_r1 (goodIn_app gl_wsX7_pulls_r2 (goodIn_app gl_wsX7_pulls_r3 gl_wsX7_pulls_r4))) gl_wsX70) gl_wsX00) gl_wsX20))
theorem zg_1001 : (Cond.selects RX7 yX7_pulls yX7_pulls) ∈ lw_tbl ∧ ((((Cond.selects RX7 yX7_pulls yX7_pulls : Cond)).onTables && ((Cond.selects RX7 yX7_pulls yX7_pulls : Cond)).keeps) = true ∨ ∃ ty, (Cond.selects RX7 yX7_pulls yX7_pulls) = .arrayClass ty) := ⟨zt_3 (List.mem_of_getElem? (i := 56) rfl), good_of_word rfl⟩
theorem zg_1002 : (Cond.instanceMethod yX7_pulls) ∈ lw_tbl ∧ ((((Cond.instanceMethod yX7_pulls : Cond)).onTables && ((Cond.instanceMethod yX7_pulls : Cond)).keeps) = true ∨ ∃ ty, (Cond.instanceMethod yX7_pulls) = .arrayClass ty) := ⟨zt_3 (List.mem_of_getElem? (i := 55) rfl), good_of_word rfl⟩
theorem zg_1003 : (Cond.methodLink RL 135 yX7_pulls) ∈ lw_tbl ∧ ((((Cond.methodLink RL 135 yX7_pulls : Cond)).onTables && ((Cond.methodLink RL 135 yX7_pulls : Cond)).keeps) = true ∨ ∃ ty, (Cond.methodLink RL 135 yX7_pulls) = .arrayClass ty) := ⟨zt_3 (List.mem_of_getElem? (i := 54) rfl), good_of_word rfl⟩
theorem gq_135 : GoodIn lw_tbl (wsV RL 135 RX7 yX7_pulls wsX7_pulls) := goodIn_app (zl_cons zg_1003 (zl_cons zg_1002 (zl_cons zg_1001 (zl_cons zg_21 zl_nil)))) gl_wsX7_pulls
theorem zg_1004 : (Cond.code yX8_pulls cX8_pulls 2 (some .int)) ∈ lw_tbl ∧ ((((Cond.code yX8_pulls cX8_pulls 2 (some .int) : Cond)).onTables && ((Cond.code yX8_pulls cX8_pulls 2 (some .int) : Cond)).keeps) = true ∨ ∃ ty, (Cond.code yX8_pulls cX8_pulls 2 (some .int)) = .arrayClass ty) := ⟨zt_5 (List.mem_of_getElem? (i := 102) rfl), good_of_word rfl⟩
theorem zg_1005 : (Cond.code yX8_makes cX8_makes 3 none) ∈ lw_tbl ∧ ((((Cond.code yX8_makes cX8_makes 3 none : Cond)).onTables && ((Cond.code yX8_makes cX8_makes 3 none : Cond)).keeps) = true ∨ ∃ ty, (Cond.code yX8_makes cX8_makes 3 none) = .arrayClass ty) := ⟨zt_5 (List.mem_of_getElem? (i := 106) rfl), good_of_word rfl⟩
theorem zg_1006 : (Cond.selects RX8 yX8_makes yX8_makes) ∈ lw_tbl ∧ ((((Cond.selects RX8 yX8_makes yX8_makes : Cond)).onTables && ((Cond.selects RX8 yX8_makes yX8_makes : Cond)).keeps) = true ∨ ∃ ty, (Cond.selects RX8 yX8_makes yX8_makes) = .arrayClass ty) := ⟨zp_4 9 (by decide +kernel), good_of_word rfl⟩
theorem zg_1007 : (Cond.instanceMethod yX8_makes) ∈ lw_tbl ∧ ((((Cond.instanceMethod yX8_makes : Cond)).onTables && ((Cond.instanceMethod yX8_makes : Cond)).keeps) = true ∨ ∃ ty, (Cond.instanceMethod yX8_makes) = .arrayClass ty) := ⟨zt_5 (List.mem_of_getElem? (i := 105) rfl), good_of_word rfl⟩
theorem zg_1008 : (Cond.methodLink RX8 276 yX8_makes) ∈ lw_tbl ∧ ((((Cond.methodLink RX8 276 yX8_makes : Cond)).onTables && ((Cond.methodLink RX8 276 yX8_makes : Cond)).keeps) = true ∨ ∃ ty, (Cond.methodLink RX8 276 yX8_makes) = .arrayClass ty) := ⟨zt_5 (List.mem_of_getElem? (i := 103) rfl), good_of_word rfl⟩
theorem gl_wsX8_pulls_r1 : GoodIn lw_tbl wsX8_pulls_r1 := (zl_cons zg_280 (zl_cons zg_279 (zl_cons zg_168 (zl_cons zg_167 (zl_cons zg_166 (zl_cons zg_49 (zl_cons zg_165 (zl_cons zg_164 (zl_cons zg_47 (zl_cons zg_46 (zl_cons zg_45 (zl_cons zg_44 (zl_cons zg_43 (zl_cons zg_278 (zl_cons zg_277 (zl_cons zg_276 (zl_cons zg_275 (zl_cons zg_227 (zl_cons zg_1008 (zl_cons zg_1007 (zl_cons zg_1006 (zl_cons zg_1005 (zl_cons zg_228 (zl_cons zg_557 zl_nil))))))))))))))))))))))))
theorem zg_1009 : (Cond.constant RX8 272 (1103515245)) ∈ lw_tbl ∧ ((((Cond.constant RX8 272 (1103515245) : Cond)).onTables && ((Cond.constant RX8 272 (1103515245) : Cond)).keeps) = true ∨ ∃ ty, (Cond.constant RX8 272 (1103515245)) = .arrayClass ty) := ⟨zt_5 (List.mem_of_getElem? (i := 111) rfl), good_of_word rfl⟩
theorem zg_1010 : (Cond.code yX8_draw cX8_draw 2 (some .int)) ∈ lw_tbl ∧ ((((Cond.code yX8_draw cX8_draw 2 (some .int) : Cond)).onTables && ((Cond.code yX8_draw cX8_draw 2 (some .int) : Cond)).keeps) = true ∨ ∃ ty, (Cond.code yX8_draw cX8_draw 2 (some .int)) = .arrayClass ty) := ⟨zt_5 (List.mem_of_getElem? (i := 110) rfl), good_of_word rfl⟩
theorem zg_1011 : (Cond.selects RX8 yX8_draw yX8_draw) ∈ lw_tbl ∧ ((((Cond.selects RX8 yX8_draw yX8_draw : Cond)).onTables && ((Cond.selects RX8 yX8_draw yX8_draw : Cond)).keeps) = true ∨ ∃ ty, (Cond.selects RX8 yX8_draw yX8_draw) = .arrayClass ty) := ⟨zp_4 10 (by decide +kernel), good_of_word rfl⟩
theorem zg_1012 : (Cond.instanceMethod yX8_draw) ∈ lw_tbl ∧ ((((Cond.instanceMethod yX8_draw : Cond)).onTables && ((Cond.instanceMethod yX8_draw : Cond)).keeps) = true ∨ ∃ ty, (Cond.instanceMethod yX8_draw) = .arrayClass ty) := ⟨zt_5 (List.mem_of_getElem? (i := 109) rfl), good_of_word rfl⟩
theorem zg_1013 : (Cond.methodLink RX8 273 yX8_draw) ∈ lw_tbl ∧ ((((Cond.methodLink RX8 273 yX8_draw : Cond)).onTables && ((Cond.methodLink RX8 273 yX8_draw : Cond)).keeps) = true ∨ ∃ ty, (Cond.methodLink RX8 273 yX8_draw) = .arrayClass ty) := ⟨zt_5 (List.mem_of_getElem? (i := 107) rfl), good_of_word rfl⟩
theorem gl_wsX8_pulls_r2 : GoodIn lw_tbl wsX8_pulls_r2 := (zl_cons zg_1013 (zl_cons zg_1012 (zl_cons zg_1011 (zl_cons zg_1010 (zl_cons zg_556 (zl_cons zg_1009 (zl_cons zg_221 (zl_cons zg_220 (zl_cons zg_219 (zl_cons zg_218 (zl_cons zg_222 (zl_cons zg_217 (zl_cons zg_619 (zl_cons zg_618 (zl_cons zg_617 (zl_cons zg_616 (zl_cons zg_226 (zl_cons zg_225 (zl_cons zg_224 (zl_cons zg_223 zl_nil))))))))))))))))))))
theorem gl_wsX8_pulls : GoodIn lw_tbl wsX8_pulls := (zl_cons zg_1004 (goodIn_app (goodIn_app gl_wsX8_pulls_r1 gl_wsX8_pulls_r2) gl_wsX80))
theorem zg_1014 : (Cond.selects RX8 yX8_pulls yX8_pulls) ∈ lw_tbl ∧ ((((Cond.selects RX8 yX8_pulls yX8_pulls : Cond)).onTables && ((Cond.selects RX8 yX8_pulls yX8_pulls : Cond)).keeps) = true ∨ ∃ ty, (Cond.selects RX8 yX8_pulls yX8_pulls) = .arrayClass ty) := ⟨zt_5 (List.mem_of_getElem? (i := 101) rfl), good_of_word rfl⟩
theorem zg_1015 : (Cond.instanceMethod yX8_pulls) ∈ lw_tbl ∧ ((((Cond.instanceMethod yX8_pulls : Cond)).onTables && ((Cond.instanceMethod yX8_pulls : Cond)).keeps) = true ∨ ∃ ty, (Cond.instanceMethod yX8_pulls) = .arrayClass ty) := ⟨zt_5 (List.mem_of_getElem? (i := 100) rfl), good_of_word rfl⟩
theorem zg_1016 : (Cond.methodLink RL 138 yX8_pulls) ∈ lw_tbl ∧ ((((Cond.methodLink RL 138 yX8_pulls : Cond)).onTables && ((Cond.methodLink RL 138 yX8_pulls : Cond)).keeps) = true ∨ ∃ ty, (Cond.methodLink RL 138 yX8_pulls) = .arrayClass ty) := ⟨zt_5 (List.mem_of_getElem? (i := 99) rfl), good_of_word rfl⟩
theorem gq_138 : GoodIn lw_tbl (wsV RL 138 RX8 yX8_pulls wsX8_pulls) := goodIn_app (zl_cons zg_1016 (zl_cons zg_1015 (zl_cons zg_1014 (zl_cons zg_49 zl_nil)))) gl_wsX8_pulls
theorem zg_1017 : (Cond.code yX7_close cX7_close 1 (some .int)) ∈ lw_tbl ∧ ((((Cond.code yX7_close cX7_close 1 (some .int) : Cond)).onTables && ((Cond.code yX7_close cX7_close 1 (some .int) : Cond)).keeps) = true ∨ ∃ ty, (Cond.code yX7_close cX7_close 1 (some .int)) = .arrayClass ty) := ⟨zt_3 (List.mem_of_getElem? (i := 73) rfl), good_of_word rfl⟩
theorem zg_1018 : (Cond.fieldLink RX0 109 "TheLiningsInIt$Zip" "slacks" "[I") ∈ lw_tbl ∧ ((((Cond.fieldLink RX0 109 "TheLiningsInIt$Zip" "slacks" "[I" : Cond)).onTables && ((Cond.fieldLink RX0 109 "TheLiningsInIt$Zip" "slacks" "[I" : Cond)).keeps) = true ∨ ∃ ty, (Cond.fieldLink RX0 109 "TheLiningsInIt$Zip" "slacks" "[I") = .arrayClass ty) := ⟨zt_0 (List.mem_of_getElem? (i := 44) rfl), good_of_word rfl⟩
theorem zg_1019 : (Cond.code yX0_closeInTruth cX0_closeInTruth 2 none) ∈ lw_tbl ∧ ((((Cond.code yX0_closeInTruth cX0_closeInTruth 2 none : Cond)).onTables && ((Cond.code yX0_closeInTruth cX0_closeInTruth 2 none : Cond)).keeps) = true ∨ ∃ ty, (Cond.code yX0_closeInTruth cX0_closeInTruth 2 none) = .arrayClass ty) := ⟨zt_3 (List.mem_of_getElem? (i := 77) rfl), good_of_word rfl⟩
theorem zg_1020 : (Cond.selects RX0 yX0_closeInTruth yX0_closeInTruth) ∈ lw_tbl ∧ ((((Cond.selects RX0 yX0_closeInTruth yX0_closeInTruth : Cond)).onTables && ((Cond.selects RX0 yX0_closeInTruth yX0_closeInTruth : Cond)).keeps) = true ∨ ∃ ty, (Cond.selects RX0 yX0_closeInTruth yX0_closeInTruth) = .arrayClass ty) := ⟨zt_3 (List.mem_of_getElem? (i := 76) rfl), good_of_word rfl⟩
theorem zg_1021 : (Cond.instanceMethod yX0_closeInTruth) ∈ lw_tbl ∧ ((((Cond.instanceMethod yX0_closeInTruth : Cond)).onTables && ((Cond.instanceMethod yX0_closeInTruth : Cond)).keeps) = true ∨ ∃ ty, (Cond.instanceMethod yX0_closeInTruth) = .arrayClass ty) := ⟨zt_3 (List.mem_of_getElem? (i := 75) rfl), good_of_word rfl⟩
theorem zg_1022 : (Cond.methodLink RX7 272 yX0_closeInTruth) ∈ lw_tbl ∧ ((((Cond.methodLink RX7 272 yX0_closeInTruth : Cond)).onTables && ((Cond.methodLink RX7 272 yX0_closeInTruth : Cond)).keeps) = true ∨ ∃ ty, (Cond.methodLink RX7 272 yX0_closeInTruth) = .arrayClass ty) := ⟨zt_3 (List.mem_of_getElem? (i := 74) rfl), good_of_word rfl⟩
theorem zg_1023 : (Cond.fieldLink RX7 275 "TheLiningsInIt$Zip" "at" "I") ∈ lw_tbl ∧ ((((Cond.fieldLink RX7 275 "TheLiningsInIt$Zip" "at" "I" : Cond)).onTables && ((Cond.fieldLink RX7 275 "TheLiningsInIt$Zip" "at" "I" : Cond)).keeps) = true ∨ ∃ ty, (Cond.fieldLink RX7 275 "TheLiningsInIt$Zip" "at" "I") = .arrayClass ty) := ⟨zt_0 (List.mem_of_getElem? (i := 52) rfl), good_of_word rfl⟩
theorem gl_wsX7_close_r1 : GoodIn lw_tbl wsX7_close_r1 := (zl_cons zg_150 (zl_cons zg_635 (zl_cons zg_295 (zl_cons zg_1023 (zl_cons zg_15 (zl_cons zg_14 (zl_cons zg_13 (zl_cons zg_21 (zl_cons zg_12 (zl_cons zg_11 (zl_cons zg_18 (zl_cons zg_17 (zl_cons zg_16 (zl_cons zg_1022 (zl_cons zg_1021 (zl_cons zg_1020 (zl_cons zg_146 (zl_cons zg_1019 (zl_cons zg_348 (zl_cons zg_361 (zl_cons zg_347 (zl_cons zg_1018 (zl_cons zg_362 (zl_cons zg_266 zl_nil))))))))))))))))))))))))
theorem zg_1024 : (Cond.methodLink RX0 112 yX6_lacksThreeFrom) ∈ lw_tbl ∧ ((((Cond.methodLink RX0 112 yX6_lacksThreeFrom : Cond)).onTables && ((Cond.methodLink RX0 112 yX6_lacksThreeFrom : Cond)).keeps) = true ∨ ∃ ty, (Cond.methodLink RX0 112 yX6_lacksThreeFrom) = .arrayClass ty) := ⟨zt_3 (List.mem_of_getElem? (i := 79) rfl), good_of_word rfl⟩
theorem zg_1025 : (Cond.methodLink RX0 105 yX6_catchesAt) ∈ lw_tbl ∧ ((((Cond.methodLink RX0 105 yX6_catchesAt : Cond)).onTables && ((Cond.methodLink RX0 105 yX6_catchesAt : Cond)).keeps) = true ∨ ∃ ty, (Cond.methodLink RX0 105 yX6_catchesAt) = .arrayClass ty) := ⟨zt_3 (List.mem_of_getElem? (i := 78) rfl), good_of_word rfl⟩
theorem gl_wsX7_close_r2 : GoodIn lw_tbl wsX7_close_r2 := (zl_cons zg_1025 (zl_cons zg_889 (zl_cons zg_888 (zl_cons zg_290 (zl_cons zg_887 (zl_cons zg_286 (zl_cons zg_285 (zl_cons zg_886 (zl_cons zg_824 (zl_cons zg_319 (zl_cons zg_318 (zl_cons zg_317 (zl_cons zg_288 (zl_cons zg_991 (zl_cons zg_990 (zl_cons zg_989 (zl_cons zg_988 (zl_cons zg_987 (zl_cons zg_986 (zl_cons zg_1024 (zl_cons zg_831 (zl_cons zg_830 (zl_cons zg_829 (zl_cons zg_828 zl_nil))))))))))))))))))))))))
theorem gl_wsX7_close_r3 : GoodIn lw_tbl wsX7_close_r3 := (zl_cons zg_827 (zl_cons zg_826 (zl_cons zg_825 zl_nil)))
theorem gl_wsX7_close : GoodIn lw_tbl wsX7_close := (zl_cons zg_1017 (goodIn_app (goodIn_app (goodIn_app (goodIn_app gl_wsX7_close_r1 (goodIn_app gl_wsX7_close_r2 gl_wsX7_close_r3)) gl_wsX70) gl_wsX00) gl_wsX60))
theorem zg_1026 : (Cond.selects RX7 yX7_close yX7_close) ∈ lw_tbl ∧ ((((Cond.selects RX7 yX7_close yX7_close : Cond)).onTables && ((Cond.selects RX7 yX7_close yX7_close : Cond)).keeps) = true ∨ ∃ ty, (Cond.selects RX7 yX7_close yX7_close) = .arrayClass ty) := ⟨zt_3 (List.mem_of_getElem? (i := 72) rfl), good_of_word rfl⟩
theorem zg_1027 : (Cond.instanceMethod yX7_close) ∈ lw_tbl ∧ ((((Cond.instanceMethod yX7_close : Cond)).onTables && ((Cond.instanceMethod yX7_close : Cond)).keeps) = true ∨ ∃ ty, (Cond.instanceMethod yX7_close) = .arrayClass ty) := ⟨zt_3 (List.mem_of_getElem? (i := 71) rfl), good_of_word rfl⟩
theorem zg_1028 : (Cond.methodLink RL 139 yX7_close) ∈ lw_tbl ∧ ((((Cond.methodLink RL 139 yX7_close : Cond)).onTables && ((Cond.methodLink RL 139 yX7_close : Cond)).keeps) = true ∨ ∃ ty, (Cond.methodLink RL 139 yX7_close) = .arrayClass ty) := ⟨zt_3 (List.mem_of_getElem? (i := 70) rfl), good_of_word rfl⟩
theorem gq_139 : GoodIn lw_tbl (wsV RL 139 RX7 yX7_close wsX7_close) := goodIn_app (zl_cons zg_1028 (zl_cons zg_1027 (zl_cons zg_1026 (zl_cons zg_21 zl_nil)))) gl_wsX7_close
theorem zg_1029 : (Cond.code yX8_close cX8_close 1 (some .int)) ∈ lw_tbl ∧ ((((Cond.code yX8_close cX8_close 1 (some .int) : Cond)).onTables && ((Cond.code yX8_close cX8_close 1 (some .int) : Cond)).keeps) = true ∨ ∃ ty, (Cond.code yX8_close cX8_close 1 (some .int)) = .arrayClass ty) := ⟨zt_5 (List.mem_of_getElem? (i := 115) rfl), good_of_word rfl⟩
theorem zg_1030 : (Cond.code yX8_closes cX8_closes 1 none) ∈ lw_tbl ∧ ((((Cond.code yX8_closes cX8_closes 1 none : Cond)).onTables && ((Cond.code yX8_closes cX8_closes 1 none : Cond)).keeps) = true ∨ ∃ ty, (Cond.code yX8_closes cX8_closes 1 none) = .arrayClass ty) := ⟨zt_5 (List.mem_of_getElem? (i := 119) rfl), good_of_word rfl⟩
theorem zg_1031 : (Cond.selects RX8 yX8_closes yX8_closes) ∈ lw_tbl ∧ ((((Cond.selects RX8 yX8_closes yX8_closes : Cond)).onTables && ((Cond.selects RX8 yX8_closes yX8_closes : Cond)).keeps) = true ∨ ∃ ty, (Cond.selects RX8 yX8_closes yX8_closes) = .arrayClass ty) := ⟨zp_4 11 (by decide +kernel), good_of_word rfl⟩
theorem zg_1032 : (Cond.instanceMethod yX8_closes) ∈ lw_tbl ∧ ((((Cond.instanceMethod yX8_closes : Cond)).onTables && ((Cond.instanceMethod yX8_closes : Cond)).keeps) = true ∨ ∃ ty, (Cond.instanceMethod yX8_closes) = .arrayClass ty) := ⟨zt_5 (List.mem_of_getElem? (i := 118) rfl), good_of_word rfl⟩
theorem zg_1033 : (Cond.methodLink RX8 279 yX8_closes) ∈ lw_tbl ∧ ((((Cond.methodLink RX8 279 yX8_closes : Cond)).onTables && ((Cond.methodLink RX8 279 yX8_closes : Cond)).keeps) = true ∨ ∃ ty, (Cond.methodLink RX8 279 yX8_closes) = .arrayClass ty) := ⟨zt_5 (List.mem_of_getElem? (i := 116) rfl), good_of_word rfl⟩
theorem gl_wsX8_close_r1 : GoodIn lw_tbl wsX8_close_r1 := (zl_cons zg_280 (zl_cons zg_307 (zl_cons zg_47 (zl_cons zg_46 (zl_cons zg_45 (zl_cons zg_49 (zl_cons zg_44 (zl_cons zg_43 (zl_cons zg_1033 (zl_cons zg_1032 (zl_cons zg_1031 (zl_cons zg_1030 (zl_cons zg_312 (zl_cons zg_305 (zl_cons zg_368 (zl_cons zg_872 (zl_cons zg_871 (zl_cons zg_870 (zl_cons zg_869 (zl_cons zg_306 (zl_cons zg_902 (zl_cons zg_901 (zl_cons zg_900 (zl_cons zg_899 zl_nil))))))))))))))))))))))))
theorem gl_wsX8_close_r2 : GoodIn lw_tbl wsX8_close_r2 := (zl_cons zg_1013 (zl_cons zg_1012 (zl_cons zg_1011 (zl_cons zg_1010 (zl_cons zg_556 (zl_cons zg_1009 zl_nil))))))
theorem gl_wsX8_close : GoodIn lw_tbl wsX8_close := (zl_cons zg_1029 (goodIn_app (goodIn_app gl_wsX8_close_r1 gl_wsX8_close_r2) gl_wsX80))
theorem zg_1034 : (Cond.selects RX8 yX8_close yX8_close) ∈ lw_tbl ∧ ((((Cond.selects RX8 yX8_close yX8_close : Cond)).onTables && ((Cond.selects RX8 yX8_close yX8_close : Cond)).keeps) = true ∨ ∃ ty, (Cond.selects RX8 yX8_close yX8_close) = .arrayClass ty) := ⟨zt_5 (List.mem_of_getElem? (i := 114) rfl), good_of_word rfl⟩
theorem zg_1035 : (Cond.instanceMethod yX8_close) ∈ lw_tbl ∧ ((((Cond.instanceMethod yX8_close : Cond)).onTables && ((Cond.instanceMethod yX8_close : Cond)).keeps) = true ∨ ∃ ty, (Cond.instanceMethod yX8_close) = .arrayClass ty) := ⟨zt_5 (List.mem_of_getElem? (i := 113) rfl), good_of_word rfl⟩
theorem zg_1036 : (Cond.methodLink RL 142 yX8_close) ∈ lw_tbl ∧ ((((Cond.methodLink RL 142 yX8_close : Cond)).onTables && ((Cond.methodLink RL 142 yX8_close : Cond)).keeps) = true ∨ ∃ ty, (Cond.methodLink RL 142 yX8_close) = .arrayClass ty) := ⟨zt_5 (List.mem_of_getElem? (i := 112) rfl), good_of_word rfl⟩
theorem gq_142 : GoodIn lw_tbl (wsV RL 142 RX8 yX8_close wsX8_close) := goodIn_app (zl_cons zg_1036 (zl_cons zg_1035 (zl_cons zg_1034 (zl_cons zg_49 zl_nil)))) gl_wsX8_close
theorem zg_1037 : (Cond.code yX7_winter cX7_winter 4 (some .int)) ∈ lw_tbl ∧ ((((Cond.code yX7_winter cX7_winter 4 (some .int) : Cond)).onTables && ((Cond.code yX7_winter cX7_winter 4 (some .int) : Cond)).keeps) = true ∨ ∃ ty, (Cond.code yX7_winter cX7_winter 4 (some .int)) = .arrayClass ty) := ⟨zt_3 (List.mem_of_getElem? (i := 83) rfl), good_of_word rfl⟩
theorem gl_wsX7_winter_r1 : GoodIn lw_tbl wsX7_winter_r1 := (zl_cons zg_636 (zl_cons zg_150 (zl_cons zg_182 (zl_cons zg_18 (zl_cons zg_17 (zl_cons zg_21 (zl_cons zg_16 (zl_cons zg_15 (zl_cons zg_14 (zl_cons zg_13 (zl_cons zg_12 (zl_cons zg_11 (zl_cons zg_629 (zl_cons zg_628 (zl_cons zg_627 (zl_cons zg_626 (zl_cons zg_625 (zl_cons zg_624 (zl_cons zg_649 (zl_cons zg_648 (zl_cons zg_647 (zl_cons zg_646 (zl_cons zg_645 (zl_cons zg_644 zl_nil))))))))))))))))))))))))
theorem zg_1038 : (Cond.methodLink RX7 278 yX0_dayInTruth) ∈ lw_tbl ∧ ((((Cond.methodLink RX7 278 yX0_dayInTruth : Cond)).onTables && ((Cond.methodLink RX7 278 yX0_dayInTruth : Cond)).keeps) = true ∨ ∃ ty, (Cond.methodLink RX7 278 yX0_dayInTruth) = .arrayClass ty) := ⟨zt_3 (List.mem_of_getElem? (i := 84) rfl), good_of_word rfl⟩
theorem gl_wsX7_winter_r2 : GoodIn lw_tbl wsX7_winter_r2 := (zl_cons zg_643 (zl_cons zg_186 (zl_cons zg_189 (zl_cons zg_185 (zl_cons zg_642 (zl_cons zg_641 (zl_cons zg_640 (zl_cons zg_122 (zl_cons zg_121 (zl_cons zg_120 (zl_cons zg_639 (zl_cons zg_638 (zl_cons zg_637 (zl_cons zg_148 (zl_cons zg_147 (zl_cons zg_146 (zl_cons zg_145 (zl_cons zg_144 (zl_cons zg_143 (zl_cons zg_666 (zl_cons zg_665 (zl_cons zg_26 (zl_cons zg_664 (zl_cons zg_1038 zl_nil))))))))))))))))))))))))
theorem zg_1039 : (Cond.methodLink RX0 115 yX0_closeInTruth) ∈ lw_tbl ∧ ((((Cond.methodLink RX0 115 yX0_closeInTruth : Cond)).onTables && ((Cond.methodLink RX0 115 yX0_closeInTruth : Cond)).keeps) = true ∨ ∃ ty, (Cond.methodLink RX0 115 yX0_closeInTruth) = .arrayClass ty) := ⟨zt_3 (List.mem_of_getElem? (i := 88) rfl), good_of_word rfl⟩
theorem zg_1040 : (Cond.code yX0_dayInTruth cX0_dayInTruth 3 (some .boolean)) ∈ lw_tbl ∧ ((((Cond.code yX0_dayInTruth cX0_dayInTruth 3 (some .boolean) : Cond)).onTables && ((Cond.code yX0_dayInTruth cX0_dayInTruth 3 (some .boolean) : Cond)).keeps) = true ∨ ∃ ty, (Cond.code yX0_dayInTruth cX0_dayInTruth 3 (some .boolean)) = .arrayClass ty) := ⟨zt_3 (List.mem_of_getElem? (i := 87) rfl), good_of_word rfl⟩
theorem zg_1041 : (Cond.selects RX0 yX0_dayInTruth yX0_dayInTruth) ∈ lw_tbl ∧ ((((Cond.selects RX0 yX0_dayInTruth yX0_dayInTruth : Cond)).onTables && ((Cond.selects RX0 yX0_dayInTruth yX0_dayInTruth : Cond)).keeps) = true ∨ ∃ ty, (Cond.selects RX0 yX0_dayInTruth yX0_dayInTruth) = .arrayClass ty) := ⟨zt_3 (List.mem_of_getElem? (i := 86) rfl), good_of_word rfl⟩
theorem zg_1042 : (Cond.instanceMethod yX0_dayInTruth) ∈ lw_tbl ∧ ((((Cond.instanceMethod yX0_dayInTruth : Cond)).onTables && ((Cond.instanceMethod yX0_dayInTruth : Cond)).keeps) = true ∨ ∃ ty, (Cond.instanceMethod yX0_dayInTruth) = .arrayClass ty) := ⟨zt_3 (List.mem_of_getElem? (i := 85) rfl), good_of_word rfl⟩
theorem gl_wsX7_winter_r3 : GoodIn lw_tbl wsX7_winter_r3 := (zl_cons zg_1042 (zl_cons zg_1041 (zl_cons zg_1040 (zl_cons zg_348 (zl_cons zg_361 (zl_cons zg_266 (zl_cons zg_265 (zl_cons zg_347 (zl_cons zg_1039 (zl_cons zg_1021 (zl_cons zg_1020 (zl_cons zg_1019 (zl_cons zg_1018 (zl_cons zg_362 (zl_cons zg_1025 (zl_cons zg_889 (zl_cons zg_888 (zl_cons zg_290 (zl_cons zg_887 (zl_cons zg_286 (zl_cons zg_285 (zl_cons zg_886 (zl_cons zg_824 (zl_cons zg_319 zl_nil))))))))))))))))))))))))
theorem zg_1043 : (Cond.methodLink RX0 122 yX5_next) ∈ lw_tbl ∧ ((((Cond.methodLink RX0 122 yX5_next : Cond)).onTables && ((Cond.methodLink RX0 122 yX5_next : Cond)).keeps) = true ∨ ∃ ty, (Cond.methodLink RX0 122 yX5_next) = .arrayClass ty) := ⟨zt_3 (List.mem_of_getElem? (i := 93) rfl), good_of_word rfl⟩
theorem zg_1044 : (Cond.code yX0_pullFreeInTruth cX0_pullFreeInTruth 4 none) ∈ lw_tbl ∧ ((((Cond.code yX0_pullFreeInTruth cX0_pullFreeInTruth 4 none : Cond)).onTables && ((Cond.code yX0_pullFreeInTruth cX0_pullFreeInTruth 4 none : Cond)).keeps) = true ∨ ∃ ty, (Cond.code yX0_pullFreeInTruth cX0_pullFreeInTruth 4 none) = .arrayClass ty) := ⟨zt_3 (List.mem_of_getElem? (i := 92) rfl), good_of_word rfl⟩
theorem zg_1045 : (Cond.selects RX0 yX0_pullFreeInTruth yX0_pullFreeInTruth) ∈ lw_tbl ∧ ((((Cond.selects RX0 yX0_pullFreeInTruth yX0_pullFreeInTruth : Cond)).onTables && ((Cond.selects RX0 yX0_pullFreeInTruth yX0_pullFreeInTruth : Cond)).keeps) = true ∨ ∃ ty, (Cond.selects RX0 yX0_pullFreeInTruth yX0_pullFreeInTruth) = .arrayClass ty) := ⟨zt_3 (List.mem_of_getElem? (i := 91) rfl), good_of_word rfl⟩
theorem zg_1046 : (Cond.instanceMethod yX0_pullFreeInTruth) ∈ lw_tbl ∧ ((((Cond.instanceMethod yX0_pullFreeInTruth : Cond)).onTables && ((Cond.instanceMethod yX0_pullFreeInTruth : Cond)).keeps) = true ∨ ∃ ty, (Cond.instanceMethod yX0_pullFreeInTruth) = .arrayClass ty) := ⟨zt_3 (List.mem_of_getElem? (i := 90) rfl), good_of_word rfl⟩
theorem zg_1047 : (Cond.methodLink RX0 118 yX0_pullFreeInTruth) ∈ lw_tbl ∧ ((((Cond.methodLink RX0 118 yX0_pullFreeInTruth : Cond)).onTables && ((Cond.methodLink RX0 118 yX0_pullFreeInTruth : Cond)).keeps) = true ∨ ∃ ty, (Cond.methodLink RX0 118 yX0_pullFreeInTruth) = .arrayClass ty) := ⟨zt_3 (List.mem_of_getElem? (i := 89) rfl), good_of_word rfl⟩
theorem gl_wsX7_winter_r4 : GoodIn lw_tbl wsX7_winter_r4 := (zl_cons zg_318 (zl_cons zg_317 (zl_cons zg_288 (zl_cons zg_991 (zl_cons zg_990 (zl_cons zg_989 (zl_cons zg_988 (zl_cons zg_987 (zl_cons zg_986 (zl_cons zg_1024 (zl_cons zg_831 (zl_cons zg_830 (zl_cons zg_829 (zl_cons zg_828 (zl_cons zg_827 (zl_cons zg_826 (zl_cons zg_825 (zl_cons zg_1047 (zl_cons zg_1046 (zl_cons zg_1045 (zl_cons zg_1044 (zl_cons zg_1043 (zl_cons zg_662 (zl_cons zg_661 zl_nil))))))))))))))))))))))))
theorem gl_wsX7_winter_r5 : GoodIn lw_tbl wsX7_winter_r5 := (zl_cons zg_660 (zl_cons zg_659 (zl_cons zg_658 (zl_cons zg_657 (zl_cons zg_656 (zl_cons zg_655 (zl_cons zg_263 (zl_cons zg_262 (zl_cons zg_203 (zl_cons zg_261 (zl_cons zg_243 (zl_cons zg_654 (zl_cons zg_653 (zl_cons zg_652 (zl_cons zg_651 (zl_cons zg_650 (zl_cons zg_194 (zl_cons zg_193 (zl_cons zg_192 (zl_cons zg_201 (zl_cons zg_191 (zl_cons zg_190 (zl_cons zg_188 (zl_cons zg_187 zl_nil))))))))))))))))))))))))
theorem zg_1048 : (Cond.methodLink RX0 128 yX0_pullInTruth) ∈ lw_tbl ∧ ((((Cond.methodLink RX0 128 yX0_pullInTruth : Cond)).onTables && ((Cond.methodLink RX0 128 yX0_pullInTruth : Cond)).keeps) = true ∨ ∃ ty, (Cond.methodLink RX0 128 yX0_pullInTruth) = .arrayClass ty) := ⟨zt_3 (List.mem_of_getElem? (i := 94) rfl), good_of_word rfl⟩
theorem gl_wsX7_winter_r6 : GoodIn lw_tbl wsX7_winter_r6 := (zl_cons zg_184 (zl_cons zg_209 (zl_cons zg_208 (zl_cons zg_207 (zl_cons zg_196 (zl_cons zg_670 (zl_cons zg_610 (zl_cons zg_609 (zl_cons zg_608 (zl_cons zg_607 (zl_cons zg_199 (zl_cons zg_198 (zl_cons zg_197 (zl_cons zg_669 (zl_cons zg_668 (zl_cons zg_667 (zl_cons zg_673 (zl_cons zg_605 (zl_cons zg_604 (zl_cons zg_603 (zl_cons zg_672 (zl_cons zg_671 (zl_cons zg_949 (zl_cons zg_1048 zl_nil))))))))))))))))))))))))
theorem gl_wsX7_winter_r7 : GoodIn lw_tbl wsX7_winter_r7 := (zl_cons zg_997 (zl_cons zg_996 (zl_cons zg_995 (zl_cons zg_363 (zl_cons zg_994 (zl_cons zg_993 (zl_cons zg_992 (zl_cons zg_985 (zl_cons zg_1000 (zl_cons zg_999 zl_nil))))))))))
theorem gl_wsX7_winter : GoodIn lw_tbl wsX7_winter := (zl_cons zg_1037 (goodIn_app (goodIn_app (goodIn_app (goodIn_app (goodIn_app (goodIn_app gl_wsX7_winter_r1 (goodIn_app gl_wsX7_winter_r2 (goodIn_app gl_wsX7_winter_r3 (goodIn_app gl_wsX7_winter_r4 (goodIn_app gl_wsX7_winter_r5 (goodIn_app gl_wsX7_winter_r6 gl_wsX7_winter_r7)))))) gl_wsX70) gl_wsX00) gl_wsX50) gl_wsX20) gl_wsX60))
theorem zg_1049 : (Cond.selects RX7 yX7_winter yX7_winter) ∈ lw_tbl ∧ ((((Cond.selects RX7 yX7_winter yX7_winter : Cond)).onTables && ((Cond.selects RX7 yX7_winter yX7_winter : Cond)).keeps) = true ∨ ∃ ty, (Cond.selects RX7 yX7_winter yX7_winter) = .arrayClass ty) := ⟨zt_3 (List.mem_of_getElem? (i := 82) rfl), good_of_word rfl⟩
theorem zg_1050 : (Cond.instanceMethod yX7_winter) ∈ lw_tbl ∧ ((((Cond.instanceMethod yX7_winter : Cond)).onTables && ((Cond.instanceMethod yX7_winter : Cond)).keeps) = true ∨ ∃ ty, (Cond.instanceMethod yX7_winter) = .arrayClass ty) := ⟨zt_3 (List.mem_of_getElem? (i := 81) rfl), good_of_word rfl⟩
theorem zg_1051 : (Cond.methodLink RL 143 yX7_winter) ∈ lw_tbl ∧ ((((Cond.methodLink RL 143 yX7_winter : Cond)).onTables && ((Cond.methodLink RL 143 yX7_winter : Cond)).keeps) = true ∨ ∃ ty, (Cond.methodLink RL 143 yX7_winter) = .arrayClass ty) := ⟨zt_3 (List.mem_of_getElem? (i := 80) rfl), good_of_word rfl⟩
theorem gq_143 : GoodIn lw_tbl (wsV RL 143 RX7 yX7_winter wsX7_winter) := goodIn_app (zl_cons zg_1051 (zl_cons zg_1050 (zl_cons zg_1049 (zl_cons zg_21 zl_nil)))) gl_wsX7_winter
theorem zg_1052 : (Cond.code yX8_winter cX8_winter 4 (some .int)) ∈ lw_tbl ∧ ((((Cond.code yX8_winter cX8_winter 4 (some .int) : Cond)).onTables && ((Cond.code yX8_winter cX8_winter 4 (some .int) : Cond)).keeps) = true ∨ ∃ ty, (Cond.code yX8_winter cX8_winter 4 (some .int)) = .arrayClass ty) := ⟨zt_5 (List.mem_of_getElem? (i := 123) rfl), good_of_word rfl⟩
theorem zg_1053 : (Cond.code yX8_dayIn cX8_dayIn 3 (some .boolean)) ∈ lw_tbl ∧ ((((Cond.code yX8_dayIn cX8_dayIn 3 (some .boolean) : Cond)).onTables && ((Cond.code yX8_dayIn cX8_dayIn 3 (some .boolean) : Cond)).keeps) = true ∨ ∃ ty, (Cond.code yX8_dayIn cX8_dayIn 3 (some .boolean)) = .arrayClass ty) := ⟨zt_5 (List.mem_of_getElem? (i := 127) rfl), good_of_word rfl⟩
theorem zg_1054 : (Cond.selects RX8 yX8_dayIn yX8_dayIn) ∈ lw_tbl ∧ ((((Cond.selects RX8 yX8_dayIn yX8_dayIn : Cond)).onTables && ((Cond.selects RX8 yX8_dayIn yX8_dayIn : Cond)).keeps) = true ∨ ∃ ty, (Cond.selects RX8 yX8_dayIn yX8_dayIn) = .arrayClass ty) := ⟨zp_4 12 (by decide +kernel), good_of_word rfl⟩
theorem zg_1055 : (Cond.instanceMethod yX8_dayIn) ∈ lw_tbl ∧ ((((Cond.instanceMethod yX8_dayIn : Cond)).onTables && ((Cond.instanceMethod yX8_dayIn : Cond)).keeps) = true ∨ ∃ ty, (Cond.instanceMethod yX8_dayIn) = .arrayClass ty) := ⟨zt_5 (List.mem_of_getElem? (i := 126) rfl), good_of_word rfl⟩
theorem zg_1056 : (Cond.methodLink RX8 282 yX8_dayIn) ∈ lw_tbl ∧ ((((Cond.methodLink RX8 282 yX8_dayIn : Cond)).onTables && ((Cond.methodLink RX8 282 yX8_dayIn : Cond)).keeps) = true ∨ ∃ ty, (Cond.methodLink RX8 282 yX8_dayIn) = .arrayClass ty) := ⟨zt_5 (List.mem_of_getElem? (i := 124) rfl), good_of_word rfl⟩
theorem gl_wsX8_winter_r1 : GoodIn lw_tbl wsX8_winter_r1 := (zl_cons zg_47 (zl_cons zg_46 (zl_cons zg_45 (zl_cons zg_49 (zl_cons zg_44 (zl_cons zg_43 (zl_cons zg_1056 (zl_cons zg_1055 (zl_cons zg_1054 (zl_cons zg_1053 (zl_cons zg_307 (zl_cons zg_280 (zl_cons zg_279 (zl_cons zg_312 (zl_cons zg_1033 (zl_cons zg_1032 (zl_cons zg_1031 (zl_cons zg_1030 (zl_cons zg_305 (zl_cons zg_368 (zl_cons zg_872 (zl_cons zg_871 (zl_cons zg_870 (zl_cons zg_869 zl_nil))))))))))))))))))))))))
theorem gl_wsX8_winter_r2 : GoodIn lw_tbl wsX8_winter_r2 := (zl_cons zg_306 (zl_cons zg_902 (zl_cons zg_901 (zl_cons zg_900 (zl_cons zg_899 (zl_cons zg_1013 (zl_cons zg_1012 (zl_cons zg_1011 (zl_cons zg_1010 (zl_cons zg_556 (zl_cons zg_1009 (zl_cons zg_690 (zl_cons zg_689 (zl_cons zg_688 (zl_cons zg_687 (zl_cons zg_164 (zl_cons zg_278 (zl_cons zg_277 (zl_cons zg_276 (zl_cons zg_275 (zl_cons zg_227 (zl_cons zg_686 (zl_cons zg_685 (zl_cons zg_707 zl_nil))))))))))))))))))))))))
theorem gl_wsX8_winter_r3 : GoodIn lw_tbl wsX8_winter_r3 := (zl_cons zg_706 (zl_cons zg_221 (zl_cons zg_220 (zl_cons zg_219 (zl_cons zg_218 (zl_cons zg_228 (zl_cons zg_222 (zl_cons zg_217 (zl_cons zg_619 (zl_cons zg_618 (zl_cons zg_617 (zl_cons zg_616 (zl_cons zg_226 (zl_cons zg_225 (zl_cons zg_224 (zl_cons zg_223 (zl_cons zg_705 (zl_cons zg_704 (zl_cons zg_703 (zl_cons zg_702 (zl_cons zg_701 (zl_cons zg_700 (zl_cons zg_699 (zl_cons zg_708 zl_nil))))))))))))))))))))))))
theorem gl_wsX8_winter_r4 : GoodIn lw_tbl wsX8_winter_r4 := (zl_cons zg_1008 (zl_cons zg_1007 (zl_cons zg_1006 (zl_cons zg_1005 (zl_cons zg_557 zl_nil)))))
theorem gl_wsX8_winter : GoodIn lw_tbl wsX8_winter := (zl_cons zg_1052 (goodIn_app (goodIn_app gl_wsX8_winter_r1 (goodIn_app gl_wsX8_winter_r2 (goodIn_app gl_wsX8_winter_r3 gl_wsX8_winter_r4))) gl_wsX80))
theorem zg_1057 : (Cond.selects RX8 yX8_winter yX8_winter) ∈ lw_tbl ∧ ((((Cond.selects RX8 yX8_winter yX8_winter : Cond)).onTables && ((Cond.selects RX8 yX8_winter yX8_winter : Cond)).keeps) = true ∨ ∃ ty, (Cond.selects RX8 yX8_winter yX8_winter) = .arrayClass ty) := ⟨zt_5 (List.mem_of_getElem? (i := 122) rfl), good_of_word rfl⟩
theorem zg_1058 : (Cond.instanceMethod yX8_winter) ∈ lw_tbl ∧ ((((Cond.instanceMethod yX8_winter : Cond)).onTables && ((Cond.instanceMethod yX8_winter : Cond)).keeps) = true ∨ ∃ ty, (Cond.instanceMethod yX8_winter) = .arrayClass ty) := ⟨zt_5 (List.mem_of_getElem? (i := 121) rfl), good_of_word rfl⟩
theorem zg_1059 : (Cond.methodLink RL 146 yX8_winter) ∈ lw_tbl ∧ ((((Cond.methodLink RL 146 yX8_winter : Cond)).onTables && ((Cond.methodLink RL 146 yX8_winter : Cond)).keeps) = true ∨ ∃ ty, (Cond.methodLink RL 146 yX8_winter) = .arrayClass ty) := ⟨zt_5 (List.mem_of_getElem? (i := 120) rfl), good_of_word rfl⟩
theorem gq_146 : GoodIn lw_tbl (wsV RL 146 RX8 yX8_winter wsX8_winter) := goodIn_app (zl_cons zg_1059 (zl_cons zg_1058 (zl_cons zg_1057 (zl_cons zg_49 zl_nil)))) gl_wsX8_winter
theorem zg_1060 : (Cond.code yX7_stitch cX7_stitch 2 (some .int)) ∈ lw_tbl ∧ ((((Cond.code yX7_stitch cX7_stitch 2 (some .int) : Cond)).onTables && ((Cond.code yX7_stitch cX7_stitch 2 (some .int) : Cond)).keeps) = true ∨ ∃ ty, (Cond.code yX7_stitch cX7_stitch 2 (some .int)) = .arrayClass ty) := ⟨zt_3 (List.mem_of_getElem? (i := 98) rfl), good_of_word rfl⟩
theorem zg_1061 : (Cond.code yX6_takeSlack cX6_takeSlack 4 (some .int)) ∈ lw_tbl ∧ ((((Cond.code yX6_takeSlack cX6_takeSlack 4 (some .int) : Cond)).onTables && ((Cond.code yX6_takeSlack cX6_takeSlack 4 (some .int) : Cond)).keeps) = true ∨ ∃ ty, (Cond.code yX6_takeSlack cX6_takeSlack 4 (some .int)) = .arrayClass ty) := ⟨zt_3 (List.mem_of_getElem? (i := 102) rfl), good_of_word rfl⟩
theorem zg_1062 : (Cond.selects RX6 yX6_takeSlack yX6_takeSlack) ∈ lw_tbl ∧ ((((Cond.selects RX6 yX6_takeSlack yX6_takeSlack : Cond)).onTables && ((Cond.selects RX6 yX6_takeSlack yX6_takeSlack : Cond)).keeps) = true ∨ ∃ ty, (Cond.selects RX6 yX6_takeSlack yX6_takeSlack) = .arrayClass ty) := ⟨zt_3 (List.mem_of_getElem? (i := 101) rfl), good_of_word rfl⟩
theorem zg_1063 : (Cond.instanceMethod yX6_takeSlack) ∈ lw_tbl ∧ ((((Cond.instanceMethod yX6_takeSlack : Cond)).onTables && ((Cond.instanceMethod yX6_takeSlack : Cond)).keeps) = true ∨ ∃ ty, (Cond.instanceMethod yX6_takeSlack) = .arrayClass ty) := ⟨zt_3 (List.mem_of_getElem? (i := 100) rfl), good_of_word rfl⟩
theorem zg_1064 : (Cond.methodLink RX7 282 yX6_takeSlack) ∈ lw_tbl ∧ ((((Cond.methodLink RX7 282 yX6_takeSlack : Cond)).onTables && ((Cond.methodLink RX7 282 yX6_takeSlack : Cond)).keeps) = true ∨ ∃ ty, (Cond.methodLink RX7 282 yX6_takeSlack) = .arrayClass ty) := ⟨zt_3 (List.mem_of_getElem? (i := 99) rfl), good_of_word rfl⟩
theorem gl_wsX7_stitch : GoodIn lw_tbl wsX7_stitch := (zl_cons zg_1060 (goodIn_app (goodIn_app (goodIn_app (zl_cons zg_150 (zl_cons zg_295 (zl_cons zg_320 (zl_cons zg_319 (zl_cons zg_318 (zl_cons zg_290 (zl_cons zg_317 (zl_cons zg_288 (zl_cons zg_15 (zl_cons zg_14 (zl_cons zg_13 (zl_cons zg_21 (zl_cons zg_12 (zl_cons zg_11 (zl_cons zg_18 (zl_cons zg_17 (zl_cons zg_16 (zl_cons zg_1064 (zl_cons zg_1063 (zl_cons zg_1062 (zl_cons zg_1061 (zl_cons zg_285 (zl_cons zg_824 zl_nil))))))))))))))))))))))) gl_wsX70) gl_wsX00) gl_wsX60))
theorem zg_1065 : (Cond.selects RX7 yX7_stitch yX7_stitch) ∈ lw_tbl ∧ ((((Cond.selects RX7 yX7_stitch yX7_stitch : Cond)).onTables && ((Cond.selects RX7 yX7_stitch yX7_stitch : Cond)).keeps) = true ∨ ∃ ty, (Cond.selects RX7 yX7_stitch yX7_stitch) = .arrayClass ty) := ⟨zt_3 (List.mem_of_getElem? (i := 97) rfl), good_of_word rfl⟩
theorem zg_1066 : (Cond.instanceMethod yX7_stitch) ∈ lw_tbl ∧ ((((Cond.instanceMethod yX7_stitch : Cond)).onTables && ((Cond.instanceMethod yX7_stitch : Cond)).keeps) = true ∨ ∃ ty, (Cond.instanceMethod yX7_stitch) = .arrayClass ty) := ⟨zt_3 (List.mem_of_getElem? (i := 96) rfl), good_of_word rfl⟩
theorem zg_1067 : (Cond.methodLink RL 147 yX7_stitch) ∈ lw_tbl ∧ ((((Cond.methodLink RL 147 yX7_stitch : Cond)).onTables && ((Cond.methodLink RL 147 yX7_stitch : Cond)).keeps) = true ∨ ∃ ty, (Cond.methodLink RL 147 yX7_stitch) = .arrayClass ty) := ⟨zt_3 (List.mem_of_getElem? (i := 95) rfl), good_of_word rfl⟩
theorem gq_147 : GoodIn lw_tbl (wsV RL 147 RX7 yX7_stitch wsX7_stitch) := goodIn_app (zl_cons zg_1067 (zl_cons zg_1066 (zl_cons zg_1065 (zl_cons zg_21 zl_nil)))) gl_wsX7_stitch
theorem zg_1068 : (Cond.code yX8_stitch cX8_stitch 4 (some .int)) ∈ lw_tbl ∧ ((((Cond.code yX8_stitch cX8_stitch 4 (some .int) : Cond)).onTables && ((Cond.code yX8_stitch cX8_stitch 4 (some .int) : Cond)).keeps) = true ∨ ∃ ty, (Cond.code yX8_stitch cX8_stitch 4 (some .int)) = .arrayClass ty) := ⟨zt_5 (List.mem_of_getElem? (i := 131) rfl), good_of_word rfl⟩
theorem gl_wsX8_stitch : GoodIn lw_tbl wsX8_stitch := (zl_cons zg_1068 (goodIn_app (zl_cons zg_305 (zl_cons zg_329 (zl_cons zg_328 (zl_cons zg_327 (zl_cons zg_49 (zl_cons zg_326 (zl_cons zg_312 (zl_cons zg_47 (zl_cons zg_46 (zl_cons zg_45 (zl_cons zg_44 (zl_cons zg_43 zl_nil)))))))))))) gl_wsX80))
theorem zg_1069 : (Cond.selects RX8 yX8_stitch yX8_stitch) ∈ lw_tbl ∧ ((((Cond.selects RX8 yX8_stitch yX8_stitch : Cond)).onTables && ((Cond.selects RX8 yX8_stitch yX8_stitch : Cond)).keeps) = true ∨ ∃ ty, (Cond.selects RX8 yX8_stitch yX8_stitch) = .arrayClass ty) := ⟨zt_5 (List.mem_of_getElem? (i := 130) rfl), good_of_word rfl⟩
theorem zg_1070 : (Cond.instanceMethod yX8_stitch) ∈ lw_tbl ∧ ((((Cond.instanceMethod yX8_stitch : Cond)).onTables && ((Cond.instanceMethod yX8_stitch : Cond)).keeps) = true ∨ ∃ ty, (Cond.instanceMethod yX8_stitch) = .arrayClass ty) := ⟨zt_5 (List.mem_of_getElem? (i := 129) rfl), good_of_word rfl⟩
theorem zg_1071 : (Cond.methodLink RL 150 yX8_stitch) ∈ lw_tbl ∧ ((((Cond.methodLink RL 150 yX8_stitch : Cond)).onTables && ((Cond.methodLink RL 150 yX8_stitch : Cond)).keeps) = true ∨ ∃ ty, (Cond.methodLink RL 150 yX8_stitch) = .arrayClass ty) := ⟨zt_5 (List.mem_of_getElem? (i := 128) rfl), good_of_word rfl⟩
theorem gq_150 : GoodIn lw_tbl (wsV RL 150 RX8 yX8_stitch wsX8_stitch) := goodIn_app (zl_cons zg_1071 (zl_cons zg_1070 (zl_cons zg_1069 (zl_cons zg_49 zl_nil)))) gl_wsX8_stitch
theorem zg_1072 : (Cond.code yX7_seed cX7_seed 3 (some .int)) ∈ lw_tbl ∧ ((((Cond.code yX7_seed cX7_seed 3 (some .int) : Cond)).onTables && ((Cond.code yX7_seed cX7_seed 3 (some .int) : Cond)).keeps) = true ∨ ∃ ty, (Cond.code yX7_seed cX7_seed 3 (some .int)) = .arrayClass ty) := ⟨zt_3 (List.mem_of_getElem? (i := 106) rfl), good_of_word rfl⟩
theorem zg_1073 : (Cond.fieldLink RX7 285 "TheLiningsInIt$Jacket" "seedNow" "I") ∈ lw_tbl ∧ ((((Cond.fieldLink RX7 285 "TheLiningsInIt$Jacket" "seedNow" "I" : Cond)).onTables && ((Cond.fieldLink RX7 285 "TheLiningsInIt$Jacket" "seedNow" "I" : Cond)).keeps) = true ∨ ∃ ty, (Cond.fieldLink RX7 285 "TheLiningsInIt$Jacket" "seedNow" "I") = .arrayClass ty) := ⟨zt_0 (List.mem_of_getElem? (i := 90) rfl), good_of_word rfl⟩
theorem gl_wsX7_seed : GoodIn lw_tbl wsX7_seed := (zl_cons zg_1072 (goodIn_app (goodIn_app (zl_cons zg_150 (zl_cons zg_1073 zl_nil)) gl_wsX70) gl_wsX00))
theorem zg_1074 : (Cond.selects RX7 yX7_seed yX7_seed) ∈ lw_tbl ∧ ((((Cond.selects RX7 yX7_seed yX7_seed : Cond)).onTables && ((Cond.selects RX7 yX7_seed yX7_seed : Cond)).keeps) = true ∨ ∃ ty, (Cond.selects RX7 yX7_seed yX7_seed) = .arrayClass ty) := ⟨zt_3 (List.mem_of_getElem? (i := 105) rfl), good_of_word rfl⟩
theorem zg_1075 : (Cond.instanceMethod yX7_seed) ∈ lw_tbl ∧ ((((Cond.instanceMethod yX7_seed : Cond)).onTables && ((Cond.instanceMethod yX7_seed : Cond)).keeps) = true ∨ ∃ ty, (Cond.instanceMethod yX7_seed) = .arrayClass ty) := ⟨zt_3 (List.mem_of_getElem? (i := 104) rfl), good_of_word rfl⟩
theorem zg_1076 : (Cond.methodLink RL 151 yX7_seed) ∈ lw_tbl ∧ ((((Cond.methodLink RL 151 yX7_seed : Cond)).onTables && ((Cond.methodLink RL 151 yX7_seed : Cond)).keeps) = true ∨ ∃ ty, (Cond.methodLink RL 151 yX7_seed) = .arrayClass ty) := ⟨zt_3 (List.mem_of_getElem? (i := 103) rfl), good_of_word rfl⟩
theorem gq_151 : GoodIn lw_tbl (wsV RL 151 RX7 yX7_seed wsX7_seed) := goodIn_app (zl_cons zg_1076 (zl_cons zg_1075 (zl_cons zg_1074 (zl_cons zg_21 zl_nil)))) gl_wsX7_seed
theorem zg_1077 : (Cond.code yX8_seed cX8_seed 3 (some .int)) ∈ lw_tbl ∧ ((((Cond.code yX8_seed cX8_seed 3 (some .int) : Cond)).onTables && ((Cond.code yX8_seed cX8_seed 3 (some .int) : Cond)).keeps) = true ∨ ∃ ty, (Cond.code yX8_seed cX8_seed 3 (some .int)) = .arrayClass ty) := ⟨zt_5 (List.mem_of_getElem? (i := 135) rfl), good_of_word rfl⟩
theorem gl_wsX8_seed : GoodIn lw_tbl wsX8_seed := (zl_cons zg_1077 (goodIn_app (zl_cons zg_556 zl_nil) gl_wsX80))
theorem zg_1078 : (Cond.selects RX8 yX8_seed yX8_seed) ∈ lw_tbl ∧ ((((Cond.selects RX8 yX8_seed yX8_seed : Cond)).onTables && ((Cond.selects RX8 yX8_seed yX8_seed : Cond)).keeps) = true ∨ ∃ ty, (Cond.selects RX8 yX8_seed yX8_seed) = .arrayClass ty) := ⟨zt_5 (List.mem_of_getElem? (i := 134) rfl), good_of_word rfl⟩
theorem zg_1079 : (Cond.instanceMethod yX8_seed) ∈ lw_tbl ∧ ((((Cond.instanceMethod yX8_seed : Cond)).onTables && ((Cond.instanceMethod yX8_seed : Cond)).keeps) = true ∨ ∃ ty, (Cond.instanceMethod yX8_seed) = .arrayClass ty) := ⟨zt_5 (List.mem_of_getElem? (i := 133) rfl), good_of_word rfl⟩
theorem zg_1080 : (Cond.methodLink RL 154 yX8_seed) ∈ lw_tbl ∧ ((((Cond.methodLink RL 154 yX8_seed : Cond)).onTables && ((Cond.methodLink RL 154 yX8_seed : Cond)).keeps) = true ∨ ∃ ty, (Cond.methodLink RL 154 yX8_seed) = .arrayClass ty) := ⟨zt_5 (List.mem_of_getElem? (i := 132) rfl), good_of_word rfl⟩
theorem gq_154 : GoodIn lw_tbl (wsV RL 154 RX8 yX8_seed wsX8_seed) := goodIn_app (zl_cons zg_1080 (zl_cons zg_1079 (zl_cons zg_1078 (zl_cons zg_49 zl_nil)))) gl_wsX8_seed
theorem zg_1081 : (Cond.code yX7_act cX7_act 5 (some .int)) ∈ lw_tbl ∧ ((((Cond.code yX7_act cX7_act 5 (some .int) : Cond)).onTables && ((Cond.code yX7_act cX7_act 5 (some .int) : Cond)).keeps) = true ∨ ∃ ty, (Cond.code yX7_act cX7_act 5 (some .int)) = .arrayClass ty) := ⟨zt_3 (List.mem_of_getElem? (i := 110) rfl), good_of_word rfl⟩
theorem zg_1082 : (Cond.fieldLink RX1 25 "TheLiningsInIt$Moves" "k" "I") ∈ lw_tbl ∧ ((((Cond.fieldLink RX1 25 "TheLiningsInIt$Moves" "k" "I" : Cond)).onTables && ((Cond.fieldLink RX1 25 "TheLiningsInIt$Moves" "k" "I" : Cond)).keeps) = true ∨ ∃ ty, (Cond.fieldLink RX1 25 "TheLiningsInIt$Moves" "k" "I") = .arrayClass ty) := ⟨zt_0 (List.mem_of_getElem? (i := 182) rfl), good_of_word rfl⟩
theorem zg_1083 : (Cond.fieldLink RX1 31 "TheLiningsInIt$Pull" "a" "I") ∈ lw_tbl ∧ ((((Cond.fieldLink RX1 31 "TheLiningsInIt$Pull" "a" "I" : Cond)).onTables && ((Cond.fieldLink RX1 31 "TheLiningsInIt$Pull" "a" "I" : Cond)).keeps) = true ∨ ∃ ty, (Cond.fieldLink RX1 31 "TheLiningsInIt$Pull" "a" "I") = .arrayClass ty) := ⟨zt_1 (List.mem_of_getElem? (i := 111) rfl), good_of_word rfl⟩
theorem zg_1084 : (Cond.fieldLink RX1 22 "TheLiningsInIt$Moves" "m" "I") ∈ lw_tbl ∧ ((((Cond.fieldLink RX1 22 "TheLiningsInIt$Moves" "m" "I" : Cond)).onTables && ((Cond.fieldLink RX1 22 "TheLiningsInIt$Moves" "m" "I" : Cond)).keeps) = true ∨ ∃ ty, (Cond.fieldLink RX1 22 "TheLiningsInIt$Moves" "m" "I") = .arrayClass ty) := ⟨zt_0 (List.mem_of_getElem? (i := 181) rfl), good_of_word rfl⟩
theorem zg_1085 : (Cond.fieldLink RX1 19 "TheLiningsInIt$Moves" "kind" "I") ∈ lw_tbl ∧ ((((Cond.fieldLink RX1 19 "TheLiningsInIt$Moves" "kind" "I" : Cond)).onTables && ((Cond.fieldLink RX1 19 "TheLiningsInIt$Moves" "kind" "I" : Cond)).keeps) = true ∨ ∃ ty, (Cond.fieldLink RX1 19 "TheLiningsInIt$Moves" "kind" "I") = .arrayClass ty) := ⟨zt_0 (List.mem_of_getElem? (i := 180) rfl), good_of_word rfl⟩
theorem zg_1086 : (Cond.fieldLink RX1 28 "TheLiningsInIt$Pull" "kind" "I") ∈ lw_tbl ∧ ((((Cond.fieldLink RX1 28 "TheLiningsInIt$Pull" "kind" "I" : Cond)).onTables && ((Cond.fieldLink RX1 28 "TheLiningsInIt$Pull" "kind" "I" : Cond)).keeps) = true ∨ ∃ ty, (Cond.fieldLink RX1 28 "TheLiningsInIt$Pull" "kind" "I") = .arrayClass ty) := ⟨zt_1 (List.mem_of_getElem? (i := 106) rfl), good_of_word rfl⟩
theorem zg_1087 : (Cond.code yX1_begin cX1_begin 5 (some .int)) ∈ lw_tbl ∧ ((((Cond.code yX1_begin cX1_begin 5 (some .int) : Cond)).onTables && ((Cond.code yX1_begin cX1_begin 5 (some .int) : Cond)).keeps) = true ∨ ∃ ty, (Cond.code yX1_begin cX1_begin 5 (some .int)) = .arrayClass ty) := ⟨zt_3 (List.mem_of_getElem? (i := 114) rfl), good_of_word rfl⟩
theorem zg_1088 : (Cond.initialized RX1) ∈ lw_tbl ∧ ((((Cond.initialized RX1 : Cond)).onTables && ((Cond.initialized RX1 : Cond)).keeps) = true ∨ ∃ ty, (Cond.initialized RX1) = .arrayClass ty) := ⟨zt_0 (List.mem_of_getElem? (i := 6) rfl), good_of_word rfl⟩
theorem zg_1089 : (Cond.selects RX1 yX1_begin yX1_begin) ∈ lw_tbl ∧ ((((Cond.selects RX1 yX1_begin yX1_begin : Cond)).onTables && ((Cond.selects RX1 yX1_begin yX1_begin : Cond)).keeps) = true ∨ ∃ ty, (Cond.selects RX1 yX1_begin yX1_begin) = .arrayClass ty) := ⟨zt_3 (List.mem_of_getElem? (i := 113) rfl), good_of_word rfl⟩
theorem zg_1090 : (Cond.instanceMethod yX1_begin) ∈ lw_tbl ∧ ((((Cond.instanceMethod yX1_begin : Cond)).onTables && ((Cond.instanceMethod yX1_begin : Cond)).keeps) = true ∨ ∃ ty, (Cond.instanceMethod yX1_begin) = .arrayClass ty) := ⟨zt_3 (List.mem_of_getElem? (i := 112) rfl), good_of_word rfl⟩
theorem zg_1091 : (Cond.methodLink RX7 291 yX1_begin) ∈ lw_tbl ∧ ((((Cond.methodLink RX7 291 yX1_begin : Cond)).onTables && ((Cond.methodLink RX7 291 yX1_begin : Cond)).keeps) = true ∨ ∃ ty, (Cond.methodLink RX7 291 yX1_begin) = .arrayClass ty) := ⟨zt_3 (List.mem_of_getElem? (i := 111) rfl), good_of_word rfl⟩
theorem zg_1092 : (Cond.fieldLink RX7 288 "TheLiningsInIt$Moves" "ran" "I") ∈ lw_tbl ∧ ((((Cond.fieldLink RX7 288 "TheLiningsInIt$Moves" "ran" "I" : Cond)).onTables && ((Cond.fieldLink RX7 288 "TheLiningsInIt$Moves" "ran" "I" : Cond)).keeps) = true ∨ ∃ ty, (Cond.fieldLink RX7 288 "TheLiningsInIt$Moves" "ran" "I") = .arrayClass ty) := ⟨zt_0 (List.mem_of_getElem? (i := 179) rfl), good_of_word rfl⟩
theorem zg_1093 : (Cond.fieldLink RX7 42 "TheLiningsInIt" "moves" "LTheLiningsInIt$Moves;") ∈ lw_tbl ∧ ((((Cond.fieldLink RX7 42 "TheLiningsInIt" "moves" "LTheLiningsInIt$Moves;" : Cond)).onTables && ((Cond.fieldLink RX7 42 "TheLiningsInIt" "moves" "LTheLiningsInIt$Moves;" : Cond)).keeps) = true ∨ ∃ ty, (Cond.fieldLink RX7 42 "TheLiningsInIt" "moves" "LTheLiningsInIt$Moves;") = .arrayClass ty) := ⟨zt_0 (List.mem_of_getElem? (i := 218) rfl), good_of_word rfl⟩
theorem gl_wsX7_act_r1 : GoodIn lw_tbl wsX7_act_r1 := (zl_cons zg_1093 (zl_cons zg_1092 (zl_cons zg_150 (zl_cons zg_149 (zl_cons zg_148 (zl_cons zg_147 (zl_cons zg_146 (zl_cons zg_145 (zl_cons zg_144 (zl_cons zg_143 (zl_cons zg_17 (zl_cons zg_21 (zl_cons zg_16 (zl_cons zg_18 (zl_cons zg_1091 (zl_cons zg_1090 (zl_cons zg_1089 (zl_cons zg_1088 (zl_cons zg_1087 (zl_cons zg_1086 (zl_cons zg_1085 (zl_cons zg_1084 (zl_cons zg_1083 (zl_cons zg_1082 zl_nil))))))))))))))))))))))))
theorem zg_1094 : (Cond.fieldLink RX1 11 "TheLiningsInIt$Moves" "bodies" "[I") ∈ lw_tbl ∧ ((((Cond.fieldLink RX1 11 "TheLiningsInIt$Moves" "bodies" "[I" : Cond)).onTables && ((Cond.fieldLink RX1 11 "TheLiningsInIt$Moves" "bodies" "[I" : Cond)).keeps) = true ∨ ∃ ty, (Cond.fieldLink RX1 11 "TheLiningsInIt$Moves" "bodies" "[I") = .arrayClass ty) := ⟨zt_0 (List.mem_of_getElem? (i := 177) rfl), good_of_word rfl⟩
theorem zg_1095 : (Cond.fieldLink RX1 15 "TheLiningsInIt$Moves" "ran" "I") ∈ lw_tbl ∧ ((((Cond.fieldLink RX1 15 "TheLiningsInIt$Moves" "ran" "I" : Cond)).onTables && ((Cond.fieldLink RX1 15 "TheLiningsInIt$Moves" "ran" "I" : Cond)).keeps) = true ∨ ∃ ty, (Cond.fieldLink RX1 15 "TheLiningsInIt$Moves" "ran" "I") = .arrayClass ty) := ⟨zt_0 (List.mem_of_getElem? (i := 178) rfl), good_of_word rfl⟩
theorem zg_1096 : (Cond.code yX1_note cX1_note 2 none) ∈ lw_tbl ∧ ((((Cond.code yX1_note cX1_note 2 none : Cond)).onTables && ((Cond.code yX1_note cX1_note 2 none : Cond)).keeps) = true ∨ ∃ ty, (Cond.code yX1_note cX1_note 2 none) = .arrayClass ty) := ⟨zt_3 (List.mem_of_getElem? (i := 130) rfl), good_of_word rfl⟩
theorem zg_1097 : (Cond.selects RX1 yX1_note yX1_note) ∈ lw_tbl ∧ ((((Cond.selects RX1 yX1_note yX1_note : Cond)).onTables && ((Cond.selects RX1 yX1_note yX1_note : Cond)).keeps) = true ∨ ∃ ty, (Cond.selects RX1 yX1_note yX1_note) = .arrayClass ty) := ⟨zt_3 (List.mem_of_getElem? (i := 129) rfl), good_of_word rfl⟩
theorem zg_1098 : (Cond.instanceMethod yX1_note) ∈ lw_tbl ∧ ((((Cond.instanceMethod yX1_note : Cond)).onTables && ((Cond.instanceMethod yX1_note : Cond)).keeps) = true ∨ ∃ ty, (Cond.instanceMethod yX1_note) = .arrayClass ty) := ⟨zt_3 (List.mem_of_getElem? (i := 128) rfl), good_of_word rfl⟩
theorem zg_1099 : (Cond.methodLink RX1 51 yX1_note) ∈ lw_tbl ∧ ((((Cond.methodLink RX1 51 yX1_note : Cond)).onTables && ((Cond.methodLink RX1 51 yX1_note : Cond)).keeps) = true ∨ ∃ ty, (Cond.methodLink RX1 51 yX1_note) = .arrayClass ty) := ⟨zt_3 (List.mem_of_getElem? (i := 127) rfl), good_of_word rfl⟩
theorem zg_1100 : (Cond.code yX1_ownBody cX1_ownBody 2 (some .int)) ∈ lw_tbl ∧ ((((Cond.code yX1_ownBody cX1_ownBody 2 (some .int) : Cond)).onTables && ((Cond.code yX1_ownBody cX1_ownBody 2 (some .int) : Cond)).keeps) = true ∨ ∃ ty, (Cond.code yX1_ownBody cX1_ownBody 2 (some .int)) = .arrayClass ty) := ⟨zt_3 (List.mem_of_getElem? (i := 125) rfl), good_of_word rfl⟩
theorem zg_1101 : (Cond.static yX1_ownBody) ∈ lw_tbl ∧ ((((Cond.static yX1_ownBody : Cond)).onTables && ((Cond.static yX1_ownBody : Cond)).keeps) = true ∨ ∃ ty, (Cond.static yX1_ownBody) = .arrayClass ty) := ⟨zt_3 (List.mem_of_getElem? (i := 124) rfl), good_of_word rfl⟩
theorem zg_1102 : (Cond.methodLink RX1 55 yX1_ownBody) ∈ lw_tbl ∧ ((((Cond.methodLink RX1 55 yX1_ownBody : Cond)).onTables && ((Cond.methodLink RX1 55 yX1_ownBody : Cond)).keeps) = true ∨ ∃ ty, (Cond.methodLink RX1 55 yX1_ownBody) = .arrayClass ty) := ⟨zt_3 (List.mem_of_getElem? (i := 123) rfl), good_of_word rfl⟩
theorem zg_1103 : (Cond.code yX1_bodyFor cX1_bodyFor 5 (some .int)) ∈ lw_tbl ∧ ((((Cond.code yX1_bodyFor cX1_bodyFor 5 (some .int) : Cond)).onTables && ((Cond.code yX1_bodyFor cX1_bodyFor 5 (some .int) : Cond)).keeps) = true ∨ ∃ ty, (Cond.code yX1_bodyFor cX1_bodyFor 5 (some .int)) = .arrayClass ty) := ⟨zt_3 (List.mem_of_getElem? (i := 121) rfl), good_of_word rfl⟩
theorem zg_1104 : (Cond.static yX1_bodyFor) ∈ lw_tbl ∧ ((((Cond.static yX1_bodyFor : Cond)).onTables && ((Cond.static yX1_bodyFor : Cond)).keeps) = true ∨ ∃ ty, (Cond.static yX1_bodyFor) = .arrayClass ty) := ⟨zt_3 (List.mem_of_getElem? (i := 120) rfl), good_of_word rfl⟩
theorem zg_1105 : (Cond.methodLink RX1 48 yX1_bodyFor) ∈ lw_tbl ∧ ((((Cond.methodLink RX1 48 yX1_bodyFor : Cond)).onTables && ((Cond.methodLink RX1 48 yX1_bodyFor : Cond)).keeps) = true ∨ ∃ ty, (Cond.methodLink RX1 48 yX1_bodyFor) = .arrayClass ty) := ⟨zt_3 (List.mem_of_getElem? (i := 119) rfl), good_of_word rfl⟩
theorem zg_1106 : (Cond.code yX1_run cX1_run 7 (some .int)) ∈ lw_tbl ∧ ((((Cond.code yX1_run cX1_run 7 (some .int) : Cond)).onTables && ((Cond.code yX1_run cX1_run 7 (some .int) : Cond)).keeps) = true ∨ ∃ ty, (Cond.code yX1_run cX1_run 7 (some .int)) = .arrayClass ty) := ⟨zt_3 (List.mem_of_getElem? (i := 118) rfl), good_of_word rfl⟩
theorem zg_1107 : (Cond.selects RX1 yX1_run yX1_run) ∈ lw_tbl ∧ ((((Cond.selects RX1 yX1_run yX1_run : Cond)).onTables && ((Cond.selects RX1 yX1_run yX1_run : Cond)).keeps) = true ∨ ∃ ty, (Cond.selects RX1 yX1_run yX1_run) = .arrayClass ty) := ⟨zp_1 11 (by decide +kernel), good_of_word rfl⟩
theorem zg_1108 : (Cond.instanceMethod yX1_run) ∈ lw_tbl ∧ ((((Cond.instanceMethod yX1_run : Cond)).onTables && ((Cond.instanceMethod yX1_run : Cond)).keeps) = true ∨ ∃ ty, (Cond.instanceMethod yX1_run) = .arrayClass ty) := ⟨zt_3 (List.mem_of_getElem? (i := 117) rfl), good_of_word rfl⟩
theorem zg_1109 : (Cond.methodLink RX1 34 yX1_run) ∈ lw_tbl ∧ ((((Cond.methodLink RX1 34 yX1_run : Cond)).onTables && ((Cond.methodLink RX1 34 yX1_run : Cond)).keeps) = true ∨ ∃ ty, (Cond.methodLink RX1 34 yX1_run) = .arrayClass ty) := ⟨zt_3 (List.mem_of_getElem? (i := 115) rfl), good_of_word rfl⟩
theorem gl_wsX7_act_r2 : GoodIn lw_tbl wsX7_act_r2 := (zl_cons zg_1109 (zl_cons zg_1108 (zl_cons zg_1107 (zl_cons zg_1106 (zl_cons zg_1105 (zl_cons zg_1104 (zl_cons zg_1103 (zl_cons zg_1102 (zl_cons zg_1101 (zl_cons zg_1100 (zl_cons zg_1099 (zl_cons zg_1098 (zl_cons zg_1097 (zl_cons zg_1096 (zl_cons zg_1095 (zl_cons zg_1094 zl_nil))))))))))))))))
theorem zg_1110 : (u_lay RX1 TX1 4) ∈ lw_tbl ∧ ((((u_lay RX1 TX1 4 : Cond)).onTables && ((u_lay RX1 TX1 4 : Cond)).keeps) = true ∨ ∃ ty, (u_lay RX1 TX1 4) = .arrayClass ty) := ⟨zt_0 (List.mem_of_getElem? (i := 191) rfl), good_of_word rfl⟩
theorem zg_1111 : (u_lay RX1 TX1 3) ∈ lw_tbl ∧ ((((u_lay RX1 TX1 3 : Cond)).onTables && ((u_lay RX1 TX1 3 : Cond)).keeps) = true ∨ ∃ ty, (u_lay RX1 TX1 3) = .arrayClass ty) := ⟨zt_0 (List.mem_of_getElem? (i := 189) rfl), good_of_word rfl⟩
theorem zg_1112 : (u_lay RX1 TX1 2) ∈ lw_tbl ∧ ((((u_lay RX1 TX1 2 : Cond)).onTables && ((u_lay RX1 TX1 2 : Cond)).keeps) = true ∨ ∃ ty, (u_lay RX1 TX1 2) = .arrayClass ty) := ⟨zt_0 (List.mem_of_getElem? (i := 187) rfl), good_of_word rfl⟩
theorem zg_1113 : (u_lay RX1 TX1 1) ∈ lw_tbl ∧ ((((u_lay RX1 TX1 1 : Cond)).onTables && ((u_lay RX1 TX1 1 : Cond)).keeps) = true ∨ ∃ ty, (u_lay RX1 TX1 1) = .arrayClass ty) := ⟨zt_0 (List.mem_of_getElem? (i := 185) rfl), good_of_word rfl⟩
theorem zg_1114 : (u_lay RX1 TX1 0) ∈ lw_tbl ∧ ((((u_lay RX1 TX1 0 : Cond)).onTables && ((u_lay RX1 TX1 0 : Cond)).keeps) = true ∨ ∃ ty, (u_lay RX1 TX1 0) = .arrayClass ty) := ⟨zt_0 (List.mem_of_getElem? (i := 183) rfl), good_of_word rfl⟩
theorem gl_wsX10 : GoodIn lw_tbl wsX10 := (zl_cons zg_1114 (zl_cons zg_1113 (zl_cons zg_1112 (zl_cons zg_1111 (zl_cons zg_1110 zl_nil)))))
theorem gl_wsX7_act : GoodIn lw_tbl wsX7_act := (zl_cons zg_1081 (goodIn_app (goodIn_app (goodIn_app (goodIn_app (goodIn_app gl_wsX7_act_r1 gl_wsX7_act_r2) gl_wsX70) gl_wsX10) gl_wsX00) gl_wsX20))
theorem zg_1115 : (Cond.selects RX7 yX7_act yX7_act) ∈ lw_tbl ∧ ((((Cond.selects RX7 yX7_act yX7_act : Cond)).onTables && ((Cond.selects RX7 yX7_act yX7_act : Cond)).keeps) = true ∨ ∃ ty, (Cond.selects RX7 yX7_act yX7_act) = .arrayClass ty) := ⟨zt_3 (List.mem_of_getElem? (i := 109) rfl), good_of_word rfl⟩
theorem zg_1116 : (Cond.instanceMethod yX7_act) ∈ lw_tbl ∧ ((((Cond.instanceMethod yX7_act : Cond)).onTables && ((Cond.instanceMethod yX7_act : Cond)).keeps) = true ∨ ∃ ty, (Cond.instanceMethod yX7_act) = .arrayClass ty) := ⟨zt_3 (List.mem_of_getElem? (i := 108) rfl), good_of_word rfl⟩
theorem zg_1117 : (Cond.methodLink RL 155 yX7_act) ∈ lw_tbl ∧ ((((Cond.methodLink RL 155 yX7_act : Cond)).onTables && ((Cond.methodLink RL 155 yX7_act : Cond)).keeps) = true ∨ ∃ ty, (Cond.methodLink RL 155 yX7_act) = .arrayClass ty) := ⟨zt_3 (List.mem_of_getElem? (i := 107) rfl), good_of_word rfl⟩
theorem gq_155 : GoodIn lw_tbl (wsV RL 155 RX7 yX7_act wsX7_act) := goodIn_app (zl_cons zg_1117 (zl_cons zg_1116 (zl_cons zg_1115 (zl_cons zg_21 zl_nil)))) gl_wsX7_act
theorem zg_1118 : (Cond.code yX8_act cX8_act 4 (some .int)) ∈ lw_tbl ∧ ((((Cond.code yX8_act cX8_act 4 (some .int) : Cond)).onTables && ((Cond.code yX8_act cX8_act 4 (some .int) : Cond)).keeps) = true ∨ ∃ ty, (Cond.code yX8_act cX8_act 4 (some .int)) = .arrayClass ty) := ⟨zt_5 (List.mem_of_getElem? (i := 139) rfl), good_of_word rfl⟩
theorem zg_1119 : (Cond.instanceMethod yX8_resting) ∈ lw_tbl ∧ ((((Cond.instanceMethod yX8_resting : Cond)).onTables && ((Cond.instanceMethod yX8_resting : Cond)).keeps) = true ∨ ∃ ty, (Cond.instanceMethod yX8_resting) = .arrayClass ty) := ⟨zt_5 (List.mem_of_getElem? (i := 154) rfl), good_of_word rfl⟩
theorem zg_1120 : (Cond.methodLink RX8 297 yX8_resting) ∈ lw_tbl ∧ ((((Cond.methodLink RX8 297 yX8_resting : Cond)).onTables && ((Cond.methodLink RX8 297 yX8_resting : Cond)).keeps) = true ∨ ∃ ty, (Cond.methodLink RX8 297 yX8_resting) = .arrayClass ty) := ⟨zt_5 (List.mem_of_getElem? (i := 152) rfl), good_of_word rfl⟩
theorem zg_1121 : (Cond.code yX8_freeing cX8_freeing 7 (some .int)) ∈ lw_tbl ∧ ((((Cond.code yX8_freeing cX8_freeing 7 (some .int) : Cond)).onTables && ((Cond.code yX8_freeing cX8_freeing 7 (some .int) : Cond)).keeps) = true ∨ ∃ ty, (Cond.code yX8_freeing cX8_freeing 7 (some .int)) = .arrayClass ty) := ⟨zt_5 (List.mem_of_getElem? (i := 151) rfl), good_of_word rfl⟩
theorem zg_1122 : (Cond.selects RX8 yX8_freeing yX8_freeing) ∈ lw_tbl ∧ ((((Cond.selects RX8 yX8_freeing yX8_freeing : Cond)).onTables && ((Cond.selects RX8 yX8_freeing yX8_freeing : Cond)).keeps) = true ∨ ∃ ty, (Cond.selects RX8 yX8_freeing yX8_freeing) = .arrayClass ty) := ⟨zp_4 15 (by decide +kernel), good_of_word rfl⟩
theorem zg_1123 : (Cond.instanceMethod yX8_freeing) ∈ lw_tbl ∧ ((((Cond.instanceMethod yX8_freeing : Cond)).onTables && ((Cond.instanceMethod yX8_freeing : Cond)).keeps) = true ∨ ∃ ty, (Cond.instanceMethod yX8_freeing) = .arrayClass ty) := ⟨zt_5 (List.mem_of_getElem? (i := 150) rfl), good_of_word rfl⟩
theorem zg_1124 : (Cond.methodLink RX8 294 yX8_freeing) ∈ lw_tbl ∧ ((((Cond.methodLink RX8 294 yX8_freeing : Cond)).onTables && ((Cond.methodLink RX8 294 yX8_freeing : Cond)).keeps) = true ∨ ∃ ty, (Cond.methodLink RX8 294 yX8_freeing) = .arrayClass ty) := ⟨zt_5 (List.mem_of_getElem? (i := 148) rfl), good_of_word rfl⟩
theorem zg_1125 : (Cond.fieldLink RX8 87 "TheLiningsInItModel" "trace" "[I") ∈ lw_tbl ∧ ((((Cond.fieldLink RX8 87 "TheLiningsInItModel" "trace" "[I" : Cond)).onTables && ((Cond.fieldLink RX8 87 "TheLiningsInItModel" "trace" "[I" : Cond)).keeps) = true ∨ ∃ ty, (Cond.fieldLink RX8 87 "TheLiningsInItModel" "trace" "[I") = .arrayClass ty) := ⟨zt_3 (List.mem_of_getElem? (i := 206) rfl), good_of_word rfl⟩
theorem zg_1126 : (Cond.code yX8_body cX8_body 2 none) ∈ lw_tbl ∧ ((((Cond.code yX8_body cX8_body 2 none : Cond)).onTables && ((Cond.code yX8_body cX8_body 2 none : Cond)).keeps) = true ∨ ∃ ty, (Cond.code yX8_body cX8_body 2 none) = .arrayClass ty) := ⟨zt_5 (List.mem_of_getElem? (i := 147) rfl), good_of_word rfl⟩
theorem zg_1127 : (Cond.selects RX8 yX8_body yX8_body) ∈ lw_tbl ∧ ((((Cond.selects RX8 yX8_body yX8_body : Cond)).onTables && ((Cond.selects RX8 yX8_body yX8_body : Cond)).keeps) = true ∨ ∃ ty, (Cond.selects RX8 yX8_body yX8_body) = .arrayClass ty) := ⟨zp_4 14 (by decide +kernel), good_of_word rfl⟩
theorem zg_1128 : (Cond.instanceMethod yX8_body) ∈ lw_tbl ∧ ((((Cond.instanceMethod yX8_body : Cond)).onTables && ((Cond.instanceMethod yX8_body : Cond)).keeps) = true ∨ ∃ ty, (Cond.instanceMethod yX8_body) = .arrayClass ty) := ⟨zt_5 (List.mem_of_getElem? (i := 146) rfl), good_of_word rfl⟩
theorem zg_1129 : (Cond.methodLink RX8 288 yX8_body) ∈ lw_tbl ∧ ((((Cond.methodLink RX8 288 yX8_body : Cond)).onTables && ((Cond.methodLink RX8 288 yX8_body : Cond)).keeps) = true ∨ ∃ ty, (Cond.methodLink RX8 288 yX8_body) = .arrayClass ty) := ⟨zt_5 (List.mem_of_getElem? (i := 144) rfl), good_of_word rfl⟩
theorem zg_1130 : (Cond.code yX8_pulling cX8_pulling 5 (some .int)) ∈ lw_tbl ∧ ((((Cond.code yX8_pulling cX8_pulling 5 (some .int) : Cond)).onTables && ((Cond.code yX8_pulling cX8_pulling 5 (some .int) : Cond)).keeps) = true ∨ ∃ ty, (Cond.code yX8_pulling cX8_pulling 5 (some .int)) = .arrayClass ty) := ⟨zt_5 (List.mem_of_getElem? (i := 143) rfl), good_of_word rfl⟩
theorem zg_1131 : (Cond.selects RX8 yX8_pulling yX8_pulling) ∈ lw_tbl ∧ ((((Cond.selects RX8 yX8_pulling yX8_pulling : Cond)).onTables && ((Cond.selects RX8 yX8_pulling yX8_pulling : Cond)).keeps) = true ∨ ∃ ty, (Cond.selects RX8 yX8_pulling yX8_pulling) = .arrayClass ty) := ⟨zp_4 13 (by decide +kernel), good_of_word rfl⟩
theorem zg_1132 : (Cond.instanceMethod yX8_pulling) ∈ lw_tbl ∧ ((((Cond.instanceMethod yX8_pulling : Cond)).onTables && ((Cond.instanceMethod yX8_pulling : Cond)).keeps) = true ∨ ∃ ty, (Cond.instanceMethod yX8_pulling) = .arrayClass ty) := ⟨zt_5 (List.mem_of_getElem? (i := 142) rfl), good_of_word rfl⟩
theorem zg_1133 : (Cond.methodLink RX8 291 yX8_pulling) ∈ lw_tbl ∧ ((((Cond.methodLink RX8 291 yX8_pulling : Cond)).onTables && ((Cond.methodLink RX8 291 yX8_pulling : Cond)).keeps) = true ∨ ∃ ty, (Cond.methodLink RX8 291 yX8_pulling) = .arrayClass ty) := ⟨zt_5 (List.mem_of_getElem? (i := 140) rfl), good_of_word rfl⟩
theorem zg_1134 : (Cond.fieldLink RX8 285 "TheLiningsInItModel" "ran" "I") ∈ lw_tbl ∧ ((((Cond.fieldLink RX8 285 "TheLiningsInItModel" "ran" "I" : Cond)).onTables && ((Cond.fieldLink RX8 285 "TheLiningsInItModel" "ran" "I" : Cond)).keeps) = true ∨ ∃ ty, (Cond.fieldLink RX8 285 "TheLiningsInItModel" "ran" "I") = .arrayClass ty) := ⟨zt_3 (List.mem_of_getElem? (i := 207) rfl), good_of_word rfl⟩
theorem gl_wsX8_act_r1 : GoodIn lw_tbl wsX8_act_r1 := (zl_cons zg_1134 (zl_cons zg_168 (zl_cons zg_167 (zl_cons zg_166 (zl_cons zg_49 (zl_cons zg_165 (zl_cons zg_164 (zl_cons zg_1133 (zl_cons zg_1132 (zl_cons zg_1131 (zl_cons zg_1130 (zl_cons zg_228 (zl_cons zg_222 (zl_cons zg_1129 (zl_cons zg_1128 (zl_cons zg_1127 (zl_cons zg_1126 (zl_cons zg_1125 (zl_cons zg_1124 (zl_cons zg_1123 (zl_cons zg_1122 (zl_cons zg_1121 (zl_cons zg_1120 (zl_cons zg_1119 zl_nil))))))))))))))))))))))))
theorem zg_1135 : (Cond.code yX8_resting cX8_resting 5 (some .int)) ∈ lw_tbl ∧ ((((Cond.code yX8_resting cX8_resting 5 (some .int) : Cond)).onTables && ((Cond.code yX8_resting cX8_resting 5 (some .int) : Cond)).keeps) = true ∨ ∃ ty, (Cond.code yX8_resting cX8_resting 5 (some .int)) = .arrayClass ty) := ⟨zt_5 (List.mem_of_getElem? (i := 155) rfl), good_of_word rfl⟩
theorem zg_1136 : (Cond.selects RX8 yX8_resting yX8_resting) ∈ lw_tbl ∧ ((((Cond.selects RX8 yX8_resting yX8_resting : Cond)).onTables && ((Cond.selects RX8 yX8_resting yX8_resting : Cond)).keeps) = true ∨ ∃ ty, (Cond.selects RX8 yX8_resting yX8_resting) = .arrayClass ty) := ⟨zp_5 0 (by decide +kernel), good_of_word rfl⟩
theorem gl_wsX8_act_r2 : GoodIn lw_tbl wsX8_act_r2 := (zl_cons zg_1136 (zl_cons zg_1135 zl_nil))
theorem gl_wsX8_act : GoodIn lw_tbl wsX8_act := (zl_cons zg_1118 (goodIn_app (goodIn_app gl_wsX8_act_r1 gl_wsX8_act_r2) gl_wsX80))
theorem zg_1137 : (Cond.selects RX8 yX8_act yX8_act) ∈ lw_tbl ∧ ((((Cond.selects RX8 yX8_act yX8_act : Cond)).onTables && ((Cond.selects RX8 yX8_act yX8_act : Cond)).keeps) = true ∨ ∃ ty, (Cond.selects RX8 yX8_act yX8_act) = .arrayClass ty) := ⟨zt_5 (List.mem_of_getElem? (i := 138) rfl), good_of_word rfl⟩
theorem zg_1138 : (Cond.instanceMethod yX8_act) ∈ lw_tbl ∧ ((((Cond.instanceMethod yX8_act : Cond)).onTables && ((Cond.instanceMethod yX8_act : Cond)).keeps) = true ∨ ∃ ty, (Cond.instanceMethod yX8_act) = .arrayClass ty) := ⟨zt_5 (List.mem_of_getElem? (i := 137) rfl), good_of_word rfl⟩
theorem zg_1139 : (Cond.methodLink RL 158 yX8_act) ∈ lw_tbl ∧ ((((Cond.methodLink RL 158 yX8_act : Cond)).onTables && ((Cond.methodLink RL 158 yX8_act : Cond)).keeps) = true ∨ ∃ ty, (Cond.methodLink RL 158 yX8_act) = .arrayClass ty) := ⟨zt_5 (List.mem_of_getElem? (i := 136) rfl), good_of_word rfl⟩
theorem gq_158 : GoodIn lw_tbl (wsV RL 158 RX8 yX8_act wsX8_act) := goodIn_app (zl_cons zg_1139 (zl_cons zg_1138 (zl_cons zg_1137 (zl_cons zg_49 zl_nil)))) gl_wsX8_act
theorem zg_1140 : (Cond.code yX7_trace cX7_trace 2 (some .int)) ∈ lw_tbl ∧ ((((Cond.code yX7_trace cX7_trace 2 (some .int) : Cond)).onTables && ((Cond.code yX7_trace cX7_trace 2 (some .int) : Cond)).keeps) = true ∨ ∃ ty, (Cond.code yX7_trace cX7_trace 2 (some .int)) = .arrayClass ty) := ⟨zt_3 (List.mem_of_getElem? (i := 134) rfl), good_of_word rfl⟩
theorem zg_1141 : (Cond.methodLink RX1 38 Lib.Math.min.name) ∈ lw_tbl ∧ ((((Cond.methodLink RX1 38 Lib.Math.min.name : Cond)).onTables && ((Cond.methodLink RX1 38 Lib.Math.min.name : Cond)).keeps) = true ∨ ∃ ty, (Cond.methodLink RX1 38 Lib.Math.min.name) = .arrayClass ty) := ⟨zt_3 (List.mem_of_getElem? (i := 139) rfl), good_of_word rfl⟩
theorem zg_1142 : (Cond.code yX1_bodyAt cX1_bodyAt 2 (some .int)) ∈ lw_tbl ∧ ((((Cond.code yX1_bodyAt cX1_bodyAt 2 (some .int) : Cond)).onTables && ((Cond.code yX1_bodyAt cX1_bodyAt 2 (some .int) : Cond)).keeps) = true ∨ ∃ ty, (Cond.code yX1_bodyAt cX1_bodyAt 2 (some .int)) = .arrayClass ty) := ⟨zt_3 (List.mem_of_getElem? (i := 138) rfl), good_of_word rfl⟩
theorem zg_1143 : (Cond.selects RX1 yX1_bodyAt yX1_bodyAt) ∈ lw_tbl ∧ ((((Cond.selects RX1 yX1_bodyAt yX1_bodyAt : Cond)).onTables && ((Cond.selects RX1 yX1_bodyAt yX1_bodyAt : Cond)).keeps) = true ∨ ∃ ty, (Cond.selects RX1 yX1_bodyAt yX1_bodyAt) = .arrayClass ty) := ⟨zt_3 (List.mem_of_getElem? (i := 137) rfl), good_of_word rfl⟩
theorem zg_1144 : (Cond.instanceMethod yX1_bodyAt) ∈ lw_tbl ∧ ((((Cond.instanceMethod yX1_bodyAt : Cond)).onTables && ((Cond.instanceMethod yX1_bodyAt : Cond)).keeps) = true ∨ ∃ ty, (Cond.instanceMethod yX1_bodyAt) = .arrayClass ty) := ⟨zt_3 (List.mem_of_getElem? (i := 136) rfl), good_of_word rfl⟩
theorem zg_1145 : (Cond.methodLink RX7 295 yX1_bodyAt) ∈ lw_tbl ∧ ((((Cond.methodLink RX7 295 yX1_bodyAt : Cond)).onTables && ((Cond.methodLink RX7 295 yX1_bodyAt : Cond)).keeps) = true ∨ ∃ ty, (Cond.methodLink RX7 295 yX1_bodyAt) = .arrayClass ty) := ⟨zt_3 (List.mem_of_getElem? (i := 135) rfl), good_of_word rfl⟩
theorem gl_wsX7_trace : GoodIn lw_tbl wsX7_trace := (zl_cons zg_1140 (goodIn_app (goodIn_app (zl_cons zg_1093 (zl_cons zg_1145 (zl_cons zg_1144 (zl_cons zg_1143 (zl_cons zg_1088 (zl_cons zg_1142 (zl_cons zg_1095 (zl_cons zg_1141 (zl_cons zg_190 (zl_cons zg_189 (zl_cons zg_188 (zl_cons zg_1094 (zl_cons zg_17 (zl_cons zg_21 (zl_cons zg_16 zl_nil))))))))))))))) gl_wsX70) gl_wsX10))
theorem zg_1146 : (Cond.selects RX7 yX7_trace yX7_trace) ∈ lw_tbl ∧ ((((Cond.selects RX7 yX7_trace yX7_trace : Cond)).onTables && ((Cond.selects RX7 yX7_trace yX7_trace : Cond)).keeps) = true ∨ ∃ ty, (Cond.selects RX7 yX7_trace yX7_trace) = .arrayClass ty) := ⟨zt_3 (List.mem_of_getElem? (i := 133) rfl), good_of_word rfl⟩
theorem zg_1147 : (Cond.instanceMethod yX7_trace) ∈ lw_tbl ∧ ((((Cond.instanceMethod yX7_trace : Cond)).onTables && ((Cond.instanceMethod yX7_trace : Cond)).keeps) = true ∨ ∃ ty, (Cond.instanceMethod yX7_trace) = .arrayClass ty) := ⟨zt_3 (List.mem_of_getElem? (i := 132) rfl), good_of_word rfl⟩
theorem zg_1148 : (Cond.methodLink RL 159 yX7_trace) ∈ lw_tbl ∧ ((((Cond.methodLink RL 159 yX7_trace : Cond)).onTables && ((Cond.methodLink RL 159 yX7_trace : Cond)).keeps) = true ∨ ∃ ty, (Cond.methodLink RL 159 yX7_trace) = .arrayClass ty) := ⟨zt_3 (List.mem_of_getElem? (i := 131) rfl), good_of_word rfl⟩
theorem gq_159 : GoodIn lw_tbl (wsV RL 159 RX7 yX7_trace wsX7_trace) := goodIn_app (zl_cons zg_1148 (zl_cons zg_1147 (zl_cons zg_1146 (zl_cons zg_21 zl_nil)))) gl_wsX7_trace
theorem zg_1149 : (Cond.code yX8_trace cX8_trace 2 (some .int)) ∈ lw_tbl ∧ ((((Cond.code yX8_trace cX8_trace 2 (some .int) : Cond)).onTables && ((Cond.code yX8_trace cX8_trace 2 (some .int) : Cond)).keeps) = true ∨ ∃ ty, (Cond.code yX8_trace cX8_trace 2 (some .int)) = .arrayClass ty) := ⟨zt_5 (List.mem_of_getElem? (i := 159) rfl), good_of_word rfl⟩
theorem gl_wsX8_trace : GoodIn lw_tbl wsX8_trace := (zl_cons zg_1149 (goodIn_app (zl_cons zg_1134 (zl_cons zg_1125 zl_nil)) gl_wsX80))
theorem zg_1150 : (Cond.selects RX8 yX8_trace yX8_trace) ∈ lw_tbl ∧ ((((Cond.selects RX8 yX8_trace yX8_trace : Cond)).onTables && ((Cond.selects RX8 yX8_trace yX8_trace : Cond)).keeps) = true ∨ ∃ ty, (Cond.selects RX8 yX8_trace yX8_trace) = .arrayClass ty) := ⟨zt_5 (List.mem_of_getElem? (i := 158) rfl), good_of_word rfl⟩
theorem zg_1151 : (Cond.instanceMethod yX8_trace) ∈ lw_tbl ∧ ((((Cond.instanceMethod yX8_trace : Cond)).onTables && ((Cond.instanceMethod yX8_trace : Cond)).keeps) = true ∨ ∃ ty, (Cond.instanceMethod yX8_trace) = .arrayClass ty) := ⟨zt_5 (List.mem_of_getElem? (i := 157) rfl), good_of_word rfl⟩
theorem zg_1152 : (Cond.methodLink RL 162 yX8_trace) ∈ lw_tbl ∧ ((((Cond.methodLink RL 162 yX8_trace : Cond)).onTables && ((Cond.methodLink RL 162 yX8_trace : Cond)).keeps) = true ∨ ∃ ty, (Cond.methodLink RL 162 yX8_trace) = .arrayClass ty) := ⟨zt_5 (List.mem_of_getElem? (i := 156) rfl), good_of_word rfl⟩
theorem gq_162 : GoodIn lw_tbl (wsV RL 162 RX8 yX8_trace wsX8_trace) := goodIn_app (zl_cons zg_1152 (zl_cons zg_1151 (zl_cons zg_1150 (zl_cons zg_49 zl_nil)))) gl_wsX8_trace
theorem zg_1153 : (Cond.code yX7_image cX7_image 1 (some .int)) ∈ lw_tbl ∧ ((((Cond.code yX7_image cX7_image 1 (some .int) : Cond)).onTables && ((Cond.code yX7_image cX7_image 1 (some .int) : Cond)).keeps) = true ∨ ∃ ty, (Cond.code yX7_image cX7_image 1 (some .int)) = .arrayClass ty) := ⟨zt_3 (List.mem_of_getElem? (i := 143) rfl), good_of_word rfl⟩
theorem zg_1154 : (Cond.instanceMethod yX6_become) ∈ lw_tbl ∧ ((((Cond.instanceMethod yX6_become : Cond)).onTables && ((Cond.instanceMethod yX6_become : Cond)).keeps) = true ∨ ∃ ty, (Cond.instanceMethod yX6_become) = .arrayClass ty) := ⟨zt_3 (List.mem_of_getElem? (i := 149) rfl), good_of_word rfl⟩
theorem zg_1155 : (Cond.methodLink RX0 47 yX6_become) ∈ lw_tbl ∧ ((((Cond.methodLink RX0 47 yX6_become : Cond)).onTables && ((Cond.methodLink RX0 47 yX6_become : Cond)).keeps) = true ∨ ∃ ty, (Cond.methodLink RX0 47 yX6_become) = .arrayClass ty) := ⟨zt_3 (List.mem_of_getElem? (i := 148) rfl), good_of_word rfl⟩
theorem zg_1156 : (Cond.methodLink RX0 51 arraycopyName) ∈ lw_tbl ∧ ((((Cond.methodLink RX0 51 arraycopyName : Cond)).onTables && ((Cond.methodLink RX0 51 arraycopyName : Cond)).keeps) = true ∨ ∃ ty, (Cond.methodLink RX0 51 arraycopyName) = .arrayClass ty) := ⟨zt_3 (List.mem_of_getElem? (i := 152) rfl), good_of_word rfl⟩
theorem zg_1157 : (Cond.code yX0_become cX0_become 3 none) ∈ lw_tbl ∧ ((((Cond.code yX0_become cX0_become 3 none : Cond)).onTables && ((Cond.code yX0_become cX0_become 3 none : Cond)).keeps) = true ∨ ∃ ty, (Cond.code yX0_become cX0_become 3 none) = .arrayClass ty) := ⟨zt_3 (List.mem_of_getElem? (i := 147) rfl), good_of_word rfl⟩
theorem zg_1158 : (Cond.selects RX0 yX0_become yX0_become) ∈ lw_tbl ∧ ((((Cond.selects RX0 yX0_become yX0_become : Cond)).onTables && ((Cond.selects RX0 yX0_become yX0_become : Cond)).keeps) = true ∨ ∃ ty, (Cond.selects RX0 yX0_become yX0_become) = .arrayClass ty) := ⟨zt_3 (List.mem_of_getElem? (i := 146) rfl), good_of_word rfl⟩
theorem zg_1159 : (Cond.instanceMethod yX0_become) ∈ lw_tbl ∧ ((((Cond.instanceMethod yX0_become : Cond)).onTables && ((Cond.instanceMethod yX0_become : Cond)).keeps) = true ∨ ∃ ty, (Cond.instanceMethod yX0_become) = .arrayClass ty) := ⟨zt_3 (List.mem_of_getElem? (i := 145) rfl), good_of_word rfl⟩
theorem zg_1160 : (Cond.methodLink RX7 298 yX0_become) ∈ lw_tbl ∧ ((((Cond.methodLink RX7 298 yX0_become : Cond)).onTables && ((Cond.methodLink RX7 298 yX0_become : Cond)).keeps) = true ∨ ∃ ty, (Cond.methodLink RX7 298 yX0_become) = .arrayClass ty) := ⟨zt_3 (List.mem_of_getElem? (i := 144) rfl), good_of_word rfl⟩
theorem zg_1161 : (Cond.fieldLink RX7 50 "TheLiningsInIt" "imaged" "Z") ∈ lw_tbl ∧ ((((Cond.fieldLink RX7 50 "TheLiningsInIt" "imaged" "Z" : Cond)).onTables && ((Cond.fieldLink RX7 50 "TheLiningsInIt" "imaged" "Z" : Cond)).keeps) = true ∨ ∃ ty, (Cond.fieldLink RX7 50 "TheLiningsInIt" "imaged" "Z") = .arrayClass ty) := ⟨zt_0 (List.mem_of_getElem? (i := 220) rfl), good_of_word rfl⟩
theorem zg_1162 : (Cond.fieldLink RX7 22 "TheLiningsInIt" "kept" "LTheLiningsInIt$Jacket;") ∈ lw_tbl ∧ ((((Cond.fieldLink RX7 22 "TheLiningsInIt" "kept" "LTheLiningsInIt$Jacket;" : Cond)).onTables && ((Cond.fieldLink RX7 22 "TheLiningsInIt" "kept" "LTheLiningsInIt$Jacket;" : Cond)).keeps) = true ∨ ∃ ty, (Cond.fieldLink RX7 22 "TheLiningsInIt" "kept" "LTheLiningsInIt$Jacket;") = .arrayClass ty) := ⟨zt_0 (List.mem_of_getElem? (i := 215) rfl), good_of_word rfl⟩
theorem gl_wsX7_image_r1 : GoodIn lw_tbl wsX7_image_r1 := (zl_cons zg_1162 (zl_cons zg_150 (zl_cons zg_1161 (zl_cons zg_242 (zl_cons zg_1160 (zl_cons zg_1159 (zl_cons zg_1158 (zl_cons zg_146 (zl_cons zg_1157 (zl_cons zg_348 (zl_cons zg_143 (zl_cons zg_360 (zl_cons zg_1156 (zl_cons zg_122 (zl_cons zg_121 (zl_cons zg_120 (zl_cons zg_144 (zl_cons zg_266 (zl_cons zg_992 (zl_cons zg_265 (zl_cons zg_363 (zl_cons zg_987 (zl_cons zg_1155 (zl_cons zg_1154 zl_nil))))))))))))))))))))))))
theorem zg_1163 : (Cond.code yX6_become cX6_become 3 none) ∈ lw_tbl ∧ ((((Cond.code yX6_become cX6_become 3 none : Cond)).onTables && ((Cond.code yX6_become cX6_become 3 none : Cond)).keeps) = true ∨ ∃ ty, (Cond.code yX6_become cX6_become 3 none) = .arrayClass ty) := ⟨zt_3 (List.mem_of_getElem? (i := 151) rfl), good_of_word rfl⟩
theorem zg_1164 : (Cond.selects RX6 yX6_become yX6_become) ∈ lw_tbl ∧ ((((Cond.selects RX6 yX6_become yX6_become : Cond)).onTables && ((Cond.selects RX6 yX6_become yX6_become : Cond)).keeps) = true ∨ ∃ ty, (Cond.selects RX6 yX6_become yX6_become) = .arrayClass ty) := ⟨zt_3 (List.mem_of_getElem? (i := 150) rfl), good_of_word rfl⟩
theorem gl_wsX7_image_r2 : GoodIn lw_tbl wsX7_image_r2 := (zl_cons zg_1164 (zl_cons zg_290 (zl_cons zg_1163 (zl_cons zg_286 (zl_cons zg_285 (zl_cons zg_288 (zl_cons zg_287 (zl_cons zg_886 zl_nil))))))))
theorem gl_wsX7_image : GoodIn lw_tbl wsX7_image := (zl_cons zg_1153 (goodIn_app (goodIn_app (goodIn_app (goodIn_app gl_wsX7_image_r1 gl_wsX7_image_r2) gl_wsX70) gl_wsX00) gl_wsX60))
theorem zg_1165 : (Cond.selects RX7 yX7_image yX7_image) ∈ lw_tbl ∧ ((((Cond.selects RX7 yX7_image yX7_image : Cond)).onTables && ((Cond.selects RX7 yX7_image yX7_image : Cond)).keeps) = true ∨ ∃ ty, (Cond.selects RX7 yX7_image yX7_image) = .arrayClass ty) := ⟨zt_3 (List.mem_of_getElem? (i := 142) rfl), good_of_word rfl⟩
theorem zg_1166 : (Cond.instanceMethod yX7_image) ∈ lw_tbl ∧ ((((Cond.instanceMethod yX7_image : Cond)).onTables && ((Cond.instanceMethod yX7_image : Cond)).keeps) = true ∨ ∃ ty, (Cond.instanceMethod yX7_image) = .arrayClass ty) := ⟨zt_3 (List.mem_of_getElem? (i := 141) rfl), good_of_word rfl⟩
theorem zg_1167 : (Cond.methodLink RL 163 yX7_image) ∈ lw_tbl ∧ ((((Cond.methodLink RL 163 yX7_image : Cond)).onTables && ((Cond.methodLink RL 163 yX7_image : Cond)).keeps) = true ∨ ∃ ty, (Cond.methodLink RL 163 yX7_image) = .arrayClass ty) := ⟨zt_3 (List.mem_of_getElem? (i := 140) rfl), good_of_word rfl⟩
theorem gq_163 : GoodIn lw_tbl (wsV RL 163 RX7 yX7_image wsX7_image) := goodIn_app (zl_cons zg_1167 (zl_cons zg_1166 (zl_cons zg_1165 (zl_cons zg_21 zl_nil)))) gl_wsX7_image
theorem zg_1168 : (Cond.code yX8_image cX8_image 1 (some .int)) ∈ lw_tbl ∧ ((((Cond.code yX8_image cX8_image 1 (some .int) : Cond)).onTables && ((Cond.code yX8_image cX8_image 1 (some .int) : Cond)).keeps) = true ∨ ∃ ty, (Cond.code yX8_image cX8_image 1 (some .int)) = .arrayClass ty) := ⟨zt_5 (List.mem_of_getElem? (i := 163) rfl), good_of_word rfl⟩
theorem zg_1169 : (Cond.fieldLink RX8 78 "TheLiningsInItModel" "kept" "[I") ∈ lw_tbl ∧ ((((Cond.fieldLink RX8 78 "TheLiningsInItModel" "kept" "[I" : Cond)).onTables && ((Cond.fieldLink RX8 78 "TheLiningsInItModel" "kept" "[I" : Cond)).keeps) = true ∨ ∃ ty, (Cond.fieldLink RX8 78 "TheLiningsInItModel" "kept" "[I") = .arrayClass ty) := ⟨zt_3 (List.mem_of_getElem? (i := 203) rfl), good_of_word rfl⟩
theorem zg_1170 : (Cond.fieldLink RX8 300 "TheLiningsInItModel" "isKept" "Z") ∈ lw_tbl ∧ ((((Cond.fieldLink RX8 300 "TheLiningsInItModel" "isKept" "Z" : Cond)).onTables && ((Cond.fieldLink RX8 300 "TheLiningsInItModel" "isKept" "Z" : Cond)).keeps) = true ∨ ∃ ty, (Cond.fieldLink RX8 300 "TheLiningsInItModel" "isKept" "Z") = .arrayClass ty) := ⟨zt_3 (List.mem_of_getElem? (i := 208) rfl), good_of_word rfl⟩
theorem gl_wsX8_image_r1 : GoodIn lw_tbl wsX8_image_r1 := (zl_cons zg_1170 (zl_cons zg_1169 (zl_cons zg_164 (zl_cons zg_539 (zl_cons zg_560 (zl_cons zg_559 (zl_cons zg_49 (zl_cons zg_558 (zl_cons zg_228 (zl_cons zg_222 (zl_cons zg_227 (zl_cons zg_306 (zl_cons zg_305 (zl_cons zg_385 (zl_cons zg_312 (zl_cons zg_307 (zl_cons zg_280 (zl_cons zg_557 (zl_cons zg_279 (zl_cons zg_217 (zl_cons zg_368 (zl_cons zg_556 (zl_cons zg_555 (zl_cons zg_554 zl_nil))))))))))))))))))))))))
theorem gl_wsX8_image_r2 : GoodIn lw_tbl wsX8_image_r2 := (zl_cons zg_553 (zl_cons zg_552 zl_nil))
theorem gl_wsX8_image : GoodIn lw_tbl wsX8_image := (zl_cons zg_1168 (goodIn_app (goodIn_app gl_wsX8_image_r1 gl_wsX8_image_r2) gl_wsX80))
theorem zg_1171 : (Cond.selects RX8 yX8_image yX8_image) ∈ lw_tbl ∧ ((((Cond.selects RX8 yX8_image yX8_image : Cond)).onTables && ((Cond.selects RX8 yX8_image yX8_image : Cond)).keeps) = true ∨ ∃ ty, (Cond.selects RX8 yX8_image yX8_image) = .arrayClass ty) := ⟨zt_5 (List.mem_of_getElem? (i := 162) rfl), good_of_word rfl⟩
theorem zg_1172 : (Cond.instanceMethod yX8_image) ∈ lw_tbl ∧ ((((Cond.instanceMethod yX8_image : Cond)).onTables && ((Cond.instanceMethod yX8_image : Cond)).keeps) = true ∨ ∃ ty, (Cond.instanceMethod yX8_image) = .arrayClass ty) := ⟨zt_5 (List.mem_of_getElem? (i := 161) rfl), good_of_word rfl⟩
theorem zg_1173 : (Cond.methodLink RL 166 yX8_image) ∈ lw_tbl ∧ ((((Cond.methodLink RL 166 yX8_image : Cond)).onTables && ((Cond.methodLink RL 166 yX8_image : Cond)).keeps) = true ∨ ∃ ty, (Cond.methodLink RL 166 yX8_image) = .arrayClass ty) := ⟨zt_5 (List.mem_of_getElem? (i := 160) rfl), good_of_word rfl⟩
theorem gq_166 : GoodIn lw_tbl (wsV RL 166 RX8 yX8_image wsX8_image) := goodIn_app (zl_cons zg_1173 (zl_cons zg_1172 (zl_cons zg_1171 (zl_cons zg_49 zl_nil)))) gl_wsX8_image
theorem zg_1174 : (Cond.code yX7_restore cX7_restore 2 (some .int)) ∈ lw_tbl ∧ ((((Cond.code yX7_restore cX7_restore 2 (some .int) : Cond)).onTables && ((Cond.code yX7_restore cX7_restore 2 (some .int) : Cond)).keeps) = true ∨ ∃ ty, (Cond.code yX7_restore cX7_restore 2 (some .int)) = .arrayClass ty) := ⟨zt_3 (List.mem_of_getElem? (i := 156) rfl), good_of_word rfl⟩
theorem gl_wsX7_restore_r1 : GoodIn lw_tbl wsX7_restore_r1 := (zl_cons zg_1161 (zl_cons zg_150 (zl_cons zg_1162 (zl_cons zg_19 (zl_cons zg_242 (zl_cons zg_15 (zl_cons zg_14 (zl_cons zg_13 (zl_cons zg_21 (zl_cons zg_12 (zl_cons zg_11 (zl_cons zg_18 (zl_cons zg_17 (zl_cons zg_16 (zl_cons zg_1160 (zl_cons zg_1159 (zl_cons zg_1158 (zl_cons zg_146 (zl_cons zg_1157 (zl_cons zg_348 (zl_cons zg_143 (zl_cons zg_360 (zl_cons zg_1156 (zl_cons zg_122 zl_nil))))))))))))))))))))))))
theorem zg_1175 : (Cond.code yX4_forgetFrom cX4_forgetFrom 2 none) ∈ lw_tbl ∧ ((((Cond.code yX4_forgetFrom cX4_forgetFrom 2 none : Cond)).onTables && ((Cond.code yX4_forgetFrom cX4_forgetFrom 2 none : Cond)).keeps) = true ∨ ∃ ty, (Cond.code yX4_forgetFrom cX4_forgetFrom 2 none) = .arrayClass ty) := ⟨zt_3 (List.mem_of_getElem? (i := 160) rfl), good_of_word rfl⟩
theorem zg_1176 : (Cond.selects RX4 yX4_forgetFrom yX4_forgetFrom) ∈ lw_tbl ∧ ((((Cond.selects RX4 yX4_forgetFrom yX4_forgetFrom : Cond)).onTables && ((Cond.selects RX4 yX4_forgetFrom yX4_forgetFrom : Cond)).keeps) = true ∨ ∃ ty, (Cond.selects RX4 yX4_forgetFrom yX4_forgetFrom) = .arrayClass ty) := ⟨zt_3 (List.mem_of_getElem? (i := 159) rfl), good_of_word rfl⟩
theorem zg_1177 : (Cond.instanceMethod yX4_forgetFrom) ∈ lw_tbl ∧ ((((Cond.instanceMethod yX4_forgetFrom : Cond)).onTables && ((Cond.instanceMethod yX4_forgetFrom : Cond)).keeps) = true ∨ ∃ ty, (Cond.instanceMethod yX4_forgetFrom) = .arrayClass ty) := ⟨zt_3 (List.mem_of_getElem? (i := 158) rfl), good_of_word rfl⟩
theorem zg_1178 : (Cond.methodLink RX7 301 yX4_forgetFrom) ∈ lw_tbl ∧ ((((Cond.methodLink RX7 301 yX4_forgetFrom : Cond)).onTables && ((Cond.methodLink RX7 301 yX4_forgetFrom : Cond)).keeps) = true ∨ ∃ ty, (Cond.methodLink RX7 301 yX4_forgetFrom) = .arrayClass ty) := ⟨zt_3 (List.mem_of_getElem? (i := 157) rfl), good_of_word rfl⟩
theorem gl_wsX7_restore_r2 : GoodIn lw_tbl wsX7_restore_r2 := (zl_cons zg_121 (zl_cons zg_120 (zl_cons zg_144 (zl_cons zg_266 (zl_cons zg_992 (zl_cons zg_265 (zl_cons zg_363 (zl_cons zg_987 (zl_cons zg_1155 (zl_cons zg_1154 (zl_cons zg_1164 (zl_cons zg_290 (zl_cons zg_1163 (zl_cons zg_286 (zl_cons zg_285 (zl_cons zg_288 (zl_cons zg_287 (zl_cons zg_886 (zl_cons zg_1178 (zl_cons zg_1177 (zl_cons zg_1176 (zl_cons zg_7 (zl_cons zg_1175 (zl_cons zg_5 zl_nil))))))))))))))))))))))))
theorem gl_wsX7_restore : GoodIn lw_tbl wsX7_restore := (zl_cons zg_1174 (goodIn_app (goodIn_app (goodIn_app (goodIn_app (goodIn_app gl_wsX7_restore_r1 gl_wsX7_restore_r2) gl_wsX70) gl_wsX00) gl_wsX60) gl_wsX40))
theorem zg_1179 : (Cond.selects RX7 yX7_restore yX7_restore) ∈ lw_tbl ∧ ((((Cond.selects RX7 yX7_restore yX7_restore : Cond)).onTables && ((Cond.selects RX7 yX7_restore yX7_restore : Cond)).keeps) = true ∨ ∃ ty, (Cond.selects RX7 yX7_restore yX7_restore) = .arrayClass ty) := ⟨zt_3 (List.mem_of_getElem? (i := 155) rfl), good_of_word rfl⟩
theorem zg_1180 : (Cond.instanceMethod yX7_restore) ∈ lw_tbl ∧ ((((Cond.instanceMethod yX7_restore : Cond)).onTables && ((Cond.instanceMethod yX7_restore : Cond)).keeps) = true ∨ ∃ ty, (Cond.instanceMethod yX7_restore) = .arrayClass ty) := ⟨zt_3 (List.mem_of_getElem? (i := 154) rfl), good_of_word rfl⟩
theorem zg_1181 : (Cond.methodLink RL 167 yX7_restore) ∈ lw_tbl ∧ ((((Cond.methodLink RL 167 yX7_restore : Cond)).onTables && ((Cond.methodLink RL 167 yX7_restore : Cond)).keeps) = true ∨ ∃ ty, (Cond.methodLink RL 167 yX7_restore) = .arrayClass ty) := ⟨zt_3 (List.mem_of_getElem? (i := 153) rfl), good_of_word rfl⟩
theorem gq_167 : GoodIn lw_tbl (wsV RL 167 RX7 yX7_restore wsX7_restore) := goodIn_app (zl_cons zg_1181 (zl_cons zg_1180 (zl_cons zg_1179 (zl_cons zg_21 zl_nil)))) gl_wsX7_restore
theorem zg_1182 : (Cond.code yX8_restore cX8_restore 2 (some .int)) ∈ lw_tbl ∧ ((((Cond.code yX8_restore cX8_restore 2 (some .int) : Cond)).onTables && ((Cond.code yX8_restore cX8_restore 2 (some .int) : Cond)).keeps) = true ∨ ∃ ty, (Cond.code yX8_restore cX8_restore 2 (some .int)) = .arrayClass ty) := ⟨zt_5 (List.mem_of_getElem? (i := 167) rfl), good_of_word rfl⟩
theorem gl_wsX8_restore_r1 : GoodIn lw_tbl wsX8_restore_r1 := (zl_cons zg_1170 (zl_cons zg_1169 (zl_cons zg_56 (zl_cons zg_169 (zl_cons zg_164 (zl_cons zg_47 (zl_cons zg_46 (zl_cons zg_45 (zl_cons zg_49 (zl_cons zg_44 (zl_cons zg_43 (zl_cons zg_539 (zl_cons zg_560 (zl_cons zg_559 (zl_cons zg_558 (zl_cons zg_228 (zl_cons zg_222 (zl_cons zg_227 (zl_cons zg_306 (zl_cons zg_305 (zl_cons zg_385 (zl_cons zg_312 (zl_cons zg_307 (zl_cons zg_280 zl_nil))))))))))))))))))))))))
theorem gl_wsX8_restore_r2 : GoodIn lw_tbl wsX8_restore_r2 := (zl_cons zg_557 (zl_cons zg_279 (zl_cons zg_217 (zl_cons zg_368 (zl_cons zg_556 (zl_cons zg_555 (zl_cons zg_554 (zl_cons zg_553 (zl_cons zg_552 zl_nil)))))))))
theorem gl_wsX8_restore : GoodIn lw_tbl wsX8_restore := (zl_cons zg_1182 (goodIn_app (goodIn_app gl_wsX8_restore_r1 gl_wsX8_restore_r2) gl_wsX80))
theorem zg_1183 : (Cond.selects RX8 yX8_restore yX8_restore) ∈ lw_tbl ∧ ((((Cond.selects RX8 yX8_restore yX8_restore : Cond)).onTables && ((Cond.selects RX8 yX8_restore yX8_restore : Cond)).keeps) = true ∨ ∃ ty, (Cond.selects RX8 yX8_restore yX8_restore) = .arrayClass ty) := ⟨zt_5 (List.mem_of_getElem? (i := 166) rfl), good_of_word rfl⟩
theorem zg_1184 : (Cond.instanceMethod yX8_restore) ∈ lw_tbl ∧ ((((Cond.instanceMethod yX8_restore : Cond)).onTables && ((Cond.instanceMethod yX8_restore : Cond)).keeps) = true ∨ ∃ ty, (Cond.instanceMethod yX8_restore) = .arrayClass ty) := ⟨zt_5 (List.mem_of_getElem? (i := 165) rfl), good_of_word rfl⟩
theorem zg_1185 : (Cond.methodLink RL 170 yX8_restore) ∈ lw_tbl ∧ ((((Cond.methodLink RL 170 yX8_restore : Cond)).onTables && ((Cond.methodLink RL 170 yX8_restore : Cond)).keeps) = true ∨ ∃ ty, (Cond.methodLink RL 170 yX8_restore) = .arrayClass ty) := ⟨zt_5 (List.mem_of_getElem? (i := 164) rfl), good_of_word rfl⟩
theorem gq_170 : GoodIn lw_tbl (wsV RL 170 RX8 yX8_restore wsX8_restore) := goodIn_app (zl_cons zg_1185 (zl_cons zg_1184 (zl_cons zg_1183 (zl_cons zg_49 zl_nil)))) gl_wsX8_restore
theorem zg_1186 : (Cond.code yX7_status cX7_status 2 (some .int)) ∈ lw_tbl ∧ ((((Cond.code yX7_status cX7_status 2 (some .int) : Cond)).onTables && ((Cond.code yX7_status cX7_status 2 (some .int) : Cond)).keeps) = true ∨ ∃ ty, (Cond.code yX7_status cX7_status 2 (some .int)) = .arrayClass ty) := ⟨zt_3 (List.mem_of_getElem? (i := 164) rfl), good_of_word rfl⟩
theorem zg_1187 : (Cond.fieldLink RX7 307 "TheLiningsInIt$Zip" "gap" "I") ∈ lw_tbl ∧ ((((Cond.fieldLink RX7 307 "TheLiningsInIt$Zip" "gap" "I" : Cond)).onTables && ((Cond.fieldLink RX7 307 "TheLiningsInIt$Zip" "gap" "I" : Cond)).keeps) = true ∨ ∃ ty, (Cond.fieldLink RX7 307 "TheLiningsInIt$Zip" "gap" "I") = .arrayClass ty) := ⟨zt_0 (List.mem_of_getElem? (i := 55) rfl), good_of_word rfl⟩
theorem zg_1188 : (Cond.fieldLink RX7 304 "TheLiningsInIt$Jacket" "torn" "I") ∈ lw_tbl ∧ ((((Cond.fieldLink RX7 304 "TheLiningsInIt$Jacket" "torn" "I" : Cond)).onTables && ((Cond.fieldLink RX7 304 "TheLiningsInIt$Jacket" "torn" "I" : Cond)).keeps) = true ∨ ∃ ty, (Cond.fieldLink RX7 304 "TheLiningsInIt$Jacket" "torn" "I") = .arrayClass ty) := ⟨zt_0 (List.mem_of_getElem? (i := 84) rfl), good_of_word rfl⟩
theorem gl_wsX7_status : GoodIn lw_tbl wsX7_status := (zl_cons zg_1186 (goodIn_app (goodIn_app (goodIn_app (goodIn_app (zl_cons zg_11 (zl_cons zg_150 (zl_cons zg_242 (zl_cons zg_295 (zl_cons zg_294 (zl_cons zg_1023 (zl_cons zg_635 (zl_cons zg_1188 (zl_cons zg_634 (zl_cons zg_182 (zl_cons zg_1187 (zl_cons zg_1073 (zl_cons zg_1093 (zl_cons zg_1092 (zl_cons zg_18 (zl_cons zg_17 (zl_cons zg_21 (zl_cons zg_16 zl_nil)))))))))))))))))) gl_wsX70) gl_wsX00) gl_wsX60) gl_wsX10))
theorem zg_1189 : (Cond.selects RX7 yX7_status yX7_status) ∈ lw_tbl ∧ ((((Cond.selects RX7 yX7_status yX7_status : Cond)).onTables && ((Cond.selects RX7 yX7_status yX7_status : Cond)).keeps) = true ∨ ∃ ty, (Cond.selects RX7 yX7_status yX7_status) = .arrayClass ty) := ⟨zt_3 (List.mem_of_getElem? (i := 163) rfl), good_of_word rfl⟩
theorem zg_1190 : (Cond.instanceMethod yX7_status) ∈ lw_tbl ∧ ((((Cond.instanceMethod yX7_status : Cond)).onTables && ((Cond.instanceMethod yX7_status : Cond)).keeps) = true ∨ ∃ ty, (Cond.instanceMethod yX7_status) = .arrayClass ty) := ⟨zt_3 (List.mem_of_getElem? (i := 162) rfl), good_of_word rfl⟩
theorem zg_1191 : (Cond.methodLink RL 171 yX7_status) ∈ lw_tbl ∧ ((((Cond.methodLink RL 171 yX7_status : Cond)).onTables && ((Cond.methodLink RL 171 yX7_status : Cond)).keeps) = true ∨ ∃ ty, (Cond.methodLink RL 171 yX7_status) = .arrayClass ty) := ⟨zt_3 (List.mem_of_getElem? (i := 161) rfl), good_of_word rfl⟩
theorem gq_171 : GoodIn lw_tbl (wsV RL 171 RX7 yX7_status wsX7_status) := goodIn_app (zl_cons zg_1191 (zl_cons zg_1190 (zl_cons zg_1189 (zl_cons zg_21 zl_nil)))) gl_wsX7_status
theorem zg_1192 : (Cond.code yX8_status cX8_status 2 (some .int)) ∈ lw_tbl ∧ ((((Cond.code yX8_status cX8_status 2 (some .int) : Cond)).onTables && ((Cond.code yX8_status cX8_status 2 (some .int) : Cond)).keeps) = true ∨ ∃ ty, (Cond.code yX8_status cX8_status 2 (some .int)) = .arrayClass ty) := ⟨zt_5 (List.mem_of_getElem? (i := 171) rfl), good_of_word rfl⟩
theorem gl_wsX8_status : GoodIn lw_tbl wsX8_status := (zl_cons zg_1192 (goodIn_app (zl_cons zg_43 (zl_cons zg_164 (zl_cons zg_312 (zl_cons zg_307 (zl_cons zg_280 (zl_cons zg_557 (zl_cons zg_279 (zl_cons zg_217 (zl_cons zg_368 (zl_cons zg_556 (zl_cons zg_1134 zl_nil))))))))))) gl_wsX80))
theorem zg_1193 : (Cond.selects RX8 yX8_status yX8_status) ∈ lw_tbl ∧ ((((Cond.selects RX8 yX8_status yX8_status : Cond)).onTables && ((Cond.selects RX8 yX8_status yX8_status : Cond)).keeps) = true ∨ ∃ ty, (Cond.selects RX8 yX8_status yX8_status) = .arrayClass ty) := ⟨zt_5 (List.mem_of_getElem? (i := 170) rfl), good_of_word rfl⟩
theorem zg_1194 : (Cond.instanceMethod yX8_status) ∈ lw_tbl ∧ ((((Cond.instanceMethod yX8_status : Cond)).onTables && ((Cond.instanceMethod yX8_status : Cond)).keeps) = true ∨ ∃ ty, (Cond.instanceMethod yX8_status) = .arrayClass ty) := ⟨zt_5 (List.mem_of_getElem? (i := 169) rfl), good_of_word rfl⟩
theorem zg_1195 : (Cond.methodLink RL 174 yX8_status) ∈ lw_tbl ∧ ((((Cond.methodLink RL 174 yX8_status : Cond)).onTables && ((Cond.methodLink RL 174 yX8_status : Cond)).keeps) = true ∨ ∃ ty, (Cond.methodLink RL 174 yX8_status) = .arrayClass ty) := ⟨zt_5 (List.mem_of_getElem? (i := 168) rfl), good_of_word rfl⟩
theorem gq_174 : GoodIn lw_tbl (wsV RL 174 RX8 yX8_status wsX8_status) := goodIn_app (zl_cons zg_1195 (zl_cons zg_1194 (zl_cons zg_1193 (zl_cons zg_49 zl_nil)))) gl_wsX8_status
theorem zh_0 : (Cond.stringRef RX3 113 "teeth") ∈ lw_tbl := zt_1 (List.mem_of_getElem? (i := 204) (by decide +kernel))
theorem zh_1 : (Cond.stringRef RX3 114 "lack") ∈ lw_tbl := zt_1 (List.mem_of_getElem? (i := 205) (by decide +kernel))
theorem zh_2 : (Cond.stringRef RX3 116 "slack") ∈ lw_tbl := zt_1 (List.mem_of_getElem? (i := 206) (by decide +kernel))
theorem zh_3 : (Cond.stringRef RX3 118 "pull") ∈ lw_tbl := zt_1 (List.mem_of_getElem? (i := 207) (by decide +kernel))
theorem zh_4 : (Cond.stringRef RX3 120 "depth") ∈ lw_tbl := zt_1 (List.mem_of_getElem? (i := 208) (by decide +kernel))
theorem zh_5 : (Cond.stringRef RX3 122 "seconds") ∈ lw_tbl := zt_1 (List.mem_of_getElem? (i := 209) (by decide +kernel))
theorem zh_6 : (Cond.stringRef RX3 124 "hurry") ∈ lw_tbl := zt_1 (List.mem_of_getElem? (i := 210) (by decide +kernel))
theorem zh_7 : (Cond.stringRef RX3 126 "gap") ∈ lw_tbl := zt_1 (List.mem_of_getElem? (i := 211) (by decide +kernel))
theorem zh_8 : (Cond.stringRef RX3 128 "cost") ∈ lw_tbl := zt_1 (List.mem_of_getElem? (i := 212) (by decide +kernel))
theorem zh_9 : (Cond.stringRef RX3 130 "at") ∈ lw_tbl := zt_1 (List.mem_of_getElem? (i := 213) (by decide +kernel))
theorem zh_10 : (Cond.laysStatic "java/lang/String" "COMPACT_STRINGS" "Z") ∈ lw_tbl := zt_1 (List.mem_of_getElem? (i := 227) (by decide +kernel))
theorem zh_11 : (Cond.initialized "java/lang/String") ∈ lw_tbl := zt_0 (List.mem_of_getElem? (i := 13) (by decide +kernel))
theorem zh_12 : (Cond.laysStatic "jdk/internal/util/Preconditions" "SIOOBE_FORMATTER" "Ljava/util/function/BiFunction;") ∈ lw_tbl := zt_2 (List.mem_of_getElem? (i := 3) (by decide +kernel))
theorem zh_13 : (Cond.initialized "jdk/internal/util/Preconditions") ∈ lw_tbl := zt_0 (List.mem_of_getElem? (i := 15) (by decide +kernel))
theorem zg_1196 : (Cond.instantiable RX0 9) ∈ lw_tbl ∧ ((((Cond.instantiable RX0 9 : Cond)).onTables && ((Cond.instantiable RX0 9 : Cond)).keeps) = true ∨ ∃ ty, (Cond.instantiable RX0 9) = .arrayClass ty) := ⟨zt_0 (List.mem_of_getElem? (i := 28) rfl), good_of_word rfl⟩
theorem zg_1197 : (Cond.instantiable RX1 5) ∈ lw_tbl ∧ ((((Cond.instantiable RX1 5 : Cond)).onTables && ((Cond.instantiable RX1 5 : Cond)).keeps) = true ∨ ∃ ty, (Cond.instantiable RX1 5) = .arrayClass ty) := ⟨zt_0 (List.mem_of_getElem? (i := 172) rfl), good_of_word rfl⟩
theorem zg_1198 : (Cond.instantiable RX3 8) ∈ lw_tbl ∧ ((((Cond.instantiable RX3 8 : Cond)).onTables && ((Cond.instantiable RX3 8 : Cond)).keeps) = true ∨ ∃ ty, (Cond.instantiable RX3 8) = .arrayClass ty) := ⟨zt_0 (List.mem_of_getElem? (i := 140) rfl), good_of_word rfl⟩
theorem zg_1199 : (Cond.instantiable RX4 3) ∈ lw_tbl ∧ ((((Cond.instantiable RX4 3 : Cond)).onTables && ((Cond.instantiable RX4 3 : Cond)).keeps) = true ∨ ∃ ty, (Cond.instantiable RX4 3) = .arrayClass ty) := ⟨zt_0 (List.mem_of_getElem? (i := 194) rfl), good_of_word rfl⟩
theorem zg_1200 : (Cond.instantiable RX5 7) ∈ lw_tbl ∧ ((((Cond.instantiable RX5 7 : Cond)).onTables && ((Cond.instantiable RX5 7 : Cond)).keeps) = true ∨ ∃ ty, (Cond.instantiable RX5 7) = .arrayClass ty) := ⟨zt_0 (List.mem_of_getElem? (i := 111) rfl), good_of_word rfl⟩
theorem zg_1201 : (Cond.instantiable RX6 5) ∈ lw_tbl ∧ ((((Cond.instantiable RX6 5 : Cond)).onTables && ((Cond.instantiable RX6 5 : Cond)).keeps) = true ∨ ∃ ty, (Cond.instantiable RX6 5) = .arrayClass ty) := ⟨zt_0 (List.mem_of_getElem? (i := 34) rfl), good_of_word rfl⟩
theorem zg_1202 : (Cond.instantiable RX7 9) ∈ lw_tbl ∧ ((((Cond.instantiable RX7 9 : Cond)).onTables && ((Cond.instantiable RX7 9 : Cond)).keeps) = true ∨ ∃ ty, (Cond.instantiable RX7 9) = .arrayClass ty) := ⟨zt_0 (List.mem_of_getElem? (i := 18) rfl), good_of_word rfl⟩
theorem zg_1203 : (Cond.instantiable RX8 38) ∈ lw_tbl ∧ ((((Cond.instantiable RX8 38 : Cond)).onTables && ((Cond.instantiable RX8 38 : Cond)).keeps) = true ∨ ∃ ty, (Cond.instantiable RX8 38) = .arrayClass ty) := ⟨zt_3 (List.mem_of_getElem? (i := 166) rfl), good_of_word rfl⟩
theorem zg_1204 : (Cond.arrayClass .int) ∈ lw_tbl ∧ ((((Cond.arrayClass .int : Cond)).onTables && ((Cond.arrayClass .int : Cond)).keeps) = true ∨ ∃ ty, (Cond.arrayClass .int) = .arrayClass ty) := ⟨zt_0 (List.mem_of_getElem? (i := 68) rfl), good_of_word rfl⟩
theorem zg_1205 : (Cond.arrayClass .long) ∈ lw_tbl ∧ ((((Cond.arrayClass .long : Cond)).onTables && ((Cond.arrayClass .long : Cond)).keeps) = true ∨ ∃ ty, (Cond.arrayClass .long) = .arrayClass ty) := ⟨zt_0 (List.mem_of_getElem? (i := 212) rfl), good_of_word rfl⟩
theorem zg_1206 : (Cond.arrayClass .boolean) ∈ lw_tbl ∧ ((((Cond.arrayClass .boolean : Cond)).onTables && ((Cond.arrayClass .boolean : Cond)).keeps) = true ∨ ∃ ty, (Cond.arrayClass .boolean) = .arrayClass ty) := ⟨zt_0 (List.mem_of_getElem? (i := 67) rfl), good_of_word rfl⟩
theorem zh_14 : (Cond.arrayOver (.object RX2)) ∈ lw_tbl := zt_0 (List.mem_of_getElem? (i := 70) (by decide +kernel))
theorem zh_15 : (Cond.arrayOver (.object RX4)) ∈ lw_tbl := zt_0 (List.mem_of_getElem? (i := 26) (by decide +kernel))
theorem zh_16 : (Cond.methodLinkNest RX7 17 yX0_init RX7) ∈ lw_tbl := zt_0 (List.mem_of_getElem? (i := 29) (by decide +kernel))
theorem zh_17 : (Cond.methodLinkNest RX0 11 yX6_init RX7) ∈ lw_tbl := zt_0 (List.mem_of_getElem? (i := 35) (by decide +kernel))
theorem zh_18 : (Cond.methodLinkNest RX7 27 yX5_init RX7) ∈ lw_tbl := zt_0 (List.mem_of_getElem? (i := 112) (by decide +kernel))
theorem zh_19 : (Cond.methodLinkNest RX7 34 yX3_init RX7) ∈ lw_tbl := zt_0 (List.mem_of_getElem? (i := 141) (by decide +kernel))
theorem zh_20 : (Cond.methodLinkNest RX7 41 yX1_init RX7) ∈ lw_tbl := zt_0 (List.mem_of_getElem? (i := 173) (by decide +kernel))
theorem zh_21 : (Cond.methodLinkNest RX7 58 yX4_init RX7) ∈ lw_tbl := zt_0 (List.mem_of_getElem? (i := 195) (by decide +kernel))
theorem zh_22 : (Cond.methodLinkNest RX0 66 yX7_within RX7) ∈ lw_tbl := zt_1 (List.mem_of_getElem? (i := 58) (by decide +kernel))
theorem zh_23 : (Cond.methodLinkNest RX2 21 yX7_within RX7) ∈ lw_tbl := zt_1 (List.mem_of_getElem? (i := 71) (by decide +kernel))
theorem zh_24 : (Cond.methodLinkNest RX3 109 yX7_within RX7) ∈ lw_tbl := zt_2 (List.mem_of_getElem? (i := 56) (by decide +kernel))
theorem zh_25 : (Cond.methodLinkNest RX5 71 yX7_within RX7) ∈ lw_tbl := zt_2 (List.mem_of_getElem? (i := 112) (by decide +kernel))
theorem zh_26 : (Cond.methodLinkNest RX7 208 yX5_most RX7) ∈ lw_tbl := zt_2 (List.mem_of_getElem? (i := 127) (by decide +kernel))
theorem zh_27 : (Cond.methodLinkNest RX7 214 yX5_least RX7) ∈ lw_tbl := zt_2 (List.mem_of_getElem? (i := 153) (by decide +kernel))
theorem zh_28 : (Cond.methodLinkNest RX4 44 yX7_within RX7) ∈ lw_tbl := zt_2 (List.mem_of_getElem? (i := 176) (by decide +kernel))
theorem zh_29 : (Cond.methodLinkNest RX1 44 yX7_within RX7) ∈ lw_tbl := zt_3 (List.mem_of_getElem? (i := 122) (by decide +kernel))
theorem zh_30 : (Cond.fieldLinkNest RX2 25 RX7 "ABOVE" "[I" RX7) ∈ lw_tbl := zt_1 (List.mem_of_getElem? (i := 72) (by decide +kernel))
theorem zh_31 : (Cond.fieldLinkNest RX1 58 RX7 "ABOVE" "[I" RX7) ∈ lw_tbl := zt_3 (List.mem_of_getElem? (i := 126) (by decide +kernel))
theorem zh_32 : (Cond.laysStatic RX5 "POWERS" "[I") ∈ lw_tbl := zt_2 (List.mem_of_getElem? (i := 125) (by decide +kernel))
theorem zh_33 : (Cond.laysStatic RX7 "ABOVE" "[I") ∈ lw_tbl := zt_1 (List.mem_of_getElem? (i := 73) (by decide +kernel))
theorem zg_1207 : (Cond.classLink RL 7 RX7) ∈ lw_tbl ∧ ((((Cond.classLink RL 7 RX7 : Cond)).onTables && ((Cond.classLink RL 7 RX7 : Cond)).keeps) = true ∨ ∃ ty, (Cond.classLink RL 7 RX7) = .arrayClass ty) := ⟨zt_0 (List.mem_of_getElem? (i := 17) rfl), good_of_word rfl⟩
theorem zg_1208 : (Cond.code yX7_init cX7_init 2 none) ∈ lw_tbl ∧ ((((Cond.code yX7_init cX7_init 2 none : Cond)).onTables && ((Cond.code yX7_init cX7_init 2 none : Cond)).keeps) = true ∨ ∃ ty, (Cond.code yX7_init cX7_init 2 none) = .arrayClass ty) := ⟨zt_0 (List.mem_of_getElem? (i := 21) rfl), good_of_word rfl⟩
theorem zg_1209 : (Cond.classLink RX7 39 RX1) ∈ lw_tbl ∧ ((((Cond.classLink RX7 39 RX1 : Cond)).onTables && ((Cond.classLink RX7 39 RX1 : Cond)).keeps) = true ∨ ∃ ty, (Cond.classLink RX7 39 RX1) = .arrayClass ty) := ⟨zt_0 (List.mem_of_getElem? (i := 171) rfl), good_of_word rfl⟩
theorem zg_1210 : (Cond.classLink RX7 32 RX3) ∈ lw_tbl ∧ ((((Cond.classLink RX7 32 RX3 : Cond)).onTables && ((Cond.classLink RX7 32 RX3 : Cond)).keeps) = true ∨ ∃ ty, (Cond.classLink RX7 32 RX3) = .arrayClass ty) := ⟨zt_0 (List.mem_of_getElem? (i := 139) rfl), good_of_word rfl⟩
theorem zg_1211 : (Cond.classLink RX7 25 RX5) ∈ lw_tbl ∧ ((((Cond.classLink RX7 25 RX5 : Cond)).onTables && ((Cond.classLink RX7 25 RX5 : Cond)).keeps) = true ∨ ∃ ty, (Cond.classLink RX7 25 RX5) = .arrayClass ty) := ⟨zt_0 (List.mem_of_getElem? (i := 110) rfl), good_of_word rfl⟩
theorem zg_1212 : (Cond.classLink RX7 15 RX0) ∈ lw_tbl ∧ ((((Cond.classLink RX7 15 RX0 : Cond)).onTables && ((Cond.classLink RX7 15 RX0 : Cond)).keeps) = true ∨ ∃ ty, (Cond.classLink RX7 15 RX0) = .arrayClass ty) := ⟨zt_0 (List.mem_of_getElem? (i := 27) rfl), good_of_word rfl⟩
theorem zg_1213 : (Cond.classLink RX7 9 RX4) ∈ lw_tbl ∧ ((((Cond.classLink RX7 9 RX4 : Cond)).onTables && ((Cond.classLink RX7 9 RX4 : Cond)).keeps) = true ∨ ∃ ty, (Cond.classLink RX7 9 RX4) = .arrayClass ty) := ⟨zt_0 (List.mem_of_getElem? (i := 25) rfl), good_of_word rfl⟩
theorem zg_1214 : (Cond.methodLink RX7 1 objectInit) ∈ lw_tbl ∧ ((((Cond.methodLink RX7 1 objectInit : Cond)).onTables && ((Cond.methodLink RX7 1 objectInit : Cond)).keeps) = true ∨ ∃ ty, (Cond.methodLink RX7 1 objectInit) = .arrayClass ty) := ⟨zt_0 (List.mem_of_getElem? (i := 22) rfl), good_of_word rfl⟩
theorem gl_wsX7_init_r1 : GoodIn lw_tbl wsX7_init_r1 := (zl_cons zg_1214 (zl_cons zg_245 (zl_cons zg_244 (zl_cons zg_1213 (zl_cons zg_19 (zl_cons zg_1212 (zl_cons zg_1196 (zl_cons zg_146 (zl_cons zg_150 (zl_cons zg_1162 (zl_cons zg_1211 (zl_cons zg_1200 (zl_cons zg_626 (zl_cons zg_636 (zl_cons zg_1210 (zl_cons zg_1198 (zl_cons zg_407 (zl_cons zg_392 (zl_cons zg_1209 (zl_cons zg_1197 (zl_cons zg_1088 (zl_cons zg_1093 (zl_cons zg_1204 (zl_cons zg_11 zl_nil))))))))))))))))))))))))
theorem zg_1215 : (Cond.methodLink RX6 3 objectInit) ∈ lw_tbl ∧ ((((Cond.methodLink RX6 3 objectInit : Cond)).onTables && ((Cond.methodLink RX6 3 objectInit : Cond)).keeps) = true ∨ ∃ ty, (Cond.methodLink RX6 3 objectInit) = .arrayClass ty) := ⟨zt_0 (List.mem_of_getElem? (i := 38) rfl), good_of_word rfl⟩
theorem zg_1216 : (Cond.code yX6_init cX6_init 1 none) ∈ lw_tbl ∧ ((((Cond.code yX6_init cX6_init 1 none : Cond)).onTables && ((Cond.code yX6_init cX6_init 1 none : Cond)).keeps) = true ∨ ∃ ty, (Cond.code yX6_init cX6_init 1 none) = .arrayClass ty) := ⟨zt_0 (List.mem_of_getElem? (i := 37) rfl), good_of_word rfl⟩
theorem zg_1217 : (Cond.instanceMethod yX6_init) ∈ lw_tbl ∧ ((((Cond.instanceMethod yX6_init : Cond)).onTables && ((Cond.instanceMethod yX6_init : Cond)).keeps) = true ∨ ∃ ty, (Cond.instanceMethod yX6_init) = .arrayClass ty) := ⟨zt_0 (List.mem_of_getElem? (i := 36) rfl), good_of_word rfl⟩
theorem zg_1218 : (Cond.classLink RX0 9 RX6) ∈ lw_tbl ∧ ((((Cond.classLink RX0 9 RX6 : Cond)).onTables && ((Cond.classLink RX0 9 RX6 : Cond)).keeps) = true ∨ ∃ ty, (Cond.classLink RX0 9 RX6) = .arrayClass ty) := ⟨zt_0 (List.mem_of_getElem? (i := 33) rfl), good_of_word rfl⟩
theorem zg_1219 : (Cond.methodLink RX0 3 objectInit) ∈ lw_tbl ∧ ((((Cond.methodLink RX0 3 objectInit : Cond)).onTables && ((Cond.methodLink RX0 3 objectInit : Cond)).keeps) = true ∨ ∃ ty, (Cond.methodLink RX0 3 objectInit) = .arrayClass ty) := ⟨zt_0 (List.mem_of_getElem? (i := 32) rfl), good_of_word rfl⟩
theorem zg_1220 : (Cond.code yX0_init cX0_init 1 none) ∈ lw_tbl ∧ ((((Cond.code yX0_init cX0_init 1 none : Cond)).onTables && ((Cond.code yX0_init cX0_init 1 none : Cond)).keeps) = true ∨ ∃ ty, (Cond.code yX0_init cX0_init 1 none) = .arrayClass ty) := ⟨zt_0 (List.mem_of_getElem? (i := 31) rfl), good_of_word rfl⟩
theorem zg_1221 : (Cond.instanceMethod yX0_init) ∈ lw_tbl ∧ ((((Cond.instanceMethod yX0_init : Cond)).onTables && ((Cond.instanceMethod yX0_init : Cond)).keeps) = true ∨ ∃ ty, (Cond.instanceMethod yX0_init) = .arrayClass ty) := ⟨zt_0 (List.mem_of_getElem? (i := 30) rfl), good_of_word rfl⟩
theorem gl_wsX7_init_r2 : GoodIn lw_tbl wsX7_init_r2 := (zl_cons zg_1161 (zl_cons zg_391 (zl_cons zg_1199 (zl_cons zg_7 (zl_cons zg_1221 (zl_cons zg_1220 (zl_cons zg_1219 (zl_cons zg_1218 (zl_cons zg_1201 (zl_cons zg_290 (zl_cons zg_348 (zl_cons zg_237 (zl_cons zg_143 (zl_cons zg_360 (zl_cons zg_144 (zl_cons zg_266 (zl_cons zg_992 (zl_cons zg_265 (zl_cons zg_363 (zl_cons zg_987 (zl_cons zg_1217 (zl_cons zg_1216 (zl_cons zg_1215 (zl_cons zg_1206 zl_nil))))))))))))))))))))))))
theorem zg_1222 : (Cond.methodLink RX3 3 objectInit) ∈ lw_tbl ∧ ((((Cond.methodLink RX3 3 objectInit : Cond)).onTables && ((Cond.methodLink RX3 3 objectInit : Cond)).keeps) = true ∨ ∃ ty, (Cond.methodLink RX3 3 objectInit) = .arrayClass ty) := ⟨zt_0 (List.mem_of_getElem? (i := 144) rfl), good_of_word rfl⟩
theorem zg_1223 : (Cond.code yX3_init cX3_init 1 none) ∈ lw_tbl ∧ ((((Cond.code yX3_init cX3_init 1 none : Cond)).onTables && ((Cond.code yX3_init cX3_init 1 none : Cond)).keeps) = true ∨ ∃ ty, (Cond.code yX3_init cX3_init 1 none) = .arrayClass ty) := ⟨zt_0 (List.mem_of_getElem? (i := 143) rfl), good_of_word rfl⟩
theorem zg_1224 : (Cond.instanceMethod yX3_init) ∈ lw_tbl ∧ ((((Cond.instanceMethod yX3_init : Cond)).onTables && ((Cond.instanceMethod yX3_init : Cond)).keeps) = true ∨ ∃ ty, (Cond.instanceMethod yX3_init) = .arrayClass ty) := ⟨zt_0 (List.mem_of_getElem? (i := 142) rfl), good_of_word rfl⟩
theorem zg_1225 : (Cond.classLink RX5 21 RX2) ∈ lw_tbl ∧ ((((Cond.classLink RX5 21 RX2 : Cond)).onTables && ((Cond.classLink RX5 21 RX2 : Cond)).keeps) = true ∨ ∃ ty, (Cond.classLink RX5 21 RX2) = .arrayClass ty) := ⟨zt_0 (List.mem_of_getElem? (i := 116) rfl), good_of_word rfl⟩
theorem zg_1226 : (Cond.methodLink RX5 3 objectInit) ∈ lw_tbl ∧ ((((Cond.methodLink RX5 3 objectInit : Cond)).onTables && ((Cond.methodLink RX5 3 objectInit : Cond)).keeps) = true ∨ ∃ ty, (Cond.methodLink RX5 3 objectInit) = .arrayClass ty) := ⟨zt_0 (List.mem_of_getElem? (i := 115) rfl), good_of_word rfl⟩
theorem zg_1227 : (Cond.code yX5_init cX5_init 1 none) ∈ lw_tbl ∧ ((((Cond.code yX5_init cX5_init 1 none : Cond)).onTables && ((Cond.code yX5_init cX5_init 1 none : Cond)).keeps) = true ∨ ∃ ty, (Cond.code yX5_init cX5_init 1 none) = .arrayClass ty) := ⟨zt_0 (List.mem_of_getElem? (i := 114) rfl), good_of_word rfl⟩
theorem zg_1228 : (Cond.instanceMethod yX5_init) ∈ lw_tbl ∧ ((((Cond.instanceMethod yX5_init : Cond)).onTables && ((Cond.instanceMethod yX5_init : Cond)).keeps) = true ∨ ∃ ty, (Cond.instanceMethod yX5_init) = .arrayClass ty) := ⟨zt_0 (List.mem_of_getElem? (i := 113) rfl), good_of_word rfl⟩
theorem gl_wsX7_init_r3 : GoodIn lw_tbl wsX7_init_r3 := (zl_cons zg_286 (zl_cons zg_285 (zl_cons zg_288 (zl_cons zg_287 (zl_cons zg_886 (zl_cons zg_1228 (zl_cons zg_1227 (zl_cons zg_1226 (zl_cons zg_639 (zl_cons zg_638 (zl_cons zg_641 (zl_cons zg_1225 (zl_cons zg_645 (zl_cons zg_649 (zl_cons zg_648 (zl_cons zg_647 (zl_cons zg_1224 (zl_cons zg_1223 (zl_cons zg_1222 (zl_cons zg_418 (zl_cons zg_393 (zl_cons zg_400 (zl_cons zg_401 (zl_cons zg_403 zl_nil))))))))))))))))))))))))
theorem zg_1229 : (Cond.methodLink RX4 3 objectInit) ∈ lw_tbl ∧ ((((Cond.methodLink RX4 3 objectInit : Cond)).onTables && ((Cond.methodLink RX4 3 objectInit : Cond)).keeps) = true ∨ ∃ ty, (Cond.methodLink RX4 3 objectInit) = .arrayClass ty) := ⟨zt_0 (List.mem_of_getElem? (i := 198) rfl), good_of_word rfl⟩
theorem zg_1230 : (Cond.code yX4_init cX4_init 1 none) ∈ lw_tbl ∧ ((((Cond.code yX4_init cX4_init 1 none : Cond)).onTables && ((Cond.code yX4_init cX4_init 1 none : Cond)).keeps) = true ∨ ∃ ty, (Cond.code yX4_init cX4_init 1 none) = .arrayClass ty) := ⟨zt_0 (List.mem_of_getElem? (i := 197) rfl), good_of_word rfl⟩
theorem zg_1231 : (Cond.instanceMethod yX4_init) ∈ lw_tbl ∧ ((((Cond.instanceMethod yX4_init : Cond)).onTables && ((Cond.instanceMethod yX4_init : Cond)).keeps) = true ∨ ∃ ty, (Cond.instanceMethod yX4_init) = .arrayClass ty) := ⟨zt_0 (List.mem_of_getElem? (i := 196) rfl), good_of_word rfl⟩
theorem zg_1232 : (Cond.methodLink RX1 3 objectInit) ∈ lw_tbl ∧ ((((Cond.methodLink RX1 3 objectInit : Cond)).onTables && ((Cond.methodLink RX1 3 objectInit : Cond)).keeps) = true ∨ ∃ ty, (Cond.methodLink RX1 3 objectInit) = .arrayClass ty) := ⟨zt_0 (List.mem_of_getElem? (i := 176) rfl), good_of_word rfl⟩
theorem zg_1233 : (Cond.code yX1_init cX1_init 1 none) ∈ lw_tbl ∧ ((((Cond.code yX1_init cX1_init 1 none : Cond)).onTables && ((Cond.code yX1_init cX1_init 1 none : Cond)).keeps) = true ∨ ∃ ty, (Cond.code yX1_init cX1_init 1 none) = .arrayClass ty) := ⟨zt_0 (List.mem_of_getElem? (i := 175) rfl), good_of_word rfl⟩
theorem zg_1234 : (Cond.instanceMethod yX1_init) ∈ lw_tbl ∧ ((((Cond.instanceMethod yX1_init : Cond)).onTables && ((Cond.instanceMethod yX1_init : Cond)).keeps) = true ∨ ∃ ty, (Cond.instanceMethod yX1_init) = .arrayClass ty) := ⟨zt_0 (List.mem_of_getElem? (i := 174) rfl), good_of_word rfl⟩
theorem gl_wsX7_init_r4 : GoodIn lw_tbl wsX7_init_r4 := (zl_cons zg_402 (zl_cons zg_405 (zl_cons zg_404 (zl_cons zg_1234 (zl_cons zg_1233 (zl_cons zg_1232 (zl_cons zg_1094 (zl_cons zg_1095 (zl_cons zg_1085 (zl_cons zg_1084 (zl_cons zg_1082 (zl_cons zg_1231 (zl_cons zg_1230 (zl_cons zg_1229 (zl_cons zg_1205 (zl_cons zg_3 (zl_cons zg_5 (zl_cons zg_4 zl_nil))))))))))))))))))
theorem gl_wsX7_init : GoodIn lw_tbl wsX7_init := (zl_cons zg_1208 (goodIn_app (goodIn_app (goodIn_app (goodIn_app (goodIn_app (goodIn_app (goodIn_app (goodIn_app gl_wsX7_init_r1 (goodIn_app gl_wsX7_init_r2 (goodIn_app gl_wsX7_init_r3 gl_wsX7_init_r4))) gl_wsX70) gl_wsX00) gl_wsX50) gl_wsX30) gl_wsX10) gl_wsX40) gl_wsX60))
theorem zg_1235 : (Cond.methodLink RL 9 yX7_init) ∈ lw_tbl ∧ ((((Cond.methodLink RL 9 yX7_init : Cond)).onTables && ((Cond.methodLink RL 9 yX7_init : Cond)).keeps) = true ∨ ∃ ty, (Cond.methodLink RL 9 yX7_init) = .arrayClass ty) := ⟨zt_0 (List.mem_of_getElem? (i := 19) rfl), good_of_word rfl⟩
theorem zg_1236 : (Cond.instanceMethod yX7_init) ∈ lw_tbl ∧ ((((Cond.instanceMethod yX7_init : Cond)).onTables && ((Cond.instanceMethod yX7_init : Cond)).keeps) = true ∨ ∃ ty, (Cond.instanceMethod yX7_init) = .arrayClass ty) := ⟨zt_0 (List.mem_of_getElem? (i := 20) rfl), good_of_word rfl⟩
theorem zg_1237 : (Cond.classLink RL 10 RX8) ∈ lw_tbl ∧ ((((Cond.classLink RL 10 RX8 : Cond)).onTables && ((Cond.classLink RL 10 RX8 : Cond)).keeps) = true ∨ ∃ ty, (Cond.classLink RL 10 RX8) = .arrayClass ty) := ⟨zt_3 (List.mem_of_getElem? (i := 165) rfl), good_of_word rfl⟩
theorem zg_1238 : (Cond.code yX8_init cX8_init 1 none) ∈ lw_tbl ∧ ((((Cond.code yX8_init cX8_init 1 none : Cond)).onTables && ((Cond.code yX8_init cX8_init 1 none : Cond)).keeps) = true ∨ ∃ ty, (Cond.code yX8_init cX8_init 1 none) = .arrayClass ty) := ⟨zt_3 (List.mem_of_getElem? (i := 169) rfl), good_of_word rfl⟩
theorem zg_1239 : (Cond.methodLink RX8 1 objectInit) ∈ lw_tbl ∧ ((((Cond.methodLink RX8 1 objectInit : Cond)).onTables && ((Cond.methodLink RX8 1 objectInit : Cond)).keeps) = true ∨ ∃ ty, (Cond.methodLink RX8 1 objectInit) = .arrayClass ty) := ⟨zt_3 (List.mem_of_getElem? (i := 170) rfl), good_of_word rfl⟩
theorem gl_wsX8_init_r1 : GoodIn lw_tbl wsX8_init_r1 := (zl_cons zg_1239 (zl_cons zg_245 (zl_cons zg_244 (zl_cons zg_312 (zl_cons zg_279 (zl_cons zg_368 (zl_cons zg_556 (zl_cons zg_545 (zl_cons zg_1204 (zl_cons zg_43 (zl_cons zg_228 (zl_cons zg_222 (zl_cons zg_227 (zl_cons zg_306 (zl_cons zg_305 (zl_cons zg_385 (zl_cons zg_56 (zl_cons zg_55 (zl_cons zg_54 (zl_cons zg_169 (zl_cons zg_1205 (zl_cons zg_53 (zl_cons zg_130 (zl_cons zg_575 zl_nil))))))))))))))))))))))))
theorem gl_wsX8_init_r2 : GoodIn lw_tbl wsX8_init_r2 := (zl_cons zg_582 (zl_cons zg_581 (zl_cons zg_549 (zl_cons zg_1169 (zl_cons zg_860 (zl_cons zg_859 (zl_cons zg_1125 zl_nil)))))))
theorem gl_wsX8_init : GoodIn lw_tbl wsX8_init := (zl_cons zg_1238 (goodIn_app (goodIn_app gl_wsX8_init_r1 gl_wsX8_init_r2) gl_wsX80))
theorem zg_1240 : (Cond.methodLink RL 12 yX8_init) ∈ lw_tbl ∧ ((((Cond.methodLink RL 12 yX8_init : Cond)).onTables && ((Cond.methodLink RL 12 yX8_init : Cond)).keeps) = true ∨ ∃ ty, (Cond.methodLink RL 12 yX8_init) = .arrayClass ty) := ⟨zt_3 (List.mem_of_getElem? (i := 167) rfl), good_of_word rfl⟩
theorem zg_1241 : (Cond.instanceMethod yX8_init) ∈ lw_tbl ∧ ((((Cond.instanceMethod yX8_init : Cond)).onTables && ((Cond.instanceMethod yX8_init : Cond)).keeps) = true ∨ ∃ ty, (Cond.instanceMethod yX8_init) = .arrayClass ty) := ⟨zt_3 (List.mem_of_getElem? (i := 168) rfl), good_of_word rfl⟩
end
section
theorem dL_law_0 : decode cL_law 0 = .ok (.new 7, 3) := dq_187 dp_cL_law rfl
theorem dL_law_3 : decode cL_law 3 = .ok (.dup, 1) := dq_89 dp_cL_law rfl
theorem dL_law_4 : decode cL_law 4 = .ok (.invokespecial 9, 3) := dq_183 dp_cL_law rfl
theorem dL_law_7 : decode cL_law 7 = .ok (.astore_n 1, 1) := dq_76 dp_cL_law rfl
theorem dL_law_8 : decode cL_law 8 = .ok (.new 10, 3) := dq_187 dp_cL_law rfl
theorem dL_law_11 : decode cL_law 11 = .ok (.dup, 1) := dq_89 dp_cL_law rfl
theorem dL_law_12 : decode cL_law 12 = .ok (.invokespecial 12, 3) := dq_183 dp_cL_law rfl
theorem dL_law_15 : decode cL_law 15 = .ok (.astore_n 2, 1) := dq_77 dp_cL_law rfl
theorem dL_law_16 : decode cL_law 16 = .ok (.iconst 0, 1) := dq_3 dp_cL_law rfl
theorem dL_law_17 : decode cL_law 17 = .ok (.istore_n 3, 1) := dq_62 dp_cL_law rfl
theorem dL_law_18 : decode cL_law 18 = .ok (.iload_n 3, 1) := dq_29 dp_cL_law rfl
theorem dL_law_19 : decode cL_law 19 = .ok (.aload_n 0, 1) := dq_42 dp_cL_law rfl
theorem dL_law_20 : decode cL_law 20 = .ok (.arraylength, 1) := dq_190 dp_cL_law rfl
theorem dL_law_21 : decode cL_law 21 = .ok (.bipush 6, 2) := dq_16 (v := 6) dp_cL_law rfl rfl
theorem dL_law_23 : decode cL_law 23 = .ok (.isub, 1) := dq_100 dp_cL_law rfl
theorem dL_law_24 : decode cL_law 24 = .ok (.if_icmp .gt 1352, 3) := dq_163 (v := 1352) dp_cL_law rfl rfl
theorem dL_law_27 : decode cL_law 27 = .ok (.aload_n 0, 1) := dq_42 dp_cL_law rfl
theorem dL_law_28 : decode cL_law 28 = .ok (.iload_n 3, 1) := dq_29 dp_cL_law rfl
theorem dL_law_29 : decode cL_law 29 = .ok (.iaload, 1) := dq_46 dp_cL_law rfl
theorem dL_law_30 : decode cL_law 30 = .ok (.bipush 63, 2) := dq_16 (v := 63) dp_cL_law rfl rfl
theorem dL_law_32 : decode cL_law 32 = .ok (.iand, 1) := dq_126 dp_cL_law rfl
theorem dL_law_33 : decode cL_law 33 = .ok (.tableswitch 1337 0 37 #[167, 210, 283, 346, 379, 412, 435, 468, 511, 544, 567, 616, 649, 682, 705, 718, 761, 794, 827, 860, 893, 916, 959, 982, 1005, 1028, 1061, 1104, 1117, 1140, 1153, 1176, 1199, 1222, 1265, 1288, 1301, 1314], 167) := by decide +kernel
theorem dL_law_200 : decode cL_law 200 = .ok (.aload_n 1, 1) := dq_43 dp_cL_law rfl
theorem dL_law_201 : decode cL_law 201 = .ok (.aload_n 0, 1) := dq_42 dp_cL_law rfl
theorem dL_law_202 : decode cL_law 202 = .ok (.iload_n 3, 1) := dq_29 dp_cL_law rfl
theorem dL_law_203 : decode cL_law 203 = .ok (.iconst 1, 1) := dq_4 dp_cL_law rfl
theorem dL_law_204 : decode cL_law 204 = .ok (.iadd, 1) := dq_96 dp_cL_law rfl
theorem dL_law_205 : decode cL_law 205 = .ok (.iaload, 1) := dq_46 dp_cL_law rfl
theorem dL_law_206 : decode cL_law 206 = .ok (.aload_n 0, 1) := dq_42 dp_cL_law rfl
theorem dL_law_207 : decode cL_law 207 = .ok (.iload_n 3, 1) := dq_29 dp_cL_law rfl
theorem dL_law_208 : decode cL_law 208 = .ok (.iconst 2, 1) := dq_5 dp_cL_law rfl
theorem dL_law_209 : decode cL_law 209 = .ok (.iadd, 1) := dq_96 dp_cL_law rfl
theorem dL_law_210 : decode cL_law 210 = .ok (.iaload, 1) := dq_46 dp_cL_law rfl
theorem dL_law_211 : decode cL_law 211 = .ok (.aload_n 0, 1) := dq_42 dp_cL_law rfl
theorem dL_law_212 : decode cL_law 212 = .ok (.iload_n 3, 1) := dq_29 dp_cL_law rfl
theorem dL_law_213 : decode cL_law 213 = .ok (.iconst 3, 1) := dq_6 dp_cL_law rfl
theorem dL_law_214 : decode cL_law 214 = .ok (.iadd, 1) := dq_96 dp_cL_law rfl
theorem dL_law_215 : decode cL_law 215 = .ok (.iaload, 1) := dq_46 dp_cL_law rfl
theorem dL_law_216 : decode cL_law 216 = .ok (.invokevirtual 13, 3) := dq_182 dp_cL_law rfl
theorem dL_law_219 : decode cL_law 219 = .ok (.pop, 1) := dq_87 dp_cL_law rfl
theorem dL_law_220 : decode cL_law 220 = .ok (.aload_n 2, 1) := dq_44 dp_cL_law rfl
theorem dL_law_221 : decode cL_law 221 = .ok (.aload_n 0, 1) := dq_42 dp_cL_law rfl
theorem dL_law_222 : decode cL_law 222 = .ok (.iload_n 3, 1) := dq_29 dp_cL_law rfl
theorem dL_law_223 : decode cL_law 223 = .ok (.iconst 1, 1) := dq_4 dp_cL_law rfl
theorem dL_law_224 : decode cL_law 224 = .ok (.iadd, 1) := dq_96 dp_cL_law rfl
theorem dL_law_225 : decode cL_law 225 = .ok (.iaload, 1) := dq_46 dp_cL_law rfl
theorem dL_law_226 : decode cL_law 226 = .ok (.aload_n 0, 1) := dq_42 dp_cL_law rfl
theorem dL_law_227 : decode cL_law 227 = .ok (.iload_n 3, 1) := dq_29 dp_cL_law rfl
theorem dL_law_228 : decode cL_law 228 = .ok (.iconst 2, 1) := dq_5 dp_cL_law rfl
theorem dL_law_229 : decode cL_law 229 = .ok (.iadd, 1) := dq_96 dp_cL_law rfl
theorem dL_law_230 : decode cL_law 230 = .ok (.iaload, 1) := dq_46 dp_cL_law rfl
theorem dL_law_231 : decode cL_law 231 = .ok (.aload_n 0, 1) := dq_42 dp_cL_law rfl
theorem dL_law_232 : decode cL_law 232 = .ok (.iload_n 3, 1) := dq_29 dp_cL_law rfl
theorem dL_law_233 : decode cL_law 233 = .ok (.iconst 3, 1) := dq_6 dp_cL_law rfl
theorem dL_law_234 : decode cL_law 234 = .ok (.iadd, 1) := dq_96 dp_cL_law rfl
theorem dL_law_235 : decode cL_law 235 = .ok (.iaload, 1) := dq_46 dp_cL_law rfl
theorem dL_law_236 : decode cL_law 236 = .ok (.invokevirtual 17, 3) := dq_182 dp_cL_law rfl
theorem dL_law_239 : decode cL_law 239 = .ok (.pop, 1) := dq_87 dp_cL_law rfl
theorem dL_law_240 : decode cL_law 240 = .ok (.goto 1130, 3) := dq_167 (v := 1130) dp_cL_law rfl rfl
theorem dL_law_243 : decode cL_law 243 = .ok (.aload_n 1, 1) := dq_43 dp_cL_law rfl
theorem dL_law_244 : decode cL_law 244 = .ok (.aload_n 0, 1) := dq_42 dp_cL_law rfl
theorem dL_law_245 : decode cL_law 245 = .ok (.iload_n 3, 1) := dq_29 dp_cL_law rfl
theorem dL_law_246 : decode cL_law 246 = .ok (.iconst 1, 1) := dq_4 dp_cL_law rfl
theorem dL_law_247 : decode cL_law 247 = .ok (.iadd, 1) := dq_96 dp_cL_law rfl
theorem dL_law_248 : decode cL_law 248 = .ok (.iaload, 1) := dq_46 dp_cL_law rfl
theorem dL_law_249 : decode cL_law 249 = .ok (.aload_n 0, 1) := dq_42 dp_cL_law rfl
theorem dL_law_250 : decode cL_law 250 = .ok (.iload_n 3, 1) := dq_29 dp_cL_law rfl
theorem dL_law_251 : decode cL_law 251 = .ok (.iconst 2, 1) := dq_5 dp_cL_law rfl
theorem dL_law_252 : decode cL_law 252 = .ok (.iadd, 1) := dq_96 dp_cL_law rfl
theorem dL_law_253 : decode cL_law 253 = .ok (.iaload, 1) := dq_46 dp_cL_law rfl
theorem dL_law_254 : decode cL_law 254 = .ok (.aload_n 0, 1) := dq_42 dp_cL_law rfl
theorem dL_law_255 : decode cL_law 255 = .ok (.iload_n 3, 1) := dq_29 dp_cL_law rfl
theorem dL_law_256 : decode cL_law 256 = .ok (.iconst 3, 1) := dq_6 dp_cL_law rfl
theorem dL_law_257 : decode cL_law 257 = .ok (.iadd, 1) := dq_96 dp_cL_law rfl
theorem dL_law_258 : decode cL_law 258 = .ok (.iaload, 1) := dq_46 dp_cL_law rfl
theorem dL_law_259 : decode cL_law 259 = .ok (.i2l, 1) := dq_133 dp_cL_law rfl
theorem dL_law_260 : decode cL_law 260 = .ok (.bipush 32, 2) := dq_16 (v := 32) dp_cL_law rfl rfl
theorem dL_law_262 : decode cL_law 262 = .ok (.lshl, 1) := dq_121 dp_cL_law rfl
theorem dL_law_263 : decode cL_law 263 = .ok (.aload_n 0, 1) := dq_42 dp_cL_law rfl
theorem dL_law_264 : decode cL_law 264 = .ok (.iload_n 3, 1) := dq_29 dp_cL_law rfl
theorem dL_law_265 : decode cL_law 265 = .ok (.iconst 4, 1) := dq_7 dp_cL_law rfl
theorem dL_law_266 : decode cL_law 266 = .ok (.iadd, 1) := dq_96 dp_cL_law rfl
theorem dL_law_267 : decode cL_law 267 = .ok (.iaload, 1) := dq_46 dp_cL_law rfl
theorem dL_law_268 : decode cL_law 268 = .ok (.i2l, 1) := dq_133 dp_cL_law rfl
theorem dL_law_269 : decode cL_law 269 = .ok (.ldc2_w 18, 3) := dq_20 dp_cL_law rfl
theorem dL_law_272 : decode cL_law 272 = .ok (.land, 1) := dq_127 dp_cL_law rfl
theorem dL_law_273 : decode cL_law 273 = .ok (.lor, 1) := dq_129 dp_cL_law rfl
theorem dL_law_274 : decode cL_law 274 = .ok (.invokevirtual 20, 3) := dq_182 dp_cL_law rfl
theorem dL_law_277 : decode cL_law 277 = .ok (.pop, 1) := dq_87 dp_cL_law rfl
theorem dL_law_278 : decode cL_law 278 = .ok (.aload_n 2, 1) := dq_44 dp_cL_law rfl
theorem dL_law_279 : decode cL_law 279 = .ok (.aload_n 0, 1) := dq_42 dp_cL_law rfl
theorem dL_law_280 : decode cL_law 280 = .ok (.iload_n 3, 1) := dq_29 dp_cL_law rfl
theorem dL_law_281 : decode cL_law 281 = .ok (.iconst 1, 1) := dq_4 dp_cL_law rfl
theorem dL_law_282 : decode cL_law 282 = .ok (.iadd, 1) := dq_96 dp_cL_law rfl
theorem dL_law_283 : decode cL_law 283 = .ok (.iaload, 1) := dq_46 dp_cL_law rfl
theorem dL_law_284 : decode cL_law 284 = .ok (.aload_n 0, 1) := dq_42 dp_cL_law rfl
theorem dL_law_285 : decode cL_law 285 = .ok (.iload_n 3, 1) := dq_29 dp_cL_law rfl
theorem dL_law_286 : decode cL_law 286 = .ok (.iconst 2, 1) := dq_5 dp_cL_law rfl
theorem dL_law_287 : decode cL_law 287 = .ok (.iadd, 1) := dq_96 dp_cL_law rfl
theorem dL_law_288 : decode cL_law 288 = .ok (.iaload, 1) := dq_46 dp_cL_law rfl
theorem dL_law_289 : decode cL_law 289 = .ok (.aload_n 0, 1) := dq_42 dp_cL_law rfl
theorem dL_law_290 : decode cL_law 290 = .ok (.iload_n 3, 1) := dq_29 dp_cL_law rfl
theorem dL_law_291 : decode cL_law 291 = .ok (.iconst 3, 1) := dq_6 dp_cL_law rfl
theorem dL_law_292 : decode cL_law 292 = .ok (.iadd, 1) := dq_96 dp_cL_law rfl
theorem dL_law_293 : decode cL_law 293 = .ok (.iaload, 1) := dq_46 dp_cL_law rfl
theorem dL_law_294 : decode cL_law 294 = .ok (.i2l, 1) := dq_133 dp_cL_law rfl
theorem dL_law_295 : decode cL_law 295 = .ok (.bipush 32, 2) := dq_16 (v := 32) dp_cL_law rfl rfl
theorem dL_law_297 : decode cL_law 297 = .ok (.lshl, 1) := dq_121 dp_cL_law rfl
theorem dL_law_298 : decode cL_law 298 = .ok (.aload_n 0, 1) := dq_42 dp_cL_law rfl
theorem dL_law_299 : decode cL_law 299 = .ok (.iload_n 3, 1) := dq_29 dp_cL_law rfl
theorem dL_law_300 : decode cL_law 300 = .ok (.iconst 4, 1) := dq_7 dp_cL_law rfl
theorem dL_law_301 : decode cL_law 301 = .ok (.iadd, 1) := dq_96 dp_cL_law rfl
theorem dL_law_302 : decode cL_law 302 = .ok (.iaload, 1) := dq_46 dp_cL_law rfl
theorem dL_law_303 : decode cL_law 303 = .ok (.i2l, 1) := dq_133 dp_cL_law rfl
theorem dL_law_304 : decode cL_law 304 = .ok (.ldc2_w 18, 3) := dq_20 dp_cL_law rfl
theorem dL_law_307 : decode cL_law 307 = .ok (.land, 1) := dq_127 dp_cL_law rfl
theorem dL_law_308 : decode cL_law 308 = .ok (.lor, 1) := dq_129 dp_cL_law rfl
theorem dL_law_309 : decode cL_law 309 = .ok (.invokevirtual 24, 3) := dq_182 dp_cL_law rfl
theorem dL_law_312 : decode cL_law 312 = .ok (.pop, 1) := dq_87 dp_cL_law rfl
theorem dL_law_313 : decode cL_law 313 = .ok (.goto 1057, 3) := dq_167 (v := 1057) dp_cL_law rfl rfl
theorem dL_law_316 : decode cL_law 316 = .ok (.aload_n 1, 1) := dq_43 dp_cL_law rfl
theorem dL_law_317 : decode cL_law 317 = .ok (.aload_n 0, 1) := dq_42 dp_cL_law rfl
theorem dL_law_318 : decode cL_law 318 = .ok (.iload_n 3, 1) := dq_29 dp_cL_law rfl
theorem dL_law_319 : decode cL_law 319 = .ok (.iconst 1, 1) := dq_4 dp_cL_law rfl
theorem dL_law_320 : decode cL_law 320 = .ok (.iadd, 1) := dq_96 dp_cL_law rfl
theorem dL_law_321 : decode cL_law 321 = .ok (.iaload, 1) := dq_46 dp_cL_law rfl
theorem dL_law_322 : decode cL_law 322 = .ok (.aload_n 0, 1) := dq_42 dp_cL_law rfl
theorem dL_law_323 : decode cL_law 323 = .ok (.iload_n 3, 1) := dq_29 dp_cL_law rfl
theorem dL_law_324 : decode cL_law 324 = .ok (.iconst 2, 1) := dq_5 dp_cL_law rfl
theorem dL_law_325 : decode cL_law 325 = .ok (.iadd, 1) := dq_96 dp_cL_law rfl
theorem dL_law_326 : decode cL_law 326 = .ok (.iaload, 1) := dq_46 dp_cL_law rfl
theorem dL_law_327 : decode cL_law 327 = .ok (.aload_n 0, 1) := dq_42 dp_cL_law rfl
theorem dL_law_328 : decode cL_law 328 = .ok (.iload_n 3, 1) := dq_29 dp_cL_law rfl
theorem dL_law_329 : decode cL_law 329 = .ok (.iconst 3, 1) := dq_6 dp_cL_law rfl
theorem dL_law_330 : decode cL_law 330 = .ok (.iadd, 1) := dq_96 dp_cL_law rfl
theorem dL_law_331 : decode cL_law 331 = .ok (.iaload, 1) := dq_46 dp_cL_law rfl
theorem dL_law_332 : decode cL_law 332 = .ok (.aload_n 0, 1) := dq_42 dp_cL_law rfl
theorem dL_law_333 : decode cL_law 333 = .ok (.iload_n 3, 1) := dq_29 dp_cL_law rfl
theorem dL_law_334 : decode cL_law 334 = .ok (.iconst 4, 1) := dq_7 dp_cL_law rfl
theorem dL_law_335 : decode cL_law 335 = .ok (.iadd, 1) := dq_96 dp_cL_law rfl
theorem dL_law_336 : decode cL_law 336 = .ok (.iaload, 1) := dq_46 dp_cL_law rfl
theorem dL_law_337 : decode cL_law 337 = .ok (.aload_n 0, 1) := dq_42 dp_cL_law rfl
theorem dL_law_338 : decode cL_law 338 = .ok (.iload_n 3, 1) := dq_29 dp_cL_law rfl
theorem dL_law_339 : decode cL_law 339 = .ok (.iconst 5, 1) := dq_8 dp_cL_law rfl
theorem dL_law_340 : decode cL_law 340 = .ok (.iadd, 1) := dq_96 dp_cL_law rfl
theorem dL_law_341 : decode cL_law 341 = .ok (.iaload, 1) := dq_46 dp_cL_law rfl
theorem dL_law_342 : decode cL_law 342 = .ok (.invokevirtual 25, 3) := dq_182 dp_cL_law rfl
theorem dL_law_345 : decode cL_law 345 = .ok (.pop, 1) := dq_87 dp_cL_law rfl
theorem dL_law_346 : decode cL_law 346 = .ok (.aload_n 2, 1) := dq_44 dp_cL_law rfl
theorem dL_law_347 : decode cL_law 347 = .ok (.aload_n 0, 1) := dq_42 dp_cL_law rfl
theorem dL_law_348 : decode cL_law 348 = .ok (.iload_n 3, 1) := dq_29 dp_cL_law rfl
theorem dL_law_349 : decode cL_law 349 = .ok (.iconst 1, 1) := dq_4 dp_cL_law rfl
theorem dL_law_350 : decode cL_law 350 = .ok (.iadd, 1) := dq_96 dp_cL_law rfl
theorem dL_law_351 : decode cL_law 351 = .ok (.iaload, 1) := dq_46 dp_cL_law rfl
theorem dL_law_352 : decode cL_law 352 = .ok (.aload_n 0, 1) := dq_42 dp_cL_law rfl
theorem dL_law_353 : decode cL_law 353 = .ok (.iload_n 3, 1) := dq_29 dp_cL_law rfl
theorem dL_law_354 : decode cL_law 354 = .ok (.iconst 2, 1) := dq_5 dp_cL_law rfl
theorem dL_law_355 : decode cL_law 355 = .ok (.iadd, 1) := dq_96 dp_cL_law rfl
theorem dL_law_356 : decode cL_law 356 = .ok (.iaload, 1) := dq_46 dp_cL_law rfl
theorem dL_law_357 : decode cL_law 357 = .ok (.aload_n 0, 1) := dq_42 dp_cL_law rfl
theorem dL_law_358 : decode cL_law 358 = .ok (.iload_n 3, 1) := dq_29 dp_cL_law rfl
theorem dL_law_359 : decode cL_law 359 = .ok (.iconst 3, 1) := dq_6 dp_cL_law rfl
theorem dL_law_360 : decode cL_law 360 = .ok (.iadd, 1) := dq_96 dp_cL_law rfl
theorem dL_law_361 : decode cL_law 361 = .ok (.iaload, 1) := dq_46 dp_cL_law rfl
theorem dL_law_362 : decode cL_law 362 = .ok (.aload_n 0, 1) := dq_42 dp_cL_law rfl
theorem dL_law_363 : decode cL_law 363 = .ok (.iload_n 3, 1) := dq_29 dp_cL_law rfl
theorem dL_law_364 : decode cL_law 364 = .ok (.iconst 4, 1) := dq_7 dp_cL_law rfl
theorem dL_law_365 : decode cL_law 365 = .ok (.iadd, 1) := dq_96 dp_cL_law rfl
theorem dL_law_366 : decode cL_law 366 = .ok (.iaload, 1) := dq_46 dp_cL_law rfl
theorem dL_law_367 : decode cL_law 367 = .ok (.aload_n 0, 1) := dq_42 dp_cL_law rfl
theorem dL_law_368 : decode cL_law 368 = .ok (.iload_n 3, 1) := dq_29 dp_cL_law rfl
theorem dL_law_369 : decode cL_law 369 = .ok (.iconst 5, 1) := dq_8 dp_cL_law rfl
theorem dL_law_370 : decode cL_law 370 = .ok (.iadd, 1) := dq_96 dp_cL_law rfl
theorem dL_law_371 : decode cL_law 371 = .ok (.iaload, 1) := dq_46 dp_cL_law rfl
theorem dL_law_372 : decode cL_law 372 = .ok (.invokevirtual 29, 3) := dq_182 dp_cL_law rfl
theorem dL_law_375 : decode cL_law 375 = .ok (.pop, 1) := dq_87 dp_cL_law rfl
theorem dL_law_376 : decode cL_law 376 = .ok (.goto 994, 3) := dq_167 (v := 994) dp_cL_law rfl rfl
theorem dL_law_379 : decode cL_law 379 = .ok (.aload_n 1, 1) := dq_43 dp_cL_law rfl
theorem dL_law_380 : decode cL_law 380 = .ok (.aload_n 0, 1) := dq_42 dp_cL_law rfl
theorem dL_law_381 : decode cL_law 381 = .ok (.iload_n 3, 1) := dq_29 dp_cL_law rfl
theorem dL_law_382 : decode cL_law 382 = .ok (.iconst 1, 1) := dq_4 dp_cL_law rfl
theorem dL_law_383 : decode cL_law 383 = .ok (.iadd, 1) := dq_96 dp_cL_law rfl
theorem dL_law_384 : decode cL_law 384 = .ok (.iaload, 1) := dq_46 dp_cL_law rfl
theorem dL_law_385 : decode cL_law 385 = .ok (.aload_n 0, 1) := dq_42 dp_cL_law rfl
theorem dL_law_386 : decode cL_law 386 = .ok (.iload_n 3, 1) := dq_29 dp_cL_law rfl
theorem dL_law_387 : decode cL_law 387 = .ok (.iconst 2, 1) := dq_5 dp_cL_law rfl
theorem dL_law_388 : decode cL_law 388 = .ok (.iadd, 1) := dq_96 dp_cL_law rfl
theorem dL_law_389 : decode cL_law 389 = .ok (.iaload, 1) := dq_46 dp_cL_law rfl
theorem dL_law_390 : decode cL_law 390 = .ok (.invokevirtual 30, 3) := dq_182 dp_cL_law rfl
theorem dL_law_393 : decode cL_law 393 = .ok (.pop2, 1) := dq_88 dp_cL_law rfl
theorem dL_law_394 : decode cL_law 394 = .ok (.aload_n 2, 1) := dq_44 dp_cL_law rfl
theorem dL_law_395 : decode cL_law 395 = .ok (.aload_n 0, 1) := dq_42 dp_cL_law rfl
theorem dL_law_396 : decode cL_law 396 = .ok (.iload_n 3, 1) := dq_29 dp_cL_law rfl
theorem dL_law_397 : decode cL_law 397 = .ok (.iconst 1, 1) := dq_4 dp_cL_law rfl
theorem dL_law_398 : decode cL_law 398 = .ok (.iadd, 1) := dq_96 dp_cL_law rfl
theorem dL_law_399 : decode cL_law 399 = .ok (.iaload, 1) := dq_46 dp_cL_law rfl
theorem dL_law_400 : decode cL_law 400 = .ok (.aload_n 0, 1) := dq_42 dp_cL_law rfl
theorem dL_law_401 : decode cL_law 401 = .ok (.iload_n 3, 1) := dq_29 dp_cL_law rfl
theorem dL_law_402 : decode cL_law 402 = .ok (.iconst 2, 1) := dq_5 dp_cL_law rfl
theorem dL_law_403 : decode cL_law 403 = .ok (.iadd, 1) := dq_96 dp_cL_law rfl
theorem dL_law_404 : decode cL_law 404 = .ok (.iaload, 1) := dq_46 dp_cL_law rfl
theorem dL_law_405 : decode cL_law 405 = .ok (.invokevirtual 34, 3) := dq_182 dp_cL_law rfl
theorem dL_law_408 : decode cL_law 408 = .ok (.pop2, 1) := dq_88 dp_cL_law rfl
theorem dL_law_409 : decode cL_law 409 = .ok (.goto 961, 3) := dq_167 (v := 961) dp_cL_law rfl rfl
theorem dL_law_412 : decode cL_law 412 = .ok (.aload_n 1, 1) := dq_43 dp_cL_law rfl
theorem dL_law_413 : decode cL_law 413 = .ok (.aload_n 0, 1) := dq_42 dp_cL_law rfl
theorem dL_law_414 : decode cL_law 414 = .ok (.iload_n 3, 1) := dq_29 dp_cL_law rfl
theorem dL_law_415 : decode cL_law 415 = .ok (.iconst 1, 1) := dq_4 dp_cL_law rfl
theorem dL_law_416 : decode cL_law 416 = .ok (.iadd, 1) := dq_96 dp_cL_law rfl
theorem dL_law_417 : decode cL_law 417 = .ok (.iaload, 1) := dq_46 dp_cL_law rfl
theorem dL_law_418 : decode cL_law 418 = .ok (.aload_n 0, 1) := dq_42 dp_cL_law rfl
theorem dL_law_419 : decode cL_law 419 = .ok (.iload_n 3, 1) := dq_29 dp_cL_law rfl
theorem dL_law_420 : decode cL_law 420 = .ok (.iconst 2, 1) := dq_5 dp_cL_law rfl
theorem dL_law_421 : decode cL_law 421 = .ok (.iadd, 1) := dq_96 dp_cL_law rfl
theorem dL_law_422 : decode cL_law 422 = .ok (.iaload, 1) := dq_46 dp_cL_law rfl
theorem dL_law_423 : decode cL_law 423 = .ok (.invokevirtual 35, 3) := dq_182 dp_cL_law rfl
theorem dL_law_426 : decode cL_law 426 = .ok (.pop, 1) := dq_87 dp_cL_law rfl
theorem dL_law_427 : decode cL_law 427 = .ok (.aload_n 2, 1) := dq_44 dp_cL_law rfl
theorem dL_law_428 : decode cL_law 428 = .ok (.aload_n 0, 1) := dq_42 dp_cL_law rfl
theorem dL_law_429 : decode cL_law 429 = .ok (.iload_n 3, 1) := dq_29 dp_cL_law rfl
theorem dL_law_430 : decode cL_law 430 = .ok (.iconst 1, 1) := dq_4 dp_cL_law rfl
theorem dL_law_431 : decode cL_law 431 = .ok (.iadd, 1) := dq_96 dp_cL_law rfl
theorem dL_law_432 : decode cL_law 432 = .ok (.iaload, 1) := dq_46 dp_cL_law rfl
theorem dL_law_433 : decode cL_law 433 = .ok (.aload_n 0, 1) := dq_42 dp_cL_law rfl
theorem dL_law_434 : decode cL_law 434 = .ok (.iload_n 3, 1) := dq_29 dp_cL_law rfl
theorem dL_law_435 : decode cL_law 435 = .ok (.iconst 2, 1) := dq_5 dp_cL_law rfl
theorem dL_law_436 : decode cL_law 436 = .ok (.iadd, 1) := dq_96 dp_cL_law rfl
theorem dL_law_437 : decode cL_law 437 = .ok (.iaload, 1) := dq_46 dp_cL_law rfl
theorem dL_law_438 : decode cL_law 438 = .ok (.invokevirtual 39, 3) := dq_182 dp_cL_law rfl
theorem dL_law_441 : decode cL_law 441 = .ok (.pop, 1) := dq_87 dp_cL_law rfl
theorem dL_law_442 : decode cL_law 442 = .ok (.goto 928, 3) := dq_167 (v := 928) dp_cL_law rfl rfl
theorem dL_law_445 : decode cL_law 445 = .ok (.aload_n 1, 1) := dq_43 dp_cL_law rfl
theorem dL_law_446 : decode cL_law 446 = .ok (.aload_n 0, 1) := dq_42 dp_cL_law rfl
theorem dL_law_447 : decode cL_law 447 = .ok (.iload_n 3, 1) := dq_29 dp_cL_law rfl
theorem dL_law_448 : decode cL_law 448 = .ok (.iconst 1, 1) := dq_4 dp_cL_law rfl
theorem dL_law_449 : decode cL_law 449 = .ok (.iadd, 1) := dq_96 dp_cL_law rfl
theorem dL_law_450 : decode cL_law 450 = .ok (.iaload, 1) := dq_46 dp_cL_law rfl
theorem dL_law_451 : decode cL_law 451 = .ok (.invokevirtual 40, 3) := dq_182 dp_cL_law rfl
theorem dL_law_454 : decode cL_law 454 = .ok (.pop, 1) := dq_87 dp_cL_law rfl
end
section
theorem dL_law_455 : decode cL_law 455 = .ok (.aload_n 2, 1) := dq_44 dp_cL_law rfl
theorem dL_law_456 : decode cL_law 456 = .ok (.aload_n 0, 1) := dq_42 dp_cL_law rfl
theorem dL_law_457 : decode cL_law 457 = .ok (.iload_n 3, 1) := dq_29 dp_cL_law rfl
theorem dL_law_458 : decode cL_law 458 = .ok (.iconst 1, 1) := dq_4 dp_cL_law rfl
theorem dL_law_459 : decode cL_law 459 = .ok (.iadd, 1) := dq_96 dp_cL_law rfl
theorem dL_law_460 : decode cL_law 460 = .ok (.iaload, 1) := dq_46 dp_cL_law rfl
theorem dL_law_461 : decode cL_law 461 = .ok (.invokevirtual 44, 3) := dq_182 dp_cL_law rfl
theorem dL_law_464 : decode cL_law 464 = .ok (.pop, 1) := dq_87 dp_cL_law rfl
theorem dL_law_465 : decode cL_law 465 = .ok (.goto 905, 3) := dq_167 (v := 905) dp_cL_law rfl rfl
theorem dL_law_468 : decode cL_law 468 = .ok (.aload_n 1, 1) := dq_43 dp_cL_law rfl
theorem dL_law_469 : decode cL_law 469 = .ok (.aload_n 0, 1) := dq_42 dp_cL_law rfl
theorem dL_law_470 : decode cL_law 470 = .ok (.iload_n 3, 1) := dq_29 dp_cL_law rfl
theorem dL_law_471 : decode cL_law 471 = .ok (.iconst 1, 1) := dq_4 dp_cL_law rfl
theorem dL_law_472 : decode cL_law 472 = .ok (.iadd, 1) := dq_96 dp_cL_law rfl
theorem dL_law_473 : decode cL_law 473 = .ok (.iaload, 1) := dq_46 dp_cL_law rfl
theorem dL_law_474 : decode cL_law 474 = .ok (.aload_n 0, 1) := dq_42 dp_cL_law rfl
theorem dL_law_475 : decode cL_law 475 = .ok (.iload_n 3, 1) := dq_29 dp_cL_law rfl
theorem dL_law_476 : decode cL_law 476 = .ok (.iconst 2, 1) := dq_5 dp_cL_law rfl
theorem dL_law_477 : decode cL_law 477 = .ok (.iadd, 1) := dq_96 dp_cL_law rfl
theorem dL_law_478 : decode cL_law 478 = .ok (.iaload, 1) := dq_46 dp_cL_law rfl
theorem dL_law_479 : decode cL_law 479 = .ok (.invokevirtual 45, 3) := dq_182 dp_cL_law rfl
theorem dL_law_482 : decode cL_law 482 = .ok (.pop, 1) := dq_87 dp_cL_law rfl
theorem dL_law_483 : decode cL_law 483 = .ok (.aload_n 2, 1) := dq_44 dp_cL_law rfl
theorem dL_law_484 : decode cL_law 484 = .ok (.aload_n 0, 1) := dq_42 dp_cL_law rfl
theorem dL_law_485 : decode cL_law 485 = .ok (.iload_n 3, 1) := dq_29 dp_cL_law rfl
theorem dL_law_486 : decode cL_law 486 = .ok (.iconst 1, 1) := dq_4 dp_cL_law rfl
theorem dL_law_487 : decode cL_law 487 = .ok (.iadd, 1) := dq_96 dp_cL_law rfl
theorem dL_law_488 : decode cL_law 488 = .ok (.iaload, 1) := dq_46 dp_cL_law rfl
theorem dL_law_489 : decode cL_law 489 = .ok (.aload_n 0, 1) := dq_42 dp_cL_law rfl
theorem dL_law_490 : decode cL_law 490 = .ok (.iload_n 3, 1) := dq_29 dp_cL_law rfl
theorem dL_law_491 : decode cL_law 491 = .ok (.iconst 2, 1) := dq_5 dp_cL_law rfl
theorem dL_law_492 : decode cL_law 492 = .ok (.iadd, 1) := dq_96 dp_cL_law rfl
theorem dL_law_493 : decode cL_law 493 = .ok (.iaload, 1) := dq_46 dp_cL_law rfl
theorem dL_law_494 : decode cL_law 494 = .ok (.invokevirtual 48, 3) := dq_182 dp_cL_law rfl
theorem dL_law_497 : decode cL_law 497 = .ok (.pop, 1) := dq_87 dp_cL_law rfl
theorem dL_law_498 : decode cL_law 498 = .ok (.goto 872, 3) := dq_167 (v := 872) dp_cL_law rfl rfl
theorem dL_law_501 : decode cL_law 501 = .ok (.aload_n 1, 1) := dq_43 dp_cL_law rfl
theorem dL_law_502 : decode cL_law 502 = .ok (.aload_n 0, 1) := dq_42 dp_cL_law rfl
theorem dL_law_503 : decode cL_law 503 = .ok (.iload_n 3, 1) := dq_29 dp_cL_law rfl
theorem dL_law_504 : decode cL_law 504 = .ok (.iconst 1, 1) := dq_4 dp_cL_law rfl
theorem dL_law_505 : decode cL_law 505 = .ok (.iadd, 1) := dq_96 dp_cL_law rfl
theorem dL_law_506 : decode cL_law 506 = .ok (.iaload, 1) := dq_46 dp_cL_law rfl
theorem dL_law_507 : decode cL_law 507 = .ok (.aload_n 0, 1) := dq_42 dp_cL_law rfl
theorem dL_law_508 : decode cL_law 508 = .ok (.iload_n 3, 1) := dq_29 dp_cL_law rfl
theorem dL_law_509 : decode cL_law 509 = .ok (.iconst 2, 1) := dq_5 dp_cL_law rfl
theorem dL_law_510 : decode cL_law 510 = .ok (.iadd, 1) := dq_96 dp_cL_law rfl
theorem dL_law_511 : decode cL_law 511 = .ok (.iaload, 1) := dq_46 dp_cL_law rfl
theorem dL_law_512 : decode cL_law 512 = .ok (.aload_n 0, 1) := dq_42 dp_cL_law rfl
theorem dL_law_513 : decode cL_law 513 = .ok (.iload_n 3, 1) := dq_29 dp_cL_law rfl
theorem dL_law_514 : decode cL_law 514 = .ok (.iconst 3, 1) := dq_6 dp_cL_law rfl
theorem dL_law_515 : decode cL_law 515 = .ok (.iadd, 1) := dq_96 dp_cL_law rfl
theorem dL_law_516 : decode cL_law 516 = .ok (.iaload, 1) := dq_46 dp_cL_law rfl
theorem dL_law_517 : decode cL_law 517 = .ok (.invokevirtual 49, 3) := dq_182 dp_cL_law rfl
theorem dL_law_520 : decode cL_law 520 = .ok (.pop, 1) := dq_87 dp_cL_law rfl
theorem dL_law_521 : decode cL_law 521 = .ok (.aload_n 2, 1) := dq_44 dp_cL_law rfl
theorem dL_law_522 : decode cL_law 522 = .ok (.aload_n 0, 1) := dq_42 dp_cL_law rfl
theorem dL_law_523 : decode cL_law 523 = .ok (.iload_n 3, 1) := dq_29 dp_cL_law rfl
theorem dL_law_524 : decode cL_law 524 = .ok (.iconst 1, 1) := dq_4 dp_cL_law rfl
theorem dL_law_525 : decode cL_law 525 = .ok (.iadd, 1) := dq_96 dp_cL_law rfl
theorem dL_law_526 : decode cL_law 526 = .ok (.iaload, 1) := dq_46 dp_cL_law rfl
theorem dL_law_527 : decode cL_law 527 = .ok (.aload_n 0, 1) := dq_42 dp_cL_law rfl
theorem dL_law_528 : decode cL_law 528 = .ok (.iload_n 3, 1) := dq_29 dp_cL_law rfl
theorem dL_law_529 : decode cL_law 529 = .ok (.iconst 2, 1) := dq_5 dp_cL_law rfl
theorem dL_law_530 : decode cL_law 530 = .ok (.iadd, 1) := dq_96 dp_cL_law rfl
theorem dL_law_531 : decode cL_law 531 = .ok (.iaload, 1) := dq_46 dp_cL_law rfl
theorem dL_law_532 : decode cL_law 532 = .ok (.aload_n 0, 1) := dq_42 dp_cL_law rfl
theorem dL_law_533 : decode cL_law 533 = .ok (.iload_n 3, 1) := dq_29 dp_cL_law rfl
theorem dL_law_534 : decode cL_law 534 = .ok (.iconst 3, 1) := dq_6 dp_cL_law rfl
theorem dL_law_535 : decode cL_law 535 = .ok (.iadd, 1) := dq_96 dp_cL_law rfl
theorem dL_law_536 : decode cL_law 536 = .ok (.iaload, 1) := dq_46 dp_cL_law rfl
theorem dL_law_537 : decode cL_law 537 = .ok (.invokevirtual 52, 3) := dq_182 dp_cL_law rfl
theorem dL_law_540 : decode cL_law 540 = .ok (.pop, 1) := dq_87 dp_cL_law rfl
theorem dL_law_541 : decode cL_law 541 = .ok (.goto 829, 3) := dq_167 (v := 829) dp_cL_law rfl rfl
theorem dL_law_544 : decode cL_law 544 = .ok (.aload_n 1, 1) := dq_43 dp_cL_law rfl
theorem dL_law_545 : decode cL_law 545 = .ok (.aload_n 0, 1) := dq_42 dp_cL_law rfl
theorem dL_law_546 : decode cL_law 546 = .ok (.iload_n 3, 1) := dq_29 dp_cL_law rfl
theorem dL_law_547 : decode cL_law 547 = .ok (.iconst 1, 1) := dq_4 dp_cL_law rfl
theorem dL_law_548 : decode cL_law 548 = .ok (.iadd, 1) := dq_96 dp_cL_law rfl
theorem dL_law_549 : decode cL_law 549 = .ok (.iaload, 1) := dq_46 dp_cL_law rfl
theorem dL_law_550 : decode cL_law 550 = .ok (.aload_n 0, 1) := dq_42 dp_cL_law rfl
theorem dL_law_551 : decode cL_law 551 = .ok (.iload_n 3, 1) := dq_29 dp_cL_law rfl
theorem dL_law_552 : decode cL_law 552 = .ok (.iconst 2, 1) := dq_5 dp_cL_law rfl
theorem dL_law_553 : decode cL_law 553 = .ok (.iadd, 1) := dq_96 dp_cL_law rfl
theorem dL_law_554 : decode cL_law 554 = .ok (.iaload, 1) := dq_46 dp_cL_law rfl
theorem dL_law_555 : decode cL_law 555 = .ok (.invokevirtual 53, 3) := dq_182 dp_cL_law rfl
theorem dL_law_558 : decode cL_law 558 = .ok (.pop, 1) := dq_87 dp_cL_law rfl
theorem dL_law_559 : decode cL_law 559 = .ok (.aload_n 2, 1) := dq_44 dp_cL_law rfl
theorem dL_law_560 : decode cL_law 560 = .ok (.aload_n 0, 1) := dq_42 dp_cL_law rfl
theorem dL_law_561 : decode cL_law 561 = .ok (.iload_n 3, 1) := dq_29 dp_cL_law rfl
theorem dL_law_562 : decode cL_law 562 = .ok (.iconst 1, 1) := dq_4 dp_cL_law rfl
theorem dL_law_563 : decode cL_law 563 = .ok (.iadd, 1) := dq_96 dp_cL_law rfl
theorem dL_law_564 : decode cL_law 564 = .ok (.iaload, 1) := dq_46 dp_cL_law rfl
theorem dL_law_565 : decode cL_law 565 = .ok (.aload_n 0, 1) := dq_42 dp_cL_law rfl
theorem dL_law_566 : decode cL_law 566 = .ok (.iload_n 3, 1) := dq_29 dp_cL_law rfl
theorem dL_law_567 : decode cL_law 567 = .ok (.iconst 2, 1) := dq_5 dp_cL_law rfl
theorem dL_law_568 : decode cL_law 568 = .ok (.iadd, 1) := dq_96 dp_cL_law rfl
theorem dL_law_569 : decode cL_law 569 = .ok (.iaload, 1) := dq_46 dp_cL_law rfl
theorem dL_law_570 : decode cL_law 570 = .ok (.invokevirtual 56, 3) := dq_182 dp_cL_law rfl
theorem dL_law_573 : decode cL_law 573 = .ok (.pop, 1) := dq_87 dp_cL_law rfl
theorem dL_law_574 : decode cL_law 574 = .ok (.goto 796, 3) := dq_167 (v := 796) dp_cL_law rfl rfl
theorem dL_law_577 : decode cL_law 577 = .ok (.aload_n 1, 1) := dq_43 dp_cL_law rfl
theorem dL_law_578 : decode cL_law 578 = .ok (.aload_n 0, 1) := dq_42 dp_cL_law rfl
theorem dL_law_579 : decode cL_law 579 = .ok (.iload_n 3, 1) := dq_29 dp_cL_law rfl
theorem dL_law_580 : decode cL_law 580 = .ok (.iconst 1, 1) := dq_4 dp_cL_law rfl
theorem dL_law_581 : decode cL_law 581 = .ok (.iadd, 1) := dq_96 dp_cL_law rfl
theorem dL_law_582 : decode cL_law 582 = .ok (.iaload, 1) := dq_46 dp_cL_law rfl
theorem dL_law_583 : decode cL_law 583 = .ok (.invokevirtual 57, 3) := dq_182 dp_cL_law rfl
theorem dL_law_586 : decode cL_law 586 = .ok (.pop, 1) := dq_87 dp_cL_law rfl
theorem dL_law_587 : decode cL_law 587 = .ok (.aload_n 2, 1) := dq_44 dp_cL_law rfl
theorem dL_law_588 : decode cL_law 588 = .ok (.aload_n 0, 1) := dq_42 dp_cL_law rfl
theorem dL_law_589 : decode cL_law 589 = .ok (.iload_n 3, 1) := dq_29 dp_cL_law rfl
theorem dL_law_590 : decode cL_law 590 = .ok (.iconst 1, 1) := dq_4 dp_cL_law rfl
theorem dL_law_591 : decode cL_law 591 = .ok (.iadd, 1) := dq_96 dp_cL_law rfl
theorem dL_law_592 : decode cL_law 592 = .ok (.iaload, 1) := dq_46 dp_cL_law rfl
theorem dL_law_593 : decode cL_law 593 = .ok (.invokevirtual 60, 3) := dq_182 dp_cL_law rfl
theorem dL_law_596 : decode cL_law 596 = .ok (.pop, 1) := dq_87 dp_cL_law rfl
theorem dL_law_597 : decode cL_law 597 = .ok (.goto 773, 3) := dq_167 (v := 773) dp_cL_law rfl rfl
theorem dL_law_600 : decode cL_law 600 = .ok (.aload_n 1, 1) := dq_43 dp_cL_law rfl
theorem dL_law_601 : decode cL_law 601 = .ok (.aload_n 0, 1) := dq_42 dp_cL_law rfl
theorem dL_law_602 : decode cL_law 602 = .ok (.iload_n 3, 1) := dq_29 dp_cL_law rfl
theorem dL_law_603 : decode cL_law 603 = .ok (.iconst 1, 1) := dq_4 dp_cL_law rfl
theorem dL_law_604 : decode cL_law 604 = .ok (.iadd, 1) := dq_96 dp_cL_law rfl
theorem dL_law_605 : decode cL_law 605 = .ok (.iaload, 1) := dq_46 dp_cL_law rfl
theorem dL_law_606 : decode cL_law 606 = .ok (.aload_n 0, 1) := dq_42 dp_cL_law rfl
theorem dL_law_607 : decode cL_law 607 = .ok (.iload_n 3, 1) := dq_29 dp_cL_law rfl
theorem dL_law_608 : decode cL_law 608 = .ok (.iconst 2, 1) := dq_5 dp_cL_law rfl
theorem dL_law_609 : decode cL_law 609 = .ok (.iadd, 1) := dq_96 dp_cL_law rfl
theorem dL_law_610 : decode cL_law 610 = .ok (.iaload, 1) := dq_46 dp_cL_law rfl
theorem dL_law_611 : decode cL_law 611 = .ok (.ifCond .eq 7, 3) := dq_153 (v := 7) dp_cL_law rfl rfl
theorem dL_law_614 : decode cL_law 614 = .ok (.iconst 1, 1) := dq_4 dp_cL_law rfl
theorem dL_law_615 : decode cL_law 615 = .ok (.goto 4, 3) := dq_167 (v := 4) dp_cL_law rfl rfl
theorem dL_law_618 : decode cL_law 618 = .ok (.iconst 0, 1) := dq_3 dp_cL_law rfl
theorem dL_law_619 : decode cL_law 619 = .ok (.invokevirtual 61, 3) := dq_182 dp_cL_law rfl
theorem dL_law_622 : decode cL_law 622 = .ok (.pop, 1) := dq_87 dp_cL_law rfl
theorem dL_law_623 : decode cL_law 623 = .ok (.aload_n 2, 1) := dq_44 dp_cL_law rfl
theorem dL_law_624 : decode cL_law 624 = .ok (.aload_n 0, 1) := dq_42 dp_cL_law rfl
theorem dL_law_625 : decode cL_law 625 = .ok (.iload_n 3, 1) := dq_29 dp_cL_law rfl
theorem dL_law_626 : decode cL_law 626 = .ok (.iconst 1, 1) := dq_4 dp_cL_law rfl
theorem dL_law_627 : decode cL_law 627 = .ok (.iadd, 1) := dq_96 dp_cL_law rfl
theorem dL_law_628 : decode cL_law 628 = .ok (.iaload, 1) := dq_46 dp_cL_law rfl
theorem dL_law_629 : decode cL_law 629 = .ok (.aload_n 0, 1) := dq_42 dp_cL_law rfl
theorem dL_law_630 : decode cL_law 630 = .ok (.iload_n 3, 1) := dq_29 dp_cL_law rfl
theorem dL_law_631 : decode cL_law 631 = .ok (.iconst 2, 1) := dq_5 dp_cL_law rfl
theorem dL_law_632 : decode cL_law 632 = .ok (.iadd, 1) := dq_96 dp_cL_law rfl
theorem dL_law_633 : decode cL_law 633 = .ok (.iaload, 1) := dq_46 dp_cL_law rfl
theorem dL_law_634 : decode cL_law 634 = .ok (.ifCond .eq 7, 3) := dq_153 (v := 7) dp_cL_law rfl rfl
theorem dL_law_637 : decode cL_law 637 = .ok (.iconst 1, 1) := dq_4 dp_cL_law rfl
theorem dL_law_638 : decode cL_law 638 = .ok (.goto 4, 3) := dq_167 (v := 4) dp_cL_law rfl rfl
theorem dL_law_641 : decode cL_law 641 = .ok (.iconst 0, 1) := dq_3 dp_cL_law rfl
theorem dL_law_642 : decode cL_law 642 = .ok (.invokevirtual 65, 3) := dq_182 dp_cL_law rfl
theorem dL_law_645 : decode cL_law 645 = .ok (.pop, 1) := dq_87 dp_cL_law rfl
theorem dL_law_646 : decode cL_law 646 = .ok (.goto 724, 3) := dq_167 (v := 724) dp_cL_law rfl rfl
theorem dL_law_649 : decode cL_law 649 = .ok (.aload_n 1, 1) := dq_43 dp_cL_law rfl
theorem dL_law_650 : decode cL_law 650 = .ok (.aload_n 0, 1) := dq_42 dp_cL_law rfl
theorem dL_law_651 : decode cL_law 651 = .ok (.iload_n 3, 1) := dq_29 dp_cL_law rfl
theorem dL_law_652 : decode cL_law 652 = .ok (.iconst 1, 1) := dq_4 dp_cL_law rfl
theorem dL_law_653 : decode cL_law 653 = .ok (.iadd, 1) := dq_96 dp_cL_law rfl
theorem dL_law_654 : decode cL_law 654 = .ok (.iaload, 1) := dq_46 dp_cL_law rfl
theorem dL_law_655 : decode cL_law 655 = .ok (.aload_n 0, 1) := dq_42 dp_cL_law rfl
theorem dL_law_656 : decode cL_law 656 = .ok (.iload_n 3, 1) := dq_29 dp_cL_law rfl
theorem dL_law_657 : decode cL_law 657 = .ok (.iconst 2, 1) := dq_5 dp_cL_law rfl
theorem dL_law_658 : decode cL_law 658 = .ok (.iadd, 1) := dq_96 dp_cL_law rfl
theorem dL_law_659 : decode cL_law 659 = .ok (.iaload, 1) := dq_46 dp_cL_law rfl
theorem dL_law_660 : decode cL_law 660 = .ok (.invokevirtual 66, 3) := dq_182 dp_cL_law rfl
theorem dL_law_663 : decode cL_law 663 = .ok (.pop, 1) := dq_87 dp_cL_law rfl
theorem dL_law_664 : decode cL_law 664 = .ok (.aload_n 2, 1) := dq_44 dp_cL_law rfl
theorem dL_law_665 : decode cL_law 665 = .ok (.aload_n 0, 1) := dq_42 dp_cL_law rfl
theorem dL_law_666 : decode cL_law 666 = .ok (.iload_n 3, 1) := dq_29 dp_cL_law rfl
theorem dL_law_667 : decode cL_law 667 = .ok (.iconst 1, 1) := dq_4 dp_cL_law rfl
theorem dL_law_668 : decode cL_law 668 = .ok (.iadd, 1) := dq_96 dp_cL_law rfl
theorem dL_law_669 : decode cL_law 669 = .ok (.iaload, 1) := dq_46 dp_cL_law rfl
theorem dL_law_670 : decode cL_law 670 = .ok (.aload_n 0, 1) := dq_42 dp_cL_law rfl
theorem dL_law_671 : decode cL_law 671 = .ok (.iload_n 3, 1) := dq_29 dp_cL_law rfl
theorem dL_law_672 : decode cL_law 672 = .ok (.iconst 2, 1) := dq_5 dp_cL_law rfl
theorem dL_law_673 : decode cL_law 673 = .ok (.iadd, 1) := dq_96 dp_cL_law rfl
theorem dL_law_674 : decode cL_law 674 = .ok (.iaload, 1) := dq_46 dp_cL_law rfl
theorem dL_law_675 : decode cL_law 675 = .ok (.invokevirtual 69, 3) := dq_182 dp_cL_law rfl
theorem dL_law_678 : decode cL_law 678 = .ok (.pop, 1) := dq_87 dp_cL_law rfl
theorem dL_law_679 : decode cL_law 679 = .ok (.goto 691, 3) := dq_167 (v := 691) dp_cL_law rfl rfl
theorem dL_law_682 : decode cL_law 682 = .ok (.aload_n 1, 1) := dq_43 dp_cL_law rfl
theorem dL_law_683 : decode cL_law 683 = .ok (.aload_n 0, 1) := dq_42 dp_cL_law rfl
theorem dL_law_684 : decode cL_law 684 = .ok (.iload_n 3, 1) := dq_29 dp_cL_law rfl
theorem dL_law_685 : decode cL_law 685 = .ok (.iconst 1, 1) := dq_4 dp_cL_law rfl
theorem dL_law_686 : decode cL_law 686 = .ok (.iadd, 1) := dq_96 dp_cL_law rfl
theorem dL_law_687 : decode cL_law 687 = .ok (.iaload, 1) := dq_46 dp_cL_law rfl
theorem dL_law_688 : decode cL_law 688 = .ok (.aload_n 0, 1) := dq_42 dp_cL_law rfl
theorem dL_law_689 : decode cL_law 689 = .ok (.iload_n 3, 1) := dq_29 dp_cL_law rfl
theorem dL_law_690 : decode cL_law 690 = .ok (.iconst 2, 1) := dq_5 dp_cL_law rfl
theorem dL_law_691 : decode cL_law 691 = .ok (.iadd, 1) := dq_96 dp_cL_law rfl
theorem dL_law_692 : decode cL_law 692 = .ok (.iaload, 1) := dq_46 dp_cL_law rfl
theorem dL_law_693 : decode cL_law 693 = .ok (.invokevirtual 70, 3) := dq_182 dp_cL_law rfl
theorem dL_law_696 : decode cL_law 696 = .ok (.pop, 1) := dq_87 dp_cL_law rfl
theorem dL_law_697 : decode cL_law 697 = .ok (.aload_n 2, 1) := dq_44 dp_cL_law rfl
theorem dL_law_698 : decode cL_law 698 = .ok (.aload_n 0, 1) := dq_42 dp_cL_law rfl
theorem dL_law_699 : decode cL_law 699 = .ok (.iload_n 3, 1) := dq_29 dp_cL_law rfl
theorem dL_law_700 : decode cL_law 700 = .ok (.iconst 1, 1) := dq_4 dp_cL_law rfl
theorem dL_law_701 : decode cL_law 701 = .ok (.iadd, 1) := dq_96 dp_cL_law rfl
theorem dL_law_702 : decode cL_law 702 = .ok (.iaload, 1) := dq_46 dp_cL_law rfl
theorem dL_law_703 : decode cL_law 703 = .ok (.aload_n 0, 1) := dq_42 dp_cL_law rfl
theorem dL_law_704 : decode cL_law 704 = .ok (.iload_n 3, 1) := dq_29 dp_cL_law rfl
theorem dL_law_705 : decode cL_law 705 = .ok (.iconst 2, 1) := dq_5 dp_cL_law rfl
theorem dL_law_706 : decode cL_law 706 = .ok (.iadd, 1) := dq_96 dp_cL_law rfl
theorem dL_law_707 : decode cL_law 707 = .ok (.iaload, 1) := dq_46 dp_cL_law rfl
theorem dL_law_708 : decode cL_law 708 = .ok (.invokevirtual 73, 3) := dq_182 dp_cL_law rfl
theorem dL_law_711 : decode cL_law 711 = .ok (.pop, 1) := dq_87 dp_cL_law rfl
theorem dL_law_712 : decode cL_law 712 = .ok (.goto 658, 3) := dq_167 (v := 658) dp_cL_law rfl rfl
theorem dL_law_715 : decode cL_law 715 = .ok (.aload_n 1, 1) := dq_43 dp_cL_law rfl
theorem dL_law_716 : decode cL_law 716 = .ok (.aload_n 0, 1) := dq_42 dp_cL_law rfl
theorem dL_law_717 : decode cL_law 717 = .ok (.iload_n 3, 1) := dq_29 dp_cL_law rfl
theorem dL_law_718 : decode cL_law 718 = .ok (.iconst 1, 1) := dq_4 dp_cL_law rfl
theorem dL_law_719 : decode cL_law 719 = .ok (.iadd, 1) := dq_96 dp_cL_law rfl
theorem dL_law_720 : decode cL_law 720 = .ok (.iaload, 1) := dq_46 dp_cL_law rfl
theorem dL_law_721 : decode cL_law 721 = .ok (.invokevirtual 74, 3) := dq_182 dp_cL_law rfl
theorem dL_law_724 : decode cL_law 724 = .ok (.pop, 1) := dq_87 dp_cL_law rfl
theorem dL_law_725 : decode cL_law 725 = .ok (.aload_n 2, 1) := dq_44 dp_cL_law rfl
theorem dL_law_726 : decode cL_law 726 = .ok (.aload_n 0, 1) := dq_42 dp_cL_law rfl
theorem dL_law_727 : decode cL_law 727 = .ok (.iload_n 3, 1) := dq_29 dp_cL_law rfl
theorem dL_law_728 : decode cL_law 728 = .ok (.iconst 1, 1) := dq_4 dp_cL_law rfl
theorem dL_law_729 : decode cL_law 729 = .ok (.iadd, 1) := dq_96 dp_cL_law rfl
theorem dL_law_730 : decode cL_law 730 = .ok (.iaload, 1) := dq_46 dp_cL_law rfl
theorem dL_law_731 : decode cL_law 731 = .ok (.invokevirtual 77, 3) := dq_182 dp_cL_law rfl
theorem dL_law_734 : decode cL_law 734 = .ok (.pop, 1) := dq_87 dp_cL_law rfl
theorem dL_law_735 : decode cL_law 735 = .ok (.goto 635, 3) := dq_167 (v := 635) dp_cL_law rfl rfl
theorem dL_law_738 : decode cL_law 738 = .ok (.aload_n 1, 1) := dq_43 dp_cL_law rfl
theorem dL_law_739 : decode cL_law 739 = .ok (.invokevirtual 78, 3) := dq_182 dp_cL_law rfl
theorem dL_law_742 : decode cL_law 742 = .ok (.pop, 1) := dq_87 dp_cL_law rfl
theorem dL_law_743 : decode cL_law 743 = .ok (.aload_n 2, 1) := dq_44 dp_cL_law rfl
theorem dL_law_744 : decode cL_law 744 = .ok (.invokevirtual 82, 3) := dq_182 dp_cL_law rfl
theorem dL_law_747 : decode cL_law 747 = .ok (.pop, 1) := dq_87 dp_cL_law rfl
theorem dL_law_748 : decode cL_law 748 = .ok (.goto 622, 3) := dq_167 (v := 622) dp_cL_law rfl rfl
theorem dL_law_751 : decode cL_law 751 = .ok (.aload_n 1, 1) := dq_43 dp_cL_law rfl
theorem dL_law_752 : decode cL_law 752 = .ok (.aload_n 0, 1) := dq_42 dp_cL_law rfl
theorem dL_law_753 : decode cL_law 753 = .ok (.iload_n 3, 1) := dq_29 dp_cL_law rfl
theorem dL_law_754 : decode cL_law 754 = .ok (.iconst 1, 1) := dq_4 dp_cL_law rfl
theorem dL_law_755 : decode cL_law 755 = .ok (.iadd, 1) := dq_96 dp_cL_law rfl
theorem dL_law_756 : decode cL_law 756 = .ok (.iaload, 1) := dq_46 dp_cL_law rfl
theorem dL_law_757 : decode cL_law 757 = .ok (.aload_n 0, 1) := dq_42 dp_cL_law rfl
theorem dL_law_758 : decode cL_law 758 = .ok (.iload_n 3, 1) := dq_29 dp_cL_law rfl
theorem dL_law_759 : decode cL_law 759 = .ok (.iconst 2, 1) := dq_5 dp_cL_law rfl
end
section
theorem dL_law_760 : decode cL_law 760 = .ok (.iadd, 1) := dq_96 dp_cL_law rfl
theorem dL_law_761 : decode cL_law 761 = .ok (.iaload, 1) := dq_46 dp_cL_law rfl
theorem dL_law_762 : decode cL_law 762 = .ok (.aload_n 0, 1) := dq_42 dp_cL_law rfl
theorem dL_law_763 : decode cL_law 763 = .ok (.iload_n 3, 1) := dq_29 dp_cL_law rfl
theorem dL_law_764 : decode cL_law 764 = .ok (.iconst 3, 1) := dq_6 dp_cL_law rfl
theorem dL_law_765 : decode cL_law 765 = .ok (.iadd, 1) := dq_96 dp_cL_law rfl
theorem dL_law_766 : decode cL_law 766 = .ok (.iaload, 1) := dq_46 dp_cL_law rfl
theorem dL_law_767 : decode cL_law 767 = .ok (.invokevirtual 83, 3) := dq_182 dp_cL_law rfl
theorem dL_law_770 : decode cL_law 770 = .ok (.pop, 1) := dq_87 dp_cL_law rfl
theorem dL_law_771 : decode cL_law 771 = .ok (.aload_n 2, 1) := dq_44 dp_cL_law rfl
theorem dL_law_772 : decode cL_law 772 = .ok (.aload_n 0, 1) := dq_42 dp_cL_law rfl
theorem dL_law_773 : decode cL_law 773 = .ok (.iload_n 3, 1) := dq_29 dp_cL_law rfl
theorem dL_law_774 : decode cL_law 774 = .ok (.iconst 1, 1) := dq_4 dp_cL_law rfl
theorem dL_law_775 : decode cL_law 775 = .ok (.iadd, 1) := dq_96 dp_cL_law rfl
theorem dL_law_776 : decode cL_law 776 = .ok (.iaload, 1) := dq_46 dp_cL_law rfl
theorem dL_law_777 : decode cL_law 777 = .ok (.aload_n 0, 1) := dq_42 dp_cL_law rfl
theorem dL_law_778 : decode cL_law 778 = .ok (.iload_n 3, 1) := dq_29 dp_cL_law rfl
theorem dL_law_779 : decode cL_law 779 = .ok (.iconst 2, 1) := dq_5 dp_cL_law rfl
theorem dL_law_780 : decode cL_law 780 = .ok (.iadd, 1) := dq_96 dp_cL_law rfl
theorem dL_law_781 : decode cL_law 781 = .ok (.iaload, 1) := dq_46 dp_cL_law rfl
theorem dL_law_782 : decode cL_law 782 = .ok (.aload_n 0, 1) := dq_42 dp_cL_law rfl
theorem dL_law_783 : decode cL_law 783 = .ok (.iload_n 3, 1) := dq_29 dp_cL_law rfl
theorem dL_law_784 : decode cL_law 784 = .ok (.iconst 3, 1) := dq_6 dp_cL_law rfl
theorem dL_law_785 : decode cL_law 785 = .ok (.iadd, 1) := dq_96 dp_cL_law rfl
theorem dL_law_786 : decode cL_law 786 = .ok (.iaload, 1) := dq_46 dp_cL_law rfl
theorem dL_law_787 : decode cL_law 787 = .ok (.invokevirtual 86, 3) := dq_182 dp_cL_law rfl
theorem dL_law_790 : decode cL_law 790 = .ok (.pop, 1) := dq_87 dp_cL_law rfl
theorem dL_law_791 : decode cL_law 791 = .ok (.goto 579, 3) := dq_167 (v := 579) dp_cL_law rfl rfl
theorem dL_law_794 : decode cL_law 794 = .ok (.aload_n 1, 1) := dq_43 dp_cL_law rfl
theorem dL_law_795 : decode cL_law 795 = .ok (.aload_n 0, 1) := dq_42 dp_cL_law rfl
theorem dL_law_796 : decode cL_law 796 = .ok (.iload_n 3, 1) := dq_29 dp_cL_law rfl
theorem dL_law_797 : decode cL_law 797 = .ok (.iconst 1, 1) := dq_4 dp_cL_law rfl
theorem dL_law_798 : decode cL_law 798 = .ok (.iadd, 1) := dq_96 dp_cL_law rfl
theorem dL_law_799 : decode cL_law 799 = .ok (.iaload, 1) := dq_46 dp_cL_law rfl
theorem dL_law_800 : decode cL_law 800 = .ok (.aload_n 0, 1) := dq_42 dp_cL_law rfl
theorem dL_law_801 : decode cL_law 801 = .ok (.iload_n 3, 1) := dq_29 dp_cL_law rfl
theorem dL_law_802 : decode cL_law 802 = .ok (.iconst 2, 1) := dq_5 dp_cL_law rfl
theorem dL_law_803 : decode cL_law 803 = .ok (.iadd, 1) := dq_96 dp_cL_law rfl
theorem dL_law_804 : decode cL_law 804 = .ok (.iaload, 1) := dq_46 dp_cL_law rfl
theorem dL_law_805 : decode cL_law 805 = .ok (.invokevirtual 87, 3) := dq_182 dp_cL_law rfl
theorem dL_law_808 : decode cL_law 808 = .ok (.pop, 1) := dq_87 dp_cL_law rfl
theorem dL_law_809 : decode cL_law 809 = .ok (.aload_n 2, 1) := dq_44 dp_cL_law rfl
theorem dL_law_810 : decode cL_law 810 = .ok (.aload_n 0, 1) := dq_42 dp_cL_law rfl
theorem dL_law_811 : decode cL_law 811 = .ok (.iload_n 3, 1) := dq_29 dp_cL_law rfl
theorem dL_law_812 : decode cL_law 812 = .ok (.iconst 1, 1) := dq_4 dp_cL_law rfl
theorem dL_law_813 : decode cL_law 813 = .ok (.iadd, 1) := dq_96 dp_cL_law rfl
theorem dL_law_814 : decode cL_law 814 = .ok (.iaload, 1) := dq_46 dp_cL_law rfl
theorem dL_law_815 : decode cL_law 815 = .ok (.aload_n 0, 1) := dq_42 dp_cL_law rfl
theorem dL_law_816 : decode cL_law 816 = .ok (.iload_n 3, 1) := dq_29 dp_cL_law rfl
theorem dL_law_817 : decode cL_law 817 = .ok (.iconst 2, 1) := dq_5 dp_cL_law rfl
theorem dL_law_818 : decode cL_law 818 = .ok (.iadd, 1) := dq_96 dp_cL_law rfl
theorem dL_law_819 : decode cL_law 819 = .ok (.iaload, 1) := dq_46 dp_cL_law rfl
theorem dL_law_820 : decode cL_law 820 = .ok (.invokevirtual 90, 3) := dq_182 dp_cL_law rfl
theorem dL_law_823 : decode cL_law 823 = .ok (.pop, 1) := dq_87 dp_cL_law rfl
theorem dL_law_824 : decode cL_law 824 = .ok (.goto 546, 3) := dq_167 (v := 546) dp_cL_law rfl rfl
theorem dL_law_827 : decode cL_law 827 = .ok (.aload_n 1, 1) := dq_43 dp_cL_law rfl
theorem dL_law_828 : decode cL_law 828 = .ok (.aload_n 0, 1) := dq_42 dp_cL_law rfl
theorem dL_law_829 : decode cL_law 829 = .ok (.iload_n 3, 1) := dq_29 dp_cL_law rfl
theorem dL_law_830 : decode cL_law 830 = .ok (.iconst 1, 1) := dq_4 dp_cL_law rfl
theorem dL_law_831 : decode cL_law 831 = .ok (.iadd, 1) := dq_96 dp_cL_law rfl
theorem dL_law_832 : decode cL_law 832 = .ok (.iaload, 1) := dq_46 dp_cL_law rfl
theorem dL_law_833 : decode cL_law 833 = .ok (.aload_n 0, 1) := dq_42 dp_cL_law rfl
theorem dL_law_834 : decode cL_law 834 = .ok (.iload_n 3, 1) := dq_29 dp_cL_law rfl
theorem dL_law_835 : decode cL_law 835 = .ok (.iconst 2, 1) := dq_5 dp_cL_law rfl
theorem dL_law_836 : decode cL_law 836 = .ok (.iadd, 1) := dq_96 dp_cL_law rfl
theorem dL_law_837 : decode cL_law 837 = .ok (.iaload, 1) := dq_46 dp_cL_law rfl
theorem dL_law_838 : decode cL_law 838 = .ok (.invokevirtual 91, 3) := dq_182 dp_cL_law rfl
theorem dL_law_841 : decode cL_law 841 = .ok (.pop, 1) := dq_87 dp_cL_law rfl
theorem dL_law_842 : decode cL_law 842 = .ok (.aload_n 2, 1) := dq_44 dp_cL_law rfl
theorem dL_law_843 : decode cL_law 843 = .ok (.aload_n 0, 1) := dq_42 dp_cL_law rfl
theorem dL_law_844 : decode cL_law 844 = .ok (.iload_n 3, 1) := dq_29 dp_cL_law rfl
theorem dL_law_845 : decode cL_law 845 = .ok (.iconst 1, 1) := dq_4 dp_cL_law rfl
theorem dL_law_846 : decode cL_law 846 = .ok (.iadd, 1) := dq_96 dp_cL_law rfl
theorem dL_law_847 : decode cL_law 847 = .ok (.iaload, 1) := dq_46 dp_cL_law rfl
theorem dL_law_848 : decode cL_law 848 = .ok (.aload_n 0, 1) := dq_42 dp_cL_law rfl
theorem dL_law_849 : decode cL_law 849 = .ok (.iload_n 3, 1) := dq_29 dp_cL_law rfl
theorem dL_law_850 : decode cL_law 850 = .ok (.iconst 2, 1) := dq_5 dp_cL_law rfl
theorem dL_law_851 : decode cL_law 851 = .ok (.iadd, 1) := dq_96 dp_cL_law rfl
theorem dL_law_852 : decode cL_law 852 = .ok (.iaload, 1) := dq_46 dp_cL_law rfl
theorem dL_law_853 : decode cL_law 853 = .ok (.invokevirtual 94, 3) := dq_182 dp_cL_law rfl
theorem dL_law_856 : decode cL_law 856 = .ok (.pop, 1) := dq_87 dp_cL_law rfl
theorem dL_law_857 : decode cL_law 857 = .ok (.goto 513, 3) := dq_167 (v := 513) dp_cL_law rfl rfl
theorem dL_law_860 : decode cL_law 860 = .ok (.aload_n 1, 1) := dq_43 dp_cL_law rfl
theorem dL_law_861 : decode cL_law 861 = .ok (.aload_n 0, 1) := dq_42 dp_cL_law rfl
theorem dL_law_862 : decode cL_law 862 = .ok (.iload_n 3, 1) := dq_29 dp_cL_law rfl
theorem dL_law_863 : decode cL_law 863 = .ok (.iconst 1, 1) := dq_4 dp_cL_law rfl
theorem dL_law_864 : decode cL_law 864 = .ok (.iadd, 1) := dq_96 dp_cL_law rfl
theorem dL_law_865 : decode cL_law 865 = .ok (.iaload, 1) := dq_46 dp_cL_law rfl
theorem dL_law_866 : decode cL_law 866 = .ok (.aload_n 0, 1) := dq_42 dp_cL_law rfl
theorem dL_law_867 : decode cL_law 867 = .ok (.iload_n 3, 1) := dq_29 dp_cL_law rfl
theorem dL_law_868 : decode cL_law 868 = .ok (.iconst 2, 1) := dq_5 dp_cL_law rfl
theorem dL_law_869 : decode cL_law 869 = .ok (.iadd, 1) := dq_96 dp_cL_law rfl
theorem dL_law_870 : decode cL_law 870 = .ok (.iaload, 1) := dq_46 dp_cL_law rfl
theorem dL_law_871 : decode cL_law 871 = .ok (.invokevirtual 95, 3) := dq_182 dp_cL_law rfl
theorem dL_law_874 : decode cL_law 874 = .ok (.pop, 1) := dq_87 dp_cL_law rfl
theorem dL_law_875 : decode cL_law 875 = .ok (.aload_n 2, 1) := dq_44 dp_cL_law rfl
theorem dL_law_876 : decode cL_law 876 = .ok (.aload_n 0, 1) := dq_42 dp_cL_law rfl
theorem dL_law_877 : decode cL_law 877 = .ok (.iload_n 3, 1) := dq_29 dp_cL_law rfl
theorem dL_law_878 : decode cL_law 878 = .ok (.iconst 1, 1) := dq_4 dp_cL_law rfl
theorem dL_law_879 : decode cL_law 879 = .ok (.iadd, 1) := dq_96 dp_cL_law rfl
theorem dL_law_880 : decode cL_law 880 = .ok (.iaload, 1) := dq_46 dp_cL_law rfl
theorem dL_law_881 : decode cL_law 881 = .ok (.aload_n 0, 1) := dq_42 dp_cL_law rfl
theorem dL_law_882 : decode cL_law 882 = .ok (.iload_n 3, 1) := dq_29 dp_cL_law rfl
theorem dL_law_883 : decode cL_law 883 = .ok (.iconst 2, 1) := dq_5 dp_cL_law rfl
theorem dL_law_884 : decode cL_law 884 = .ok (.iadd, 1) := dq_96 dp_cL_law rfl
theorem dL_law_885 : decode cL_law 885 = .ok (.iaload, 1) := dq_46 dp_cL_law rfl
theorem dL_law_886 : decode cL_law 886 = .ok (.invokevirtual 98, 3) := dq_182 dp_cL_law rfl
theorem dL_law_889 : decode cL_law 889 = .ok (.pop, 1) := dq_87 dp_cL_law rfl
theorem dL_law_890 : decode cL_law 890 = .ok (.goto 480, 3) := dq_167 (v := 480) dp_cL_law rfl rfl
theorem dL_law_893 : decode cL_law 893 = .ok (.aload_n 1, 1) := dq_43 dp_cL_law rfl
theorem dL_law_894 : decode cL_law 894 = .ok (.aload_n 0, 1) := dq_42 dp_cL_law rfl
theorem dL_law_895 : decode cL_law 895 = .ok (.iload_n 3, 1) := dq_29 dp_cL_law rfl
theorem dL_law_896 : decode cL_law 896 = .ok (.iconst 1, 1) := dq_4 dp_cL_law rfl
theorem dL_law_897 : decode cL_law 897 = .ok (.iadd, 1) := dq_96 dp_cL_law rfl
theorem dL_law_898 : decode cL_law 898 = .ok (.iaload, 1) := dq_46 dp_cL_law rfl
theorem dL_law_899 : decode cL_law 899 = .ok (.aload_n 0, 1) := dq_42 dp_cL_law rfl
theorem dL_law_900 : decode cL_law 900 = .ok (.iload_n 3, 1) := dq_29 dp_cL_law rfl
theorem dL_law_901 : decode cL_law 901 = .ok (.iconst 2, 1) := dq_5 dp_cL_law rfl
theorem dL_law_902 : decode cL_law 902 = .ok (.iadd, 1) := dq_96 dp_cL_law rfl
theorem dL_law_903 : decode cL_law 903 = .ok (.iaload, 1) := dq_46 dp_cL_law rfl
theorem dL_law_904 : decode cL_law 904 = .ok (.invokevirtual 99, 3) := dq_182 dp_cL_law rfl
theorem dL_law_907 : decode cL_law 907 = .ok (.pop, 1) := dq_87 dp_cL_law rfl
theorem dL_law_908 : decode cL_law 908 = .ok (.aload_n 2, 1) := dq_44 dp_cL_law rfl
theorem dL_law_909 : decode cL_law 909 = .ok (.aload_n 0, 1) := dq_42 dp_cL_law rfl
theorem dL_law_910 : decode cL_law 910 = .ok (.iload_n 3, 1) := dq_29 dp_cL_law rfl
theorem dL_law_911 : decode cL_law 911 = .ok (.iconst 1, 1) := dq_4 dp_cL_law rfl
theorem dL_law_912 : decode cL_law 912 = .ok (.iadd, 1) := dq_96 dp_cL_law rfl
theorem dL_law_913 : decode cL_law 913 = .ok (.iaload, 1) := dq_46 dp_cL_law rfl
theorem dL_law_914 : decode cL_law 914 = .ok (.aload_n 0, 1) := dq_42 dp_cL_law rfl
theorem dL_law_915 : decode cL_law 915 = .ok (.iload_n 3, 1) := dq_29 dp_cL_law rfl
theorem dL_law_916 : decode cL_law 916 = .ok (.iconst 2, 1) := dq_5 dp_cL_law rfl
theorem dL_law_917 : decode cL_law 917 = .ok (.iadd, 1) := dq_96 dp_cL_law rfl
theorem dL_law_918 : decode cL_law 918 = .ok (.iaload, 1) := dq_46 dp_cL_law rfl
theorem dL_law_919 : decode cL_law 919 = .ok (.invokevirtual 102, 3) := dq_182 dp_cL_law rfl
theorem dL_law_922 : decode cL_law 922 = .ok (.pop, 1) := dq_87 dp_cL_law rfl
theorem dL_law_923 : decode cL_law 923 = .ok (.goto 447, 3) := dq_167 (v := 447) dp_cL_law rfl rfl
theorem dL_law_926 : decode cL_law 926 = .ok (.aload_n 1, 1) := dq_43 dp_cL_law rfl
theorem dL_law_927 : decode cL_law 927 = .ok (.aload_n 0, 1) := dq_42 dp_cL_law rfl
theorem dL_law_928 : decode cL_law 928 = .ok (.iload_n 3, 1) := dq_29 dp_cL_law rfl
theorem dL_law_929 : decode cL_law 929 = .ok (.iconst 1, 1) := dq_4 dp_cL_law rfl
theorem dL_law_930 : decode cL_law 930 = .ok (.iadd, 1) := dq_96 dp_cL_law rfl
theorem dL_law_931 : decode cL_law 931 = .ok (.iaload, 1) := dq_46 dp_cL_law rfl
theorem dL_law_932 : decode cL_law 932 = .ok (.invokevirtual 103, 3) := dq_182 dp_cL_law rfl
theorem dL_law_935 : decode cL_law 935 = .ok (.pop, 1) := dq_87 dp_cL_law rfl
theorem dL_law_936 : decode cL_law 936 = .ok (.aload_n 2, 1) := dq_44 dp_cL_law rfl
theorem dL_law_937 : decode cL_law 937 = .ok (.aload_n 0, 1) := dq_42 dp_cL_law rfl
theorem dL_law_938 : decode cL_law 938 = .ok (.iload_n 3, 1) := dq_29 dp_cL_law rfl
theorem dL_law_939 : decode cL_law 939 = .ok (.iconst 1, 1) := dq_4 dp_cL_law rfl
theorem dL_law_940 : decode cL_law 940 = .ok (.iadd, 1) := dq_96 dp_cL_law rfl
theorem dL_law_941 : decode cL_law 941 = .ok (.iaload, 1) := dq_46 dp_cL_law rfl
theorem dL_law_942 : decode cL_law 942 = .ok (.invokevirtual 106, 3) := dq_182 dp_cL_law rfl
theorem dL_law_945 : decode cL_law 945 = .ok (.pop, 1) := dq_87 dp_cL_law rfl
theorem dL_law_946 : decode cL_law 946 = .ok (.goto 424, 3) := dq_167 (v := 424) dp_cL_law rfl rfl
theorem dL_law_949 : decode cL_law 949 = .ok (.aload_n 1, 1) := dq_43 dp_cL_law rfl
theorem dL_law_950 : decode cL_law 950 = .ok (.aload_n 0, 1) := dq_42 dp_cL_law rfl
theorem dL_law_951 : decode cL_law 951 = .ok (.iload_n 3, 1) := dq_29 dp_cL_law rfl
theorem dL_law_952 : decode cL_law 952 = .ok (.iconst 1, 1) := dq_4 dp_cL_law rfl
theorem dL_law_953 : decode cL_law 953 = .ok (.iadd, 1) := dq_96 dp_cL_law rfl
theorem dL_law_954 : decode cL_law 954 = .ok (.iaload, 1) := dq_46 dp_cL_law rfl
theorem dL_law_955 : decode cL_law 955 = .ok (.aload_n 0, 1) := dq_42 dp_cL_law rfl
theorem dL_law_956 : decode cL_law 956 = .ok (.iload_n 3, 1) := dq_29 dp_cL_law rfl
theorem dL_law_957 : decode cL_law 957 = .ok (.iconst 2, 1) := dq_5 dp_cL_law rfl
theorem dL_law_958 : decode cL_law 958 = .ok (.iadd, 1) := dq_96 dp_cL_law rfl
theorem dL_law_959 : decode cL_law 959 = .ok (.iaload, 1) := dq_46 dp_cL_law rfl
theorem dL_law_960 : decode cL_law 960 = .ok (.aload_n 0, 1) := dq_42 dp_cL_law rfl
theorem dL_law_961 : decode cL_law 961 = .ok (.iload_n 3, 1) := dq_29 dp_cL_law rfl
theorem dL_law_962 : decode cL_law 962 = .ok (.iconst 3, 1) := dq_6 dp_cL_law rfl
theorem dL_law_963 : decode cL_law 963 = .ok (.iadd, 1) := dq_96 dp_cL_law rfl
theorem dL_law_964 : decode cL_law 964 = .ok (.iaload, 1) := dq_46 dp_cL_law rfl
theorem dL_law_965 : decode cL_law 965 = .ok (.invokevirtual 107, 3) := dq_182 dp_cL_law rfl
theorem dL_law_968 : decode cL_law 968 = .ok (.pop, 1) := dq_87 dp_cL_law rfl
theorem dL_law_969 : decode cL_law 969 = .ok (.aload_n 2, 1) := dq_44 dp_cL_law rfl
theorem dL_law_970 : decode cL_law 970 = .ok (.aload_n 0, 1) := dq_42 dp_cL_law rfl
theorem dL_law_971 : decode cL_law 971 = .ok (.iload_n 3, 1) := dq_29 dp_cL_law rfl
theorem dL_law_972 : decode cL_law 972 = .ok (.iconst 1, 1) := dq_4 dp_cL_law rfl
theorem dL_law_973 : decode cL_law 973 = .ok (.iadd, 1) := dq_96 dp_cL_law rfl
theorem dL_law_974 : decode cL_law 974 = .ok (.iaload, 1) := dq_46 dp_cL_law rfl
theorem dL_law_975 : decode cL_law 975 = .ok (.aload_n 0, 1) := dq_42 dp_cL_law rfl
theorem dL_law_976 : decode cL_law 976 = .ok (.iload_n 3, 1) := dq_29 dp_cL_law rfl
theorem dL_law_977 : decode cL_law 977 = .ok (.iconst 2, 1) := dq_5 dp_cL_law rfl
theorem dL_law_978 : decode cL_law 978 = .ok (.iadd, 1) := dq_96 dp_cL_law rfl
theorem dL_law_979 : decode cL_law 979 = .ok (.iaload, 1) := dq_46 dp_cL_law rfl
theorem dL_law_980 : decode cL_law 980 = .ok (.aload_n 0, 1) := dq_42 dp_cL_law rfl
theorem dL_law_981 : decode cL_law 981 = .ok (.iload_n 3, 1) := dq_29 dp_cL_law rfl
theorem dL_law_982 : decode cL_law 982 = .ok (.iconst 3, 1) := dq_6 dp_cL_law rfl
theorem dL_law_983 : decode cL_law 983 = .ok (.iadd, 1) := dq_96 dp_cL_law rfl
theorem dL_law_984 : decode cL_law 984 = .ok (.iaload, 1) := dq_46 dp_cL_law rfl
theorem dL_law_985 : decode cL_law 985 = .ok (.invokevirtual 110, 3) := dq_182 dp_cL_law rfl
theorem dL_law_988 : decode cL_law 988 = .ok (.pop, 1) := dq_87 dp_cL_law rfl
theorem dL_law_989 : decode cL_law 989 = .ok (.goto 381, 3) := dq_167 (v := 381) dp_cL_law rfl rfl
theorem dL_law_992 : decode cL_law 992 = .ok (.aload_n 1, 1) := dq_43 dp_cL_law rfl
theorem dL_law_993 : decode cL_law 993 = .ok (.aload_n 0, 1) := dq_42 dp_cL_law rfl
theorem dL_law_994 : decode cL_law 994 = .ok (.iload_n 3, 1) := dq_29 dp_cL_law rfl
theorem dL_law_995 : decode cL_law 995 = .ok (.iconst 1, 1) := dq_4 dp_cL_law rfl
theorem dL_law_996 : decode cL_law 996 = .ok (.iadd, 1) := dq_96 dp_cL_law rfl
theorem dL_law_997 : decode cL_law 997 = .ok (.iaload, 1) := dq_46 dp_cL_law rfl
theorem dL_law_998 : decode cL_law 998 = .ok (.invokevirtual 111, 3) := dq_182 dp_cL_law rfl
theorem dL_law_1001 : decode cL_law 1001 = .ok (.pop, 1) := dq_87 dp_cL_law rfl
theorem dL_law_1002 : decode cL_law 1002 = .ok (.aload_n 2, 1) := dq_44 dp_cL_law rfl
theorem dL_law_1003 : decode cL_law 1003 = .ok (.aload_n 0, 1) := dq_42 dp_cL_law rfl
theorem dL_law_1004 : decode cL_law 1004 = .ok (.iload_n 3, 1) := dq_29 dp_cL_law rfl
theorem dL_law_1005 : decode cL_law 1005 = .ok (.iconst 1, 1) := dq_4 dp_cL_law rfl
theorem dL_law_1006 : decode cL_law 1006 = .ok (.iadd, 1) := dq_96 dp_cL_law rfl
theorem dL_law_1007 : decode cL_law 1007 = .ok (.iaload, 1) := dq_46 dp_cL_law rfl
theorem dL_law_1008 : decode cL_law 1008 = .ok (.invokevirtual 114, 3) := dq_182 dp_cL_law rfl
theorem dL_law_1011 : decode cL_law 1011 = .ok (.pop, 1) := dq_87 dp_cL_law rfl
theorem dL_law_1012 : decode cL_law 1012 = .ok (.goto 358, 3) := dq_167 (v := 358) dp_cL_law rfl rfl
theorem dL_law_1015 : decode cL_law 1015 = .ok (.aload_n 1, 1) := dq_43 dp_cL_law rfl
theorem dL_law_1016 : decode cL_law 1016 = .ok (.aload_n 0, 1) := dq_42 dp_cL_law rfl
theorem dL_law_1017 : decode cL_law 1017 = .ok (.iload_n 3, 1) := dq_29 dp_cL_law rfl
theorem dL_law_1018 : decode cL_law 1018 = .ok (.iconst 1, 1) := dq_4 dp_cL_law rfl
theorem dL_law_1019 : decode cL_law 1019 = .ok (.iadd, 1) := dq_96 dp_cL_law rfl
theorem dL_law_1020 : decode cL_law 1020 = .ok (.iaload, 1) := dq_46 dp_cL_law rfl
theorem dL_law_1021 : decode cL_law 1021 = .ok (.invokevirtual 115, 3) := dq_182 dp_cL_law rfl
theorem dL_law_1024 : decode cL_law 1024 = .ok (.pop, 1) := dq_87 dp_cL_law rfl
theorem dL_law_1025 : decode cL_law 1025 = .ok (.aload_n 2, 1) := dq_44 dp_cL_law rfl
theorem dL_law_1026 : decode cL_law 1026 = .ok (.aload_n 0, 1) := dq_42 dp_cL_law rfl
theorem dL_law_1027 : decode cL_law 1027 = .ok (.iload_n 3, 1) := dq_29 dp_cL_law rfl
theorem dL_law_1028 : decode cL_law 1028 = .ok (.iconst 1, 1) := dq_4 dp_cL_law rfl
theorem dL_law_1029 : decode cL_law 1029 = .ok (.iadd, 1) := dq_96 dp_cL_law rfl
theorem dL_law_1030 : decode cL_law 1030 = .ok (.iaload, 1) := dq_46 dp_cL_law rfl
theorem dL_law_1031 : decode cL_law 1031 = .ok (.invokevirtual 118, 3) := dq_182 dp_cL_law rfl
theorem dL_law_1034 : decode cL_law 1034 = .ok (.pop, 1) := dq_87 dp_cL_law rfl
theorem dL_law_1035 : decode cL_law 1035 = .ok (.goto 335, 3) := dq_167 (v := 335) dp_cL_law rfl rfl
theorem dL_law_1038 : decode cL_law 1038 = .ok (.aload_n 1, 1) := dq_43 dp_cL_law rfl
theorem dL_law_1039 : decode cL_law 1039 = .ok (.aload_n 0, 1) := dq_42 dp_cL_law rfl
theorem dL_law_1040 : decode cL_law 1040 = .ok (.iload_n 3, 1) := dq_29 dp_cL_law rfl
theorem dL_law_1041 : decode cL_law 1041 = .ok (.iconst 1, 1) := dq_4 dp_cL_law rfl
theorem dL_law_1042 : decode cL_law 1042 = .ok (.iadd, 1) := dq_96 dp_cL_law rfl
theorem dL_law_1043 : decode cL_law 1043 = .ok (.iaload, 1) := dq_46 dp_cL_law rfl
theorem dL_law_1044 : decode cL_law 1044 = .ok (.invokevirtual 119, 3) := dq_182 dp_cL_law rfl
theorem dL_law_1047 : decode cL_law 1047 = .ok (.pop, 1) := dq_87 dp_cL_law rfl
theorem dL_law_1048 : decode cL_law 1048 = .ok (.aload_n 2, 1) := dq_44 dp_cL_law rfl
theorem dL_law_1049 : decode cL_law 1049 = .ok (.aload_n 0, 1) := dq_42 dp_cL_law rfl
theorem dL_law_1050 : decode cL_law 1050 = .ok (.iload_n 3, 1) := dq_29 dp_cL_law rfl
theorem dL_law_1051 : decode cL_law 1051 = .ok (.iconst 1, 1) := dq_4 dp_cL_law rfl
theorem dL_law_1052 : decode cL_law 1052 = .ok (.iadd, 1) := dq_96 dp_cL_law rfl
theorem dL_law_1053 : decode cL_law 1053 = .ok (.iaload, 1) := dq_46 dp_cL_law rfl
theorem dL_law_1054 : decode cL_law 1054 = .ok (.invokevirtual 122, 3) := dq_182 dp_cL_law rfl
end
section
theorem dL_law_1057 : decode cL_law 1057 = .ok (.pop, 1) := dq_87 dp_cL_law rfl
theorem dL_law_1058 : decode cL_law 1058 = .ok (.goto 312, 3) := dq_167 (v := 312) dp_cL_law rfl rfl
theorem dL_law_1061 : decode cL_law 1061 = .ok (.aload_n 1, 1) := dq_43 dp_cL_law rfl
theorem dL_law_1062 : decode cL_law 1062 = .ok (.aload_n 0, 1) := dq_42 dp_cL_law rfl
theorem dL_law_1063 : decode cL_law 1063 = .ok (.iload_n 3, 1) := dq_29 dp_cL_law rfl
theorem dL_law_1064 : decode cL_law 1064 = .ok (.iconst 1, 1) := dq_4 dp_cL_law rfl
theorem dL_law_1065 : decode cL_law 1065 = .ok (.iadd, 1) := dq_96 dp_cL_law rfl
theorem dL_law_1066 : decode cL_law 1066 = .ok (.iaload, 1) := dq_46 dp_cL_law rfl
theorem dL_law_1067 : decode cL_law 1067 = .ok (.aload_n 0, 1) := dq_42 dp_cL_law rfl
theorem dL_law_1068 : decode cL_law 1068 = .ok (.iload_n 3, 1) := dq_29 dp_cL_law rfl
theorem dL_law_1069 : decode cL_law 1069 = .ok (.iconst 2, 1) := dq_5 dp_cL_law rfl
theorem dL_law_1070 : decode cL_law 1070 = .ok (.iadd, 1) := dq_96 dp_cL_law rfl
theorem dL_law_1071 : decode cL_law 1071 = .ok (.iaload, 1) := dq_46 dp_cL_law rfl
theorem dL_law_1072 : decode cL_law 1072 = .ok (.invokevirtual 123, 3) := dq_182 dp_cL_law rfl
theorem dL_law_1075 : decode cL_law 1075 = .ok (.pop, 1) := dq_87 dp_cL_law rfl
theorem dL_law_1076 : decode cL_law 1076 = .ok (.aload_n 2, 1) := dq_44 dp_cL_law rfl
theorem dL_law_1077 : decode cL_law 1077 = .ok (.aload_n 0, 1) := dq_42 dp_cL_law rfl
theorem dL_law_1078 : decode cL_law 1078 = .ok (.iload_n 3, 1) := dq_29 dp_cL_law rfl
theorem dL_law_1079 : decode cL_law 1079 = .ok (.iconst 1, 1) := dq_4 dp_cL_law rfl
theorem dL_law_1080 : decode cL_law 1080 = .ok (.iadd, 1) := dq_96 dp_cL_law rfl
theorem dL_law_1081 : decode cL_law 1081 = .ok (.iaload, 1) := dq_46 dp_cL_law rfl
theorem dL_law_1082 : decode cL_law 1082 = .ok (.aload_n 0, 1) := dq_42 dp_cL_law rfl
theorem dL_law_1083 : decode cL_law 1083 = .ok (.iload_n 3, 1) := dq_29 dp_cL_law rfl
theorem dL_law_1084 : decode cL_law 1084 = .ok (.iconst 2, 1) := dq_5 dp_cL_law rfl
theorem dL_law_1085 : decode cL_law 1085 = .ok (.iadd, 1) := dq_96 dp_cL_law rfl
theorem dL_law_1086 : decode cL_law 1086 = .ok (.iaload, 1) := dq_46 dp_cL_law rfl
theorem dL_law_1087 : decode cL_law 1087 = .ok (.invokevirtual 126, 3) := dq_182 dp_cL_law rfl
theorem dL_law_1090 : decode cL_law 1090 = .ok (.pop, 1) := dq_87 dp_cL_law rfl
theorem dL_law_1091 : decode cL_law 1091 = .ok (.goto 279, 3) := dq_167 (v := 279) dp_cL_law rfl rfl
theorem dL_law_1094 : decode cL_law 1094 = .ok (.aload_n 1, 1) := dq_43 dp_cL_law rfl
theorem dL_law_1095 : decode cL_law 1095 = .ok (.aload_n 0, 1) := dq_42 dp_cL_law rfl
theorem dL_law_1096 : decode cL_law 1096 = .ok (.iload_n 3, 1) := dq_29 dp_cL_law rfl
theorem dL_law_1097 : decode cL_law 1097 = .ok (.iconst 1, 1) := dq_4 dp_cL_law rfl
theorem dL_law_1098 : decode cL_law 1098 = .ok (.iadd, 1) := dq_96 dp_cL_law rfl
theorem dL_law_1099 : decode cL_law 1099 = .ok (.iaload, 1) := dq_46 dp_cL_law rfl
theorem dL_law_1100 : decode cL_law 1100 = .ok (.aload_n 0, 1) := dq_42 dp_cL_law rfl
theorem dL_law_1101 : decode cL_law 1101 = .ok (.iload_n 3, 1) := dq_29 dp_cL_law rfl
theorem dL_law_1102 : decode cL_law 1102 = .ok (.iconst 2, 1) := dq_5 dp_cL_law rfl
theorem dL_law_1103 : decode cL_law 1103 = .ok (.iadd, 1) := dq_96 dp_cL_law rfl
theorem dL_law_1104 : decode cL_law 1104 = .ok (.iaload, 1) := dq_46 dp_cL_law rfl
theorem dL_law_1105 : decode cL_law 1105 = .ok (.aload_n 0, 1) := dq_42 dp_cL_law rfl
theorem dL_law_1106 : decode cL_law 1106 = .ok (.iload_n 3, 1) := dq_29 dp_cL_law rfl
theorem dL_law_1107 : decode cL_law 1107 = .ok (.iconst 3, 1) := dq_6 dp_cL_law rfl
theorem dL_law_1108 : decode cL_law 1108 = .ok (.iadd, 1) := dq_96 dp_cL_law rfl
theorem dL_law_1109 : decode cL_law 1109 = .ok (.iaload, 1) := dq_46 dp_cL_law rfl
theorem dL_law_1110 : decode cL_law 1110 = .ok (.invokevirtual 127, 3) := dq_182 dp_cL_law rfl
theorem dL_law_1113 : decode cL_law 1113 = .ok (.pop, 1) := dq_87 dp_cL_law rfl
theorem dL_law_1114 : decode cL_law 1114 = .ok (.aload_n 2, 1) := dq_44 dp_cL_law rfl
theorem dL_law_1115 : decode cL_law 1115 = .ok (.aload_n 0, 1) := dq_42 dp_cL_law rfl
theorem dL_law_1116 : decode cL_law 1116 = .ok (.iload_n 3, 1) := dq_29 dp_cL_law rfl
theorem dL_law_1117 : decode cL_law 1117 = .ok (.iconst 1, 1) := dq_4 dp_cL_law rfl
theorem dL_law_1118 : decode cL_law 1118 = .ok (.iadd, 1) := dq_96 dp_cL_law rfl
theorem dL_law_1119 : decode cL_law 1119 = .ok (.iaload, 1) := dq_46 dp_cL_law rfl
theorem dL_law_1120 : decode cL_law 1120 = .ok (.aload_n 0, 1) := dq_42 dp_cL_law rfl
theorem dL_law_1121 : decode cL_law 1121 = .ok (.iload_n 3, 1) := dq_29 dp_cL_law rfl
theorem dL_law_1122 : decode cL_law 1122 = .ok (.iconst 2, 1) := dq_5 dp_cL_law rfl
theorem dL_law_1123 : decode cL_law 1123 = .ok (.iadd, 1) := dq_96 dp_cL_law rfl
theorem dL_law_1124 : decode cL_law 1124 = .ok (.iaload, 1) := dq_46 dp_cL_law rfl
theorem dL_law_1125 : decode cL_law 1125 = .ok (.aload_n 0, 1) := dq_42 dp_cL_law rfl
theorem dL_law_1126 : decode cL_law 1126 = .ok (.iload_n 3, 1) := dq_29 dp_cL_law rfl
theorem dL_law_1127 : decode cL_law 1127 = .ok (.iconst 3, 1) := dq_6 dp_cL_law rfl
theorem dL_law_1128 : decode cL_law 1128 = .ok (.iadd, 1) := dq_96 dp_cL_law rfl
theorem dL_law_1129 : decode cL_law 1129 = .ok (.iaload, 1) := dq_46 dp_cL_law rfl
theorem dL_law_1130 : decode cL_law 1130 = .ok (.invokevirtual 130, 3) := dq_182 dp_cL_law rfl
theorem dL_law_1133 : decode cL_law 1133 = .ok (.pop, 1) := dq_87 dp_cL_law rfl
theorem dL_law_1134 : decode cL_law 1134 = .ok (.goto 236, 3) := dq_167 (v := 236) dp_cL_law rfl rfl
theorem dL_law_1137 : decode cL_law 1137 = .ok (.aload_n 1, 1) := dq_43 dp_cL_law rfl
theorem dL_law_1138 : decode cL_law 1138 = .ok (.invokevirtual 131, 3) := dq_182 dp_cL_law rfl
theorem dL_law_1141 : decode cL_law 1141 = .ok (.pop, 1) := dq_87 dp_cL_law rfl
theorem dL_law_1142 : decode cL_law 1142 = .ok (.aload_n 2, 1) := dq_44 dp_cL_law rfl
theorem dL_law_1143 : decode cL_law 1143 = .ok (.invokevirtual 134, 3) := dq_182 dp_cL_law rfl
theorem dL_law_1146 : decode cL_law 1146 = .ok (.pop, 1) := dq_87 dp_cL_law rfl
theorem dL_law_1147 : decode cL_law 1147 = .ok (.goto 223, 3) := dq_167 (v := 223) dp_cL_law rfl rfl
theorem dL_law_1150 : decode cL_law 1150 = .ok (.aload_n 1, 1) := dq_43 dp_cL_law rfl
theorem dL_law_1151 : decode cL_law 1151 = .ok (.aload_n 0, 1) := dq_42 dp_cL_law rfl
theorem dL_law_1152 : decode cL_law 1152 = .ok (.iload_n 3, 1) := dq_29 dp_cL_law rfl
theorem dL_law_1153 : decode cL_law 1153 = .ok (.iconst 1, 1) := dq_4 dp_cL_law rfl
theorem dL_law_1154 : decode cL_law 1154 = .ok (.iadd, 1) := dq_96 dp_cL_law rfl
theorem dL_law_1155 : decode cL_law 1155 = .ok (.iaload, 1) := dq_46 dp_cL_law rfl
theorem dL_law_1156 : decode cL_law 1156 = .ok (.invokevirtual 135, 3) := dq_182 dp_cL_law rfl
theorem dL_law_1159 : decode cL_law 1159 = .ok (.pop, 1) := dq_87 dp_cL_law rfl
theorem dL_law_1160 : decode cL_law 1160 = .ok (.aload_n 2, 1) := dq_44 dp_cL_law rfl
theorem dL_law_1161 : decode cL_law 1161 = .ok (.aload_n 0, 1) := dq_42 dp_cL_law rfl
theorem dL_law_1162 : decode cL_law 1162 = .ok (.iload_n 3, 1) := dq_29 dp_cL_law rfl
theorem dL_law_1163 : decode cL_law 1163 = .ok (.iconst 1, 1) := dq_4 dp_cL_law rfl
theorem dL_law_1164 : decode cL_law 1164 = .ok (.iadd, 1) := dq_96 dp_cL_law rfl
theorem dL_law_1165 : decode cL_law 1165 = .ok (.iaload, 1) := dq_46 dp_cL_law rfl
theorem dL_law_1166 : decode cL_law 1166 = .ok (.invokevirtual 138, 3) := dq_182 dp_cL_law rfl
theorem dL_law_1169 : decode cL_law 1169 = .ok (.pop, 1) := dq_87 dp_cL_law rfl
theorem dL_law_1170 : decode cL_law 1170 = .ok (.goto 200, 3) := dq_167 (v := 200) dp_cL_law rfl rfl
theorem dL_law_1173 : decode cL_law 1173 = .ok (.aload_n 1, 1) := dq_43 dp_cL_law rfl
theorem dL_law_1174 : decode cL_law 1174 = .ok (.invokevirtual 139, 3) := dq_182 dp_cL_law rfl
theorem dL_law_1177 : decode cL_law 1177 = .ok (.pop, 1) := dq_87 dp_cL_law rfl
theorem dL_law_1178 : decode cL_law 1178 = .ok (.aload_n 2, 1) := dq_44 dp_cL_law rfl
theorem dL_law_1179 : decode cL_law 1179 = .ok (.invokevirtual 142, 3) := dq_182 dp_cL_law rfl
theorem dL_law_1182 : decode cL_law 1182 = .ok (.pop, 1) := dq_87 dp_cL_law rfl
theorem dL_law_1183 : decode cL_law 1183 = .ok (.goto 187, 3) := dq_167 (v := 187) dp_cL_law rfl rfl
theorem dL_law_1186 : decode cL_law 1186 = .ok (.aload_n 1, 1) := dq_43 dp_cL_law rfl
theorem dL_law_1187 : decode cL_law 1187 = .ok (.aload_n 0, 1) := dq_42 dp_cL_law rfl
theorem dL_law_1188 : decode cL_law 1188 = .ok (.iload_n 3, 1) := dq_29 dp_cL_law rfl
theorem dL_law_1189 : decode cL_law 1189 = .ok (.iconst 1, 1) := dq_4 dp_cL_law rfl
theorem dL_law_1190 : decode cL_law 1190 = .ok (.iadd, 1) := dq_96 dp_cL_law rfl
theorem dL_law_1191 : decode cL_law 1191 = .ok (.iaload, 1) := dq_46 dp_cL_law rfl
theorem dL_law_1192 : decode cL_law 1192 = .ok (.invokevirtual 143, 3) := dq_182 dp_cL_law rfl
theorem dL_law_1195 : decode cL_law 1195 = .ok (.pop, 1) := dq_87 dp_cL_law rfl
theorem dL_law_1196 : decode cL_law 1196 = .ok (.aload_n 2, 1) := dq_44 dp_cL_law rfl
theorem dL_law_1197 : decode cL_law 1197 = .ok (.aload_n 0, 1) := dq_42 dp_cL_law rfl
theorem dL_law_1198 : decode cL_law 1198 = .ok (.iload_n 3, 1) := dq_29 dp_cL_law rfl
theorem dL_law_1199 : decode cL_law 1199 = .ok (.iconst 1, 1) := dq_4 dp_cL_law rfl
theorem dL_law_1200 : decode cL_law 1200 = .ok (.iadd, 1) := dq_96 dp_cL_law rfl
theorem dL_law_1201 : decode cL_law 1201 = .ok (.iaload, 1) := dq_46 dp_cL_law rfl
theorem dL_law_1202 : decode cL_law 1202 = .ok (.invokevirtual 146, 3) := dq_182 dp_cL_law rfl
theorem dL_law_1205 : decode cL_law 1205 = .ok (.pop, 1) := dq_87 dp_cL_law rfl
theorem dL_law_1206 : decode cL_law 1206 = .ok (.goto 164, 3) := dq_167 (v := 164) dp_cL_law rfl rfl
theorem dL_law_1209 : decode cL_law 1209 = .ok (.aload_n 1, 1) := dq_43 dp_cL_law rfl
theorem dL_law_1210 : decode cL_law 1210 = .ok (.aload_n 0, 1) := dq_42 dp_cL_law rfl
theorem dL_law_1211 : decode cL_law 1211 = .ok (.iload_n 3, 1) := dq_29 dp_cL_law rfl
theorem dL_law_1212 : decode cL_law 1212 = .ok (.iconst 1, 1) := dq_4 dp_cL_law rfl
theorem dL_law_1213 : decode cL_law 1213 = .ok (.iadd, 1) := dq_96 dp_cL_law rfl
theorem dL_law_1214 : decode cL_law 1214 = .ok (.iaload, 1) := dq_46 dp_cL_law rfl
theorem dL_law_1215 : decode cL_law 1215 = .ok (.invokevirtual 147, 3) := dq_182 dp_cL_law rfl
theorem dL_law_1218 : decode cL_law 1218 = .ok (.pop, 1) := dq_87 dp_cL_law rfl
theorem dL_law_1219 : decode cL_law 1219 = .ok (.aload_n 2, 1) := dq_44 dp_cL_law rfl
theorem dL_law_1220 : decode cL_law 1220 = .ok (.aload_n 0, 1) := dq_42 dp_cL_law rfl
theorem dL_law_1221 : decode cL_law 1221 = .ok (.iload_n 3, 1) := dq_29 dp_cL_law rfl
theorem dL_law_1222 : decode cL_law 1222 = .ok (.iconst 1, 1) := dq_4 dp_cL_law rfl
theorem dL_law_1223 : decode cL_law 1223 = .ok (.iadd, 1) := dq_96 dp_cL_law rfl
theorem dL_law_1224 : decode cL_law 1224 = .ok (.iaload, 1) := dq_46 dp_cL_law rfl
theorem dL_law_1225 : decode cL_law 1225 = .ok (.invokevirtual 150, 3) := dq_182 dp_cL_law rfl
theorem dL_law_1228 : decode cL_law 1228 = .ok (.pop, 1) := dq_87 dp_cL_law rfl
theorem dL_law_1229 : decode cL_law 1229 = .ok (.goto 141, 3) := dq_167 (v := 141) dp_cL_law rfl rfl
theorem dL_law_1232 : decode cL_law 1232 = .ok (.aload_n 1, 1) := dq_43 dp_cL_law rfl
theorem dL_law_1233 : decode cL_law 1233 = .ok (.aload_n 0, 1) := dq_42 dp_cL_law rfl
theorem dL_law_1234 : decode cL_law 1234 = .ok (.iload_n 3, 1) := dq_29 dp_cL_law rfl
theorem dL_law_1235 : decode cL_law 1235 = .ok (.iconst 1, 1) := dq_4 dp_cL_law rfl
theorem dL_law_1236 : decode cL_law 1236 = .ok (.iadd, 1) := dq_96 dp_cL_law rfl
theorem dL_law_1237 : decode cL_law 1237 = .ok (.iaload, 1) := dq_46 dp_cL_law rfl
theorem dL_law_1238 : decode cL_law 1238 = .ok (.invokevirtual 151, 3) := dq_182 dp_cL_law rfl
theorem dL_law_1241 : decode cL_law 1241 = .ok (.pop, 1) := dq_87 dp_cL_law rfl
theorem dL_law_1242 : decode cL_law 1242 = .ok (.aload_n 2, 1) := dq_44 dp_cL_law rfl
theorem dL_law_1243 : decode cL_law 1243 = .ok (.aload_n 0, 1) := dq_42 dp_cL_law rfl
theorem dL_law_1244 : decode cL_law 1244 = .ok (.iload_n 3, 1) := dq_29 dp_cL_law rfl
theorem dL_law_1245 : decode cL_law 1245 = .ok (.iconst 1, 1) := dq_4 dp_cL_law rfl
theorem dL_law_1246 : decode cL_law 1246 = .ok (.iadd, 1) := dq_96 dp_cL_law rfl
theorem dL_law_1247 : decode cL_law 1247 = .ok (.iaload, 1) := dq_46 dp_cL_law rfl
theorem dL_law_1248 : decode cL_law 1248 = .ok (.invokevirtual 154, 3) := dq_182 dp_cL_law rfl
theorem dL_law_1251 : decode cL_law 1251 = .ok (.pop, 1) := dq_87 dp_cL_law rfl
theorem dL_law_1252 : decode cL_law 1252 = .ok (.goto 118, 3) := dq_167 (v := 118) dp_cL_law rfl rfl
theorem dL_law_1255 : decode cL_law 1255 = .ok (.aload_n 1, 1) := dq_43 dp_cL_law rfl
theorem dL_law_1256 : decode cL_law 1256 = .ok (.aload_n 0, 1) := dq_42 dp_cL_law rfl
theorem dL_law_1257 : decode cL_law 1257 = .ok (.iload_n 3, 1) := dq_29 dp_cL_law rfl
theorem dL_law_1258 : decode cL_law 1258 = .ok (.iconst 1, 1) := dq_4 dp_cL_law rfl
theorem dL_law_1259 : decode cL_law 1259 = .ok (.iadd, 1) := dq_96 dp_cL_law rfl
theorem dL_law_1260 : decode cL_law 1260 = .ok (.iaload, 1) := dq_46 dp_cL_law rfl
theorem dL_law_1261 : decode cL_law 1261 = .ok (.aload_n 0, 1) := dq_42 dp_cL_law rfl
theorem dL_law_1262 : decode cL_law 1262 = .ok (.iload_n 3, 1) := dq_29 dp_cL_law rfl
theorem dL_law_1263 : decode cL_law 1263 = .ok (.iconst 2, 1) := dq_5 dp_cL_law rfl
theorem dL_law_1264 : decode cL_law 1264 = .ok (.iadd, 1) := dq_96 dp_cL_law rfl
theorem dL_law_1265 : decode cL_law 1265 = .ok (.iaload, 1) := dq_46 dp_cL_law rfl
theorem dL_law_1266 : decode cL_law 1266 = .ok (.aload_n 0, 1) := dq_42 dp_cL_law rfl
theorem dL_law_1267 : decode cL_law 1267 = .ok (.iload_n 3, 1) := dq_29 dp_cL_law rfl
theorem dL_law_1268 : decode cL_law 1268 = .ok (.iconst 3, 1) := dq_6 dp_cL_law rfl
theorem dL_law_1269 : decode cL_law 1269 = .ok (.iadd, 1) := dq_96 dp_cL_law rfl
theorem dL_law_1270 : decode cL_law 1270 = .ok (.iaload, 1) := dq_46 dp_cL_law rfl
theorem dL_law_1271 : decode cL_law 1271 = .ok (.invokevirtual 155, 3) := dq_182 dp_cL_law rfl
theorem dL_law_1274 : decode cL_law 1274 = .ok (.pop, 1) := dq_87 dp_cL_law rfl
theorem dL_law_1275 : decode cL_law 1275 = .ok (.aload_n 2, 1) := dq_44 dp_cL_law rfl
theorem dL_law_1276 : decode cL_law 1276 = .ok (.aload_n 0, 1) := dq_42 dp_cL_law rfl
theorem dL_law_1277 : decode cL_law 1277 = .ok (.iload_n 3, 1) := dq_29 dp_cL_law rfl
theorem dL_law_1278 : decode cL_law 1278 = .ok (.iconst 1, 1) := dq_4 dp_cL_law rfl
theorem dL_law_1279 : decode cL_law 1279 = .ok (.iadd, 1) := dq_96 dp_cL_law rfl
theorem dL_law_1280 : decode cL_law 1280 = .ok (.iaload, 1) := dq_46 dp_cL_law rfl
theorem dL_law_1281 : decode cL_law 1281 = .ok (.aload_n 0, 1) := dq_42 dp_cL_law rfl
theorem dL_law_1282 : decode cL_law 1282 = .ok (.iload_n 3, 1) := dq_29 dp_cL_law rfl
theorem dL_law_1283 : decode cL_law 1283 = .ok (.iconst 2, 1) := dq_5 dp_cL_law rfl
theorem dL_law_1284 : decode cL_law 1284 = .ok (.iadd, 1) := dq_96 dp_cL_law rfl
theorem dL_law_1285 : decode cL_law 1285 = .ok (.iaload, 1) := dq_46 dp_cL_law rfl
theorem dL_law_1286 : decode cL_law 1286 = .ok (.aload_n 0, 1) := dq_42 dp_cL_law rfl
theorem dL_law_1287 : decode cL_law 1287 = .ok (.iload_n 3, 1) := dq_29 dp_cL_law rfl
theorem dL_law_1288 : decode cL_law 1288 = .ok (.iconst 3, 1) := dq_6 dp_cL_law rfl
theorem dL_law_1289 : decode cL_law 1289 = .ok (.iadd, 1) := dq_96 dp_cL_law rfl
theorem dL_law_1290 : decode cL_law 1290 = .ok (.iaload, 1) := dq_46 dp_cL_law rfl
theorem dL_law_1291 : decode cL_law 1291 = .ok (.invokevirtual 158, 3) := dq_182 dp_cL_law rfl
theorem dL_law_1294 : decode cL_law 1294 = .ok (.pop, 1) := dq_87 dp_cL_law rfl
theorem dL_law_1295 : decode cL_law 1295 = .ok (.goto 75, 3) := dq_167 (v := 75) dp_cL_law rfl rfl
theorem dL_law_1298 : decode cL_law 1298 = .ok (.aload_n 1, 1) := dq_43 dp_cL_law rfl
theorem dL_law_1299 : decode cL_law 1299 = .ok (.aload_n 0, 1) := dq_42 dp_cL_law rfl
theorem dL_law_1300 : decode cL_law 1300 = .ok (.iload_n 3, 1) := dq_29 dp_cL_law rfl
theorem dL_law_1301 : decode cL_law 1301 = .ok (.iconst 1, 1) := dq_4 dp_cL_law rfl
theorem dL_law_1302 : decode cL_law 1302 = .ok (.iadd, 1) := dq_96 dp_cL_law rfl
theorem dL_law_1303 : decode cL_law 1303 = .ok (.iaload, 1) := dq_46 dp_cL_law rfl
theorem dL_law_1304 : decode cL_law 1304 = .ok (.invokevirtual 159, 3) := dq_182 dp_cL_law rfl
theorem dL_law_1307 : decode cL_law 1307 = .ok (.pop, 1) := dq_87 dp_cL_law rfl
theorem dL_law_1308 : decode cL_law 1308 = .ok (.aload_n 2, 1) := dq_44 dp_cL_law rfl
theorem dL_law_1309 : decode cL_law 1309 = .ok (.aload_n 0, 1) := dq_42 dp_cL_law rfl
theorem dL_law_1310 : decode cL_law 1310 = .ok (.iload_n 3, 1) := dq_29 dp_cL_law rfl
theorem dL_law_1311 : decode cL_law 1311 = .ok (.iconst 1, 1) := dq_4 dp_cL_law rfl
theorem dL_law_1312 : decode cL_law 1312 = .ok (.iadd, 1) := dq_96 dp_cL_law rfl
theorem dL_law_1313 : decode cL_law 1313 = .ok (.iaload, 1) := dq_46 dp_cL_law rfl
theorem dL_law_1314 : decode cL_law 1314 = .ok (.invokevirtual 162, 3) := dq_182 dp_cL_law rfl
theorem dL_law_1317 : decode cL_law 1317 = .ok (.pop, 1) := dq_87 dp_cL_law rfl
theorem dL_law_1318 : decode cL_law 1318 = .ok (.goto 52, 3) := dq_167 (v := 52) dp_cL_law rfl rfl
theorem dL_law_1321 : decode cL_law 1321 = .ok (.aload_n 1, 1) := dq_43 dp_cL_law rfl
theorem dL_law_1322 : decode cL_law 1322 = .ok (.invokevirtual 163, 3) := dq_182 dp_cL_law rfl
theorem dL_law_1325 : decode cL_law 1325 = .ok (.pop, 1) := dq_87 dp_cL_law rfl
theorem dL_law_1326 : decode cL_law 1326 = .ok (.aload_n 2, 1) := dq_44 dp_cL_law rfl
theorem dL_law_1327 : decode cL_law 1327 = .ok (.invokevirtual 166, 3) := dq_182 dp_cL_law rfl
theorem dL_law_1330 : decode cL_law 1330 = .ok (.pop, 1) := dq_87 dp_cL_law rfl
theorem dL_law_1331 : decode cL_law 1331 = .ok (.goto 39, 3) := dq_167 (v := 39) dp_cL_law rfl rfl
theorem dL_law_1334 : decode cL_law 1334 = .ok (.aload_n 1, 1) := dq_43 dp_cL_law rfl
theorem dL_law_1335 : decode cL_law 1335 = .ok (.invokevirtual 167, 3) := dq_182 dp_cL_law rfl
theorem dL_law_1338 : decode cL_law 1338 = .ok (.aload_n 2, 1) := dq_44 dp_cL_law rfl
theorem dL_law_1339 : decode cL_law 1339 = .ok (.invokevirtual 170, 3) := dq_182 dp_cL_law rfl
theorem dL_law_1342 : decode cL_law 1342 = .ok (.if_icmp .eq 28, 3) := dq_159 (v := 28) dp_cL_law rfl rfl
theorem dL_law_1345 : decode cL_law 1345 = .ok (.iconst 0, 1) := dq_3 dp_cL_law rfl
theorem dL_law_1347 : decode cL_law 1347 = .ok (.aload_n 1, 1) := dq_43 dp_cL_law rfl
theorem dL_law_1348 : decode cL_law 1348 = .ok (.aload_n 0, 1) := dq_42 dp_cL_law rfl
theorem dL_law_1349 : decode cL_law 1349 = .ok (.iload_n 3, 1) := dq_29 dp_cL_law rfl
theorem dL_law_1350 : decode cL_law 1350 = .ok (.iconst 1, 1) := dq_4 dp_cL_law rfl
theorem dL_law_1351 : decode cL_law 1351 = .ok (.iadd, 1) := dq_96 dp_cL_law rfl
theorem dL_law_1352 : decode cL_law 1352 = .ok (.iaload, 1) := dq_46 dp_cL_law rfl
theorem dL_law_1353 : decode cL_law 1353 = .ok (.invokevirtual 171, 3) := dq_182 dp_cL_law rfl
theorem dL_law_1356 : decode cL_law 1356 = .ok (.pop, 1) := dq_87 dp_cL_law rfl
theorem dL_law_1357 : decode cL_law 1357 = .ok (.aload_n 2, 1) := dq_44 dp_cL_law rfl
theorem dL_law_1358 : decode cL_law 1358 = .ok (.aload_n 0, 1) := dq_42 dp_cL_law rfl
theorem dL_law_1359 : decode cL_law 1359 = .ok (.iload_n 3, 1) := dq_29 dp_cL_law rfl
theorem dL_law_1360 : decode cL_law 1360 = .ok (.iconst 1, 1) := dq_4 dp_cL_law rfl
theorem dL_law_1361 : decode cL_law 1361 = .ok (.iadd, 1) := dq_96 dp_cL_law rfl
theorem dL_law_1362 : decode cL_law 1362 = .ok (.iaload, 1) := dq_46 dp_cL_law rfl
theorem dL_law_1363 : decode cL_law 1363 = .ok (.invokevirtual 174, 3) := dq_182 dp_cL_law rfl
theorem dL_law_1366 : decode cL_law 1366 = .ok (.pop, 1) := dq_87 dp_cL_law rfl
theorem dL_law_1367 : decode cL_law 1367 = .ok (.goto 3, 3) := dq_167 (v := 3) dp_cL_law rfl rfl
theorem dL_law_1370 : decode cL_law 1370 = .ok (.iinc 3 6, 3) := dq_132 (v := 6) dp_cL_law rfl (by decide) rfl
theorem dL_law_1373 : decode cL_law 1373 = .ok (.goto (-1355), 3) := dq_167 (v := 64181) dp_cL_law rfl rfl
theorem dL_law_1376 : decode cL_law 1376 = .ok (.iconst 1, 1) := dq_4 dp_cL_law rfl
theorem dL_law_1377 : decode cL_law 1377 = .ok (.ireturn, 1) := dq_172 dp_cL_law rfl
end

theorem zc_yX7_init : Cond.code yX7_init cX7_init 1 none ∈ zj_tbl := List.mem_filter.mpr ⟨List.mem_of_getElem? (i := 79) (by decide +kernel), by decide +kernel⟩
theorem zi_RX7 : Cond.initialized RX7 ∈ zj_tbl := List.mem_filter.mpr ⟨List.mem_of_getElem? (i := 54) (by decide +kernel), by decide +kernel⟩
theorem zw_yX7_init : zj_mw yX7_init cX7_init 1 none 0 := ⟨zc_yX7_init, zi_RX7, by decide +kernel, rfl⟩
theorem zc_yX5_init : Cond.code yX5_init cX5_init 1 none ∈ zj_tbl := List.mem_filter.mpr ⟨List.mem_of_getElem? (i := 87) (by decide +kernel), by decide +kernel⟩
theorem zi_RX5 : Cond.initialized RX5 ∈ zj_tbl := List.mem_filter.mpr ⟨List.mem_of_getElem? (i := 55) (by decide +kernel), by decide +kernel⟩
theorem zw_yX5_init : zj_mw yX5_init cX5_init 1 none 0 := ⟨zc_yX5_init, zi_RX5, by decide +kernel, rfl⟩
theorem zc_yX4_init : Cond.code yX4_init cX4_init 2 none ∈ zj_tbl := List.mem_filter.mpr ⟨List.mem_of_getElem? (i := 104) (by decide +kernel), by decide +kernel⟩
theorem zi_RX4 : Cond.initialized RX4 ∈ zj_tbl := List.mem_filter.mpr ⟨List.mem_of_getElem? (i := 56) (by decide +kernel), by decide +kernel⟩
theorem zw_yX4_init : zj_mw yX4_init cX4_init 2 none 1 := ⟨zc_yX4_init, zi_RX4, by decide +kernel, rfl⟩
theorem zc_yX6_init : Cond.code yX6_init cX6_init 1 none ∈ zj_tbl := List.mem_filter.mpr ⟨List.mem_of_getElem? (i := 110) (by decide +kernel), by decide +kernel⟩
theorem zi_RX6 : Cond.initialized RX6 ∈ zj_tbl := List.mem_filter.mpr ⟨List.mem_of_getElem? (i := 57) (by decide +kernel), by decide +kernel⟩
theorem zw_yX6_init : zj_mw yX6_init cX6_init 1 none 0 := ⟨zc_yX6_init, zi_RX6, by decide +kernel, rfl⟩
theorem zc_yX0_init : Cond.code yX0_init cX0_init 2 none ∈ zj_tbl := List.mem_filter.mpr ⟨List.mem_of_getElem? (i := 213) (by decide +kernel), by decide +kernel⟩
theorem zi_RX0 : Cond.initialized RX0 ∈ zj_tbl := List.mem_filter.mpr ⟨List.mem_of_getElem? (i := 58) (by decide +kernel), by decide +kernel⟩
theorem zw_yX0_init : zj_mw yX0_init cX0_init 2 none 1 := ⟨zc_yX0_init, zi_RX0, by decide +kernel, rfl⟩
theorem zc_yX1_init : Cond.code yX1_init cX1_init 1 none ∈ zj_tbl := List.mem_filter.mpr ⟨List.mem_of_getElem? (i := 219) (by decide +kernel), by decide +kernel⟩
theorem zi_RX1 : Cond.initialized RX1 ∈ zj_tbl := List.mem_filter.mpr ⟨List.mem_of_getElem? (i := 59) (by decide +kernel), by decide +kernel⟩
theorem zw_yX1_init : zj_mw yX1_init cX1_init 1 none 0 := ⟨zc_yX1_init, zi_RX1, by decide +kernel, rfl⟩
theorem zc_yX2_init : Cond.code yX2_init cX2_init 1 none ∈ zj_tbl := List.mem_filter.mpr ⟨List.mem_of_getElem? (i := 251) (by decide +kernel), by decide +kernel⟩
theorem zi_RX2 : Cond.initialized RX2 ∈ zj_tbl := List.mem_filter.mpr ⟨List.mem_of_getElem? (i := 60) (by decide +kernel), by decide +kernel⟩
theorem zw_yX2_init : zj_mw yX2_init cX2_init 1 none 0 := ⟨zc_yX2_init, zi_RX2, by decide +kernel, rfl⟩
theorem zc_yX3_init : Cond.code yX3_init cX3_init 2 none ∈ zj_tbl := List.mem_filter.mpr ⟨List.mem_of_getElem? (i := 317) (by decide +kernel), by decide +kernel⟩
theorem zi_RX3 : Cond.initialized RX3 ∈ zj_tbl := List.mem_filter.mpr ⟨List.mem_of_getElem? (i := 61) (by decide +kernel), by decide +kernel⟩
theorem zw_yX3_init : zj_mw yX3_init cX3_init 2 none 0 := ⟨zc_yX3_init, zi_RX3, by decide +kernel, rfl⟩
theorem zc_yX7_feed : Cond.code yX7_feed cX7_feed 6 (some .int) ∈ zj_tbl := List.mem_filter.mpr ⟨List.mem_of_getElem? (i := 358) (by decide +kernel), by decide +kernel⟩
theorem zw_yX7_feed : zj_mw yX7_feed cX7_feed 6 (some .int) 5 := ⟨zc_yX7_feed, zi_RX7, by decide +kernel, rfl⟩
theorem zc_yX5_put : Cond.code yX5_put cX5_put 3 none ∈ zj_tbl := List.mem_filter.mpr ⟨List.mem_of_getElem? (i := 362) (by decide +kernel), by decide +kernel⟩
theorem zw_yX5_put : zj_mw yX5_put cX5_put 3 none 1 := ⟨zc_yX5_put, zi_RX5, by decide +kernel, rfl⟩
theorem zc_yX7_end : Cond.code yX7_end cX7_end 2 (some .boolean) ∈ zj_tbl := List.mem_filter.mpr ⟨List.mem_of_getElem? (i := 366) (by decide +kernel), by decide +kernel⟩
theorem zw_yX7_end : zj_mw yX7_end cX7_end 2 (some .boolean) 1 := ⟨zc_yX7_end, zi_RX7, by decide +kernel, rfl⟩
theorem zc_yX7_text : Cond.code yX7_text cX7_text 2 (some .int) ∈ zj_tbl := List.mem_filter.mpr ⟨List.mem_of_getElem? (i := 370) (by decide +kernel), by decide +kernel⟩
theorem zw_yX7_text : zj_mw yX7_text cX7_text 2 (some .int) 0 := ⟨zc_yX7_text, zi_RX7, by decide +kernel, rfl⟩
theorem zc_yX4_read : Cond.code yX4_read cX4_read 2 (some .boolean) ∈ zj_tbl := List.mem_filter.mpr ⟨List.mem_of_getElem? (i := 374) (by decide +kernel), by decide +kernel⟩
theorem zw_yX4_read : zj_mw yX4_read cX4_read 2 (some .boolean) 0 := ⟨zc_yX4_read, zi_RX4, by decide +kernel, rfl⟩
theorem zc_yX6_clear : Cond.code yX6_clear cX6_clear 1 none ∈ zj_tbl := List.mem_filter.mpr ⟨List.mem_of_getElem? (i := 378) (by decide +kernel), by decide +kernel⟩
theorem zw_yX6_clear : zj_mw yX6_clear cX6_clear 1 none 0 := ⟨zc_yX6_clear, zi_RX6, by decide +kernel, rfl⟩
theorem zc_yX4_step : Cond.code yX4_step cX4_step 3 none ∈ zj_tbl := List.mem_filter.mpr ⟨List.mem_of_getElem? (i := 382) (by decide +kernel), by decide +kernel⟩
theorem zw_yX4_step : zj_mw yX4_step cX4_step 3 none 0 := ⟨zc_yX4_step, zi_RX4, by decide +kernel, rfl⟩
theorem zc_yX4_isBlank : Cond.code yX4_isBlank cX4_isBlank 1 (some .boolean) ∈ zj_tbl := List.mem_filter.mpr ⟨List.mem_of_getElem? (i := 385) (by decide +kernel), by decide +kernel⟩
theorem zw_yX4_isBlank : zj_mw yX4_isBlank cX4_isBlank 1 (some .boolean) 1 := ⟨zc_yX4_isBlank, zi_RX4, by decide +kernel, rfl⟩
theorem zc_yJ9_min_7cf53 : Cond.code yJ9_min_7cf53 cJ9_min_7cf53 2 (some .int) ∈ zj_tbl := List.mem_filter.mpr ⟨List.mem_of_getElem? (i := 388) (by decide +kernel), by decide +kernel⟩
theorem zi_RJ9 : Cond.initialized RJ9 ∈ zj_tbl := List.mem_filter.mpr ⟨List.mem_of_getElem? (i := 63) (by decide +kernel), by decide +kernel⟩
theorem zw_yJ9_min_7cf53 : zj_mw yJ9_min_7cf53 cJ9_min_7cf53 2 (some .int) 2 := ⟨zc_yJ9_min_7cf53, zi_RJ9, by decide +kernel, rfl⟩
theorem zc_yX4_isSmallOrDigit : Cond.code yX4_isSmallOrDigit cX4_isSmallOrDigit 1 (some .boolean) ∈ zj_tbl := List.mem_filter.mpr ⟨List.mem_of_getElem? (i := 391) (by decide +kernel), by decide +kernel⟩
theorem zw_yX4_isSmallOrDigit : zj_mw yX4_isSmallOrDigit cX4_isSmallOrDigit 1 (some .boolean) 1 := ⟨zc_yX4_isSmallOrDigit, zi_RX4, by decide +kernel, rfl⟩
theorem zc_yX4_readLine : Cond.code yX4_readLine cX4_readLine 1 none ∈ zj_tbl := List.mem_filter.mpr ⟨List.mem_of_getElem? (i := 395) (by decide +kernel), by decide +kernel⟩
theorem zw_yX4_readLine : zj_mw yX4_readLine cX4_readLine 1 none 0 := ⟨zc_yX4_readLine, zi_RX4, by decide +kernel, rfl⟩
theorem zc_yX4_readCourt : Cond.code yX4_readCourt cX4_readCourt 1 none ∈ zj_tbl := List.mem_filter.mpr ⟨List.mem_of_getElem? (i := 399) (by decide +kernel), by decide +kernel⟩
theorem zw_yX4_readCourt : zj_mw yX4_readCourt cX4_readCourt 1 none 0 := ⟨zc_yX4_readCourt, zi_RX4, by decide +kernel, rfl⟩
theorem zc_yX4_isWord : Cond.code yX4_isWord cX4_isWord 3 (some .boolean) ∈ zj_tbl := List.mem_filter.mpr ⟨List.mem_of_getElem? (i := 404) (by decide +kernel), by decide +kernel⟩
theorem zw_yX4_isWord : zj_mw yX4_isWord cX4_isWord 3 (some .boolean) 1 := ⟨zc_yX4_isWord, zi_RX4, by decide +kernel, rfl⟩
theorem zc_yJ0_length_8abf5 : Cond.code yJ0_length_8abf5 cJ0_length_8abf5 1 (some .int) ∈ zj_tbl := List.mem_filter.mpr ⟨List.mem_of_getElem? (i := 408) (by decide +kernel), by decide +kernel⟩
theorem zi_RJ0 : Cond.initialized RJ0 ∈ zj_tbl := List.mem_filter.mpr ⟨List.mem_of_getElem? (i := 64) (by decide +kernel), by decide +kernel⟩
theorem zw_yJ0_length_8abf5 : zj_mw yJ0_length_8abf5 cJ0_length_8abf5 1 (some .int) 0 := ⟨zc_yJ0_length_8abf5, zi_RJ0, by decide +kernel, rfl⟩
theorem zc_yJ0_coder_7d493 : Cond.code yJ0_coder_7d493 cJ0_coder_7d493 1 (some .byte) ∈ zj_tbl := List.mem_filter.mpr ⟨List.mem_of_getElem? (i := 412) (by decide +kernel), by decide +kernel⟩
theorem zw_yJ0_coder_7d493 : zj_mw yJ0_coder_7d493 cJ0_coder_7d493 1 (some .byte) 0 := ⟨zc_yJ0_coder_7d493, zi_RJ0, by decide +kernel, rfl⟩
theorem zc_yJ0_charAt_5068e : Cond.code yJ0_charAt_5068e cJ0_charAt_5068e 2 (some .char) ∈ zj_tbl := List.mem_filter.mpr ⟨List.mem_of_getElem? (i := 418) (by decide +kernel), by decide +kernel⟩
theorem zw_yJ0_charAt_5068e : zj_mw yJ0_charAt_5068e cJ0_charAt_5068e 2 (some .char) 1 := ⟨zc_yJ0_charAt_5068e, zi_RJ0, by decide +kernel, rfl⟩
theorem zc_yJ0_isLatin1_aae02 : Cond.code yJ0_isLatin1_aae02 cJ0_isLatin1_aae02 1 (some .boolean) ∈ zj_tbl := List.mem_filter.mpr ⟨List.mem_of_getElem? (i := 422) (by decide +kernel), by decide +kernel⟩
theorem zw_yJ0_isLatin1_aae02 : zj_mw yJ0_isLatin1_aae02 cJ0_isLatin1_aae02 1 (some .boolean) 0 := ⟨zc_yJ0_isLatin1_aae02, zi_RJ0, by decide +kernel, rfl⟩
theorem zc_yJ1_charAt_3b067 : Cond.code yJ1_charAt_3b067 cJ1_charAt_3b067 2 (some .char) ∈ zj_tbl := List.mem_filter.mpr ⟨List.mem_of_getElem? (i := 425) (by decide +kernel), by decide +kernel⟩
theorem zi_RJ1 : Cond.initialized RJ1 ∈ zj_tbl := List.mem_filter.mpr ⟨List.mem_of_getElem? (i := 65) (by decide +kernel), by decide +kernel⟩
theorem zw_yJ1_charAt_3b067 : zj_mw yJ1_charAt_3b067 cJ1_charAt_3b067 2 (some .char) 2 := ⟨zc_yJ1_charAt_3b067, zi_RJ1, by decide +kernel, rfl⟩
theorem zc_yJ0_checkIndex_df160 : Cond.code yJ0_checkIndex_df160 cJ0_checkIndex_df160 2 none ∈ zj_tbl := List.mem_filter.mpr ⟨List.mem_of_getElem? (i := 428) (by decide +kernel), by decide +kernel⟩
theorem zw_yJ0_checkIndex_df160 : zj_mw yJ0_checkIndex_df160 cJ0_checkIndex_df160 2 none 2 := ⟨zc_yJ0_checkIndex_df160, zi_RJ0, by decide +kernel, rfl⟩
theorem zc_yJ3_checkIndex_8e157 : Cond.code yJ3_checkIndex_8e157 cJ3_checkIndex_8e157 3 (some .int) ∈ zj_tbl := List.mem_filter.mpr ⟨List.mem_of_getElem? (i := 433) (by decide +kernel), by decide +kernel⟩
theorem zi_RJ3 : Cond.initialized RJ3 ∈ zj_tbl := List.mem_filter.mpr ⟨List.mem_of_getElem? (i := 66) (by decide +kernel), by decide +kernel⟩
theorem zw_yJ3_checkIndex_8e157 : zj_mw yJ3_checkIndex_8e157 cJ3_checkIndex_8e157 3 (some .int) 3 := ⟨zc_yJ3_checkIndex_8e157, zi_RJ3, by decide +kernel, rfl⟩
theorem zc_yJ2_charAt_3b067 : Cond.code yJ2_charAt_3b067 cJ2_charAt_3b067 2 (some .char) ∈ zj_tbl := List.mem_filter.mpr ⟨List.mem_of_getElem? (i := 436) (by decide +kernel), by decide +kernel⟩
theorem zi_RJ2 : Cond.initialized RJ2 ∈ zj_tbl := List.mem_filter.mpr ⟨List.mem_of_getElem? (i := 67) (by decide +kernel), by decide +kernel⟩
theorem zw_yJ2_charAt_3b067 : zj_mw yJ2_charAt_3b067 cJ2_charAt_3b067 2 (some .char) 2 := ⟨zc_yJ2_charAt_3b067, zi_RJ2, by decide +kernel, rfl⟩
theorem zc_yJ2_checkIndex_2214a : Cond.code yJ2_checkIndex_2214a cJ2_checkIndex_2214a 2 none ∈ zj_tbl := List.mem_filter.mpr ⟨List.mem_of_getElem? (i := 439) (by decide +kernel), by decide +kernel⟩
theorem zw_yJ2_checkIndex_2214a : zj_mw yJ2_checkIndex_2214a cJ2_checkIndex_2214a 2 none 2 := ⟨zc_yJ2_checkIndex_2214a, zi_RJ2, by decide +kernel, rfl⟩
theorem zc_yJ2_length_9d52b : Cond.code yJ2_length_9d52b cJ2_length_9d52b 1 (some .int) ∈ zj_tbl := List.mem_filter.mpr ⟨List.mem_of_getElem? (i := 442) (by decide +kernel), by decide +kernel⟩
theorem zw_yJ2_length_9d52b : zj_mw yJ2_length_9d52b cJ2_length_9d52b 1 (some .int) 1 := ⟨zc_yJ2_length_9d52b, zi_RJ2, by decide +kernel, rfl⟩
theorem zc_yJ2_getChar_3b067 : Cond.code yJ2_getChar_3b067 cJ2_getChar_3b067 2 (some .char) ∈ zj_tbl := List.mem_filter.mpr ⟨List.mem_of_getElem? (i := 446) (by decide +kernel), by decide +kernel⟩
theorem zw_yJ2_getChar_3b067 : zj_mw yJ2_getChar_3b067 cJ2_getChar_3b067 2 (some .char) 2 := ⟨zc_yJ2_getChar_3b067, zi_RJ2, by decide +kernel, rfl⟩
theorem zc_yX4_takeNumber : Cond.code yX4_takeNumber cX4_takeNumber 4 (some .int) ∈ zj_tbl := List.mem_filter.mpr ⟨List.mem_of_getElem? (i := 456) (by decide +kernel), by decide +kernel⟩
theorem zw_yX4_takeNumber : zj_mw yX4_takeNumber cX4_takeNumber 4 (some .int) 2 := ⟨zc_yX4_takeNumber, zi_RX4, by decide +kernel, rfl⟩
theorem zc_yX4_readJudge : Cond.code yX4_readJudge cX4_readJudge 1 none ∈ zj_tbl := List.mem_filter.mpr ⟨List.mem_of_getElem? (i := 461) (by decide +kernel), by decide +kernel⟩
theorem zw_yX4_readJudge : zj_mw yX4_readJudge cX4_readJudge 1 none 0 := ⟨zc_yX4_readJudge, zi_RX4, by decide +kernel, rfl⟩
theorem zc_yX4_readSenior : Cond.code yX4_readSenior cX4_readSenior 1 none ∈ zj_tbl := List.mem_filter.mpr ⟨List.mem_of_getElem? (i := 466) (by decide +kernel), by decide +kernel⟩
theorem zw_yX4_readSenior : zj_mw yX4_readSenior cX4_readSenior 1 none 0 := ⟨zc_yX4_readSenior, zi_RX4, by decide +kernel, rfl⟩
theorem zc_yX4_readCase : Cond.code yX4_readCase cX4_readCase 2 none ∈ zj_tbl := List.mem_filter.mpr ⟨List.mem_of_getElem? (i := 471) (by decide +kernel), by decide +kernel⟩
theorem zw_yX4_readCase : zj_mw yX4_readCase cX4_readCase 2 none 0 := ⟨zc_yX4_readCase, zi_RX4, by decide +kernel, rfl⟩
theorem zc_yX4_takeBarred : Cond.code yX4_takeBarred cX4_takeBarred 3 (some .int) ∈ zj_tbl := List.mem_filter.mpr ⟨List.mem_of_getElem? (i := 476) (by decide +kernel), by decide +kernel⟩
theorem zw_yX4_takeBarred : zj_mw yX4_takeBarred cX4_takeBarred 3 (some .int) 0 := ⟨zc_yX4_takeBarred, zi_RX4, by decide +kernel, rfl⟩
theorem zc_yX6_hasJudge : Cond.code yX6_hasJudge cX6_hasJudge 2 (some .boolean) ∈ zj_tbl := List.mem_filter.mpr ⟨List.mem_of_getElem? (i := 480) (by decide +kernel), by decide +kernel⟩
theorem zw_yX6_hasJudge : zj_mw yX6_hasJudge cX6_hasJudge 2 (some .boolean) 1 := ⟨zc_yX6_hasJudge, zi_RX6, by decide +kernel, rfl⟩
theorem zc_yX7_has : Cond.code yX7_has cX7_has 2 (some .boolean) ∈ zj_tbl := List.mem_filter.mpr ⟨List.mem_of_getElem? (i := 483) (by decide +kernel), by decide +kernel⟩
theorem zw_yX7_has : zj_mw yX7_has cX7_has 2 (some .boolean) 2 := ⟨zc_yX7_has, zi_RX7, by decide +kernel, rfl⟩
theorem zc_yX4_takeSign : Cond.code yX4_takeSign cX4_takeSign 1 none ∈ zj_tbl := List.mem_filter.mpr ⟨List.mem_of_getElem? (i := 487) (by decide +kernel), by decide +kernel⟩
theorem zw_yX4_takeSign : zj_mw yX4_takeSign cX4_takeSign 1 none 0 := ⟨zc_yX4_takeSign, zi_RX4, by decide +kernel, rfl⟩
theorem zc_yX6_become : Cond.code yX6_become cX6_become 2 none ∈ zj_tbl := List.mem_filter.mpr ⟨List.mem_of_getElem? (i := 491) (by decide +kernel), by decide +kernel⟩
theorem zw_yX6_become : zj_mw yX6_become cX6_become 2 none 1 := ⟨zc_yX6_become, zi_RX6, by decide +kernel, rfl⟩
theorem zc_yX6_markSeniors : Cond.code yX6_markSeniors cX6_markSeniors 2 none ∈ zj_tbl := List.mem_filter.mpr ⟨List.mem_of_getElem? (i := 498) (by decide +kernel), by decide +kernel⟩
theorem zw_yX6_markSeniors : zj_mw yX6_markSeniors cX6_markSeniors 2 none 0 := ⟨zc_yX6_markSeniors, zi_RX6, by decide +kernel, rfl⟩
theorem zc_yX0_begin : Cond.code yX0_begin cX0_begin 1 none ∈ zj_tbl := List.mem_filter.mpr ⟨List.mem_of_getElem? (i := 502) (by decide +kernel), by decide +kernel⟩
theorem zw_yX0_begin : zj_mw yX0_begin cX0_begin 1 none 0 := ⟨zc_yX0_begin, zi_RX0, by decide +kernel, rfl⟩
theorem zc_yX1_begin : Cond.code yX1_begin cX1_begin 2 none ∈ zj_tbl := List.mem_filter.mpr ⟨List.mem_of_getElem? (i := 506) (by decide +kernel), by decide +kernel⟩
theorem zw_yX1_begin : zj_mw yX1_begin cX1_begin 2 none 1 := ⟨zc_yX1_begin, zi_RX1, by decide +kernel, rfl⟩
theorem zc_yJ7_fill_53178 : Cond.code yJ7_fill_53178 cJ7_fill_53178 4 none ∈ zj_tbl := List.mem_filter.mpr ⟨List.mem_of_getElem? (i := 509) (by decide +kernel), by decide +kernel⟩
theorem zi_RJ7 : Cond.initialized RJ7 ∈ zj_tbl := List.mem_filter.mpr ⟨List.mem_of_getElem? (i := 69) (by decide +kernel), by decide +kernel⟩
theorem zw_yJ7_fill_53178 : zj_mw yJ7_fill_53178 cJ7_fill_53178 4 none 2 := ⟨zc_yJ7_fill_53178, zi_RJ7, by decide +kernel, rfl⟩
theorem zc_yX3_forget : Cond.code yX3_forget cX3_forget 1 none ∈ zj_tbl := List.mem_filter.mpr ⟨List.mem_of_getElem? (i := 514) (by decide +kernel), by decide +kernel⟩
theorem zw_yX3_forget : zj_mw yX3_forget cX3_forget 1 none 0 := ⟨zc_yX3_forget, zi_RX3, by decide +kernel, rfl⟩
theorem zc_yX0_drawEveryOpen : Cond.code yX0_drawEveryOpen cX0_drawEveryOpen 3 (some .int) ∈ zj_tbl := List.mem_filter.mpr ⟨List.mem_of_getElem? (i := 518) (by decide +kernel), by decide +kernel⟩
theorem zw_yX0_drawEveryOpen : zj_mw yX0_drawEveryOpen cX0_drawEveryOpen 3 (some .int) 0 := ⟨zc_yX0_drawEveryOpen, zi_RX0, by decide +kernel, rfl⟩
theorem zc_yX0_drawOne : Cond.code yX0_drawOne cX0_drawOne 3 (some .int) ∈ zj_tbl := List.mem_filter.mpr ⟨List.mem_of_getElem? (i := 522) (by decide +kernel), by decide +kernel⟩
theorem zw_yX0_drawOne : zj_mw yX0_drawOne cX0_drawOne 3 (some .int) 1 := ⟨zc_yX0_drawOne, zi_RX0, by decide +kernel, rfl⟩
theorem zc_yX0_gatherPool : Cond.code yX0_gatherPool cX0_gatherPool 3 none ∈ zj_tbl := List.mem_filter.mpr ⟨List.mem_of_getElem? (i := 526) (by decide +kernel), by decide +kernel⟩
theorem zw_yX0_gatherPool : zj_mw yX0_gatherPool cX0_gatherPool 3 none 1 := ⟨zc_yX0_gatherPool, zi_RX0, by decide +kernel, rfl⟩
theorem zc_yX0_listLawful : Cond.code yX0_listLawful cX0_listLawful 4 none ∈ zj_tbl := List.mem_filter.mpr ⟨List.mem_of_getElem? (i := 530) (by decide +kernel), by decide +kernel⟩
theorem zw_yX0_listLawful : zj_mw yX0_listLawful cX0_listLawful 4 none 1 := ⟨zc_yX0_listLawful, zi_RX0, by decide +kernel, rfl⟩
theorem zc_yX0_listThirds : Cond.code yX0_listThirds cX0_listThirds 6 none ∈ zj_tbl := List.mem_filter.mpr ⟨List.mem_of_getElem? (i := 534) (by decide +kernel), by decide +kernel⟩
theorem zw_yX0_listThirds : zj_mw yX0_listThirds cX0_listThirds 6 none 3 := ⟨zc_yX0_listThirds, zi_RX0, by decide +kernel, rfl⟩
theorem zc_yX0_isLawful : Cond.code yX0_isLawful cX0_isLawful 3 (some .boolean) ∈ zj_tbl := List.mem_filter.mpr ⟨List.mem_of_getElem? (i := 538) (by decide +kernel), by decide +kernel⟩
theorem zw_yX0_isLawful : zj_mw yX0_isLawful cX0_isLawful 3 (some .boolean) 2 := ⟨zc_yX0_isLawful, zi_RX0, by decide +kernel, rfl⟩
theorem zc_yX0_countBenches : Cond.code yX0_countBenches cX0_countBenches 4 none ∈ zj_tbl := List.mem_filter.mpr ⟨List.mem_of_getElem? (i := 542) (by decide +kernel), by decide +kernel⟩
theorem zw_yX0_countBenches : zj_mw yX0_countBenches cX0_countBenches 4 none 1 := ⟨zc_yX0_countBenches, zi_RX0, by decide +kernel, rfl⟩
theorem zc_yX6_presiding : Cond.code yX6_presiding cX6_presiding 4 (some .int) ∈ zj_tbl := List.mem_filter.mpr ⟨List.mem_of_getElem? (i := 547) (by decide +kernel), by decide +kernel⟩
theorem zw_yX6_presiding : zj_mw yX6_presiding cX6_presiding 4 (some .int) 1 := ⟨zc_yX6_presiding, zi_RX6, by decide +kernel, rfl⟩
theorem zc_yX0_countBench : Cond.code yX0_countBench cX0_countBench 6 none ∈ zj_tbl := List.mem_filter.mpr ⟨List.mem_of_getElem? (i := 552) (by decide +kernel), by decide +kernel⟩
theorem zw_yX0_countBench : zj_mw yX0_countBench cX0_countBench 6 none 3 := ⟨zc_yX0_countBench, zi_RX0, by decide +kernel, rfl⟩
theorem zc_yX7_pairPlace : Cond.code yX7_pairPlace cX7_pairPlace 2 (some .int) ∈ zj_tbl := List.mem_filter.mpr ⟨List.mem_of_getElem? (i := 556) (by decide +kernel), by decide +kernel⟩
theorem zw_yX7_pairPlace : zj_mw yX7_pairPlace cX7_pairPlace 2 (some .int) 2 := ⟨zc_yX7_pairPlace, zi_RX7, by decide +kernel, rfl⟩
theorem zc_yX0_tensionOf : Cond.code yX0_tensionOf cX0_tensionOf 5 (some .int) ∈ zj_tbl := List.mem_filter.mpr ⟨List.mem_of_getElem? (i := 560) (by decide +kernel), by decide +kernel⟩
theorem zw_yX0_tensionOf : zj_mw yX0_tensionOf cX0_tensionOf 5 (some .int) 1 := ⟨zc_yX0_tensionOf, zi_RX0, by decide +kernel, rfl⟩
theorem zc_yX0_pairsBehind : Cond.code yX0_pairsBehind cX0_pairsBehind 5 (some .int) ∈ zj_tbl := List.mem_filter.mpr ⟨List.mem_of_getElem? (i := 564) (by decide +kernel), by decide +kernel⟩
theorem zw_yX0_pairsBehind : zj_mw yX0_pairsBehind cX0_pairsBehind 5 (some .int) 2 := ⟨zc_yX0_pairsBehind, zi_RX0, by decide +kernel, rfl⟩
theorem zc_yX0_leastTensionAbove : Cond.code yX0_leastTensionAbove cX0_leastTensionAbove 4 (some .int) ∈ zj_tbl := List.mem_filter.mpr ⟨List.mem_of_getElem? (i := 568) (by decide +kernel), by decide +kernel⟩
theorem zw_yX0_leastTensionAbove : zj_mw yX0_leastTensionAbove cX0_leastTensionAbove 4 (some .int) 1 := ⟨zc_yX0_leastTensionAbove, zi_RX0, by decide +kernel, rfl⟩
theorem zc_yX0_countListedAt : Cond.code yX0_countListedAt cX0_countListedAt 4 (some .int) ∈ zj_tbl := List.mem_filter.mpr ⟨List.mem_of_getElem? (i := 574) (by decide +kernel), by decide +kernel⟩
theorem zw_yX0_countListedAt : zj_mw yX0_countListedAt cX0_countListedAt 4 (some .int) 1 := ⟨zc_yX0_countListedAt, zi_RX0, by decide +kernel, rfl⟩
theorem zc_yX0_pooledAt : Cond.code yX0_pooledAt cX0_pooledAt 4 (some .int) ∈ zj_tbl := List.mem_filter.mpr ⟨List.mem_of_getElem? (i := 579) (by decide +kernel), by decide +kernel⟩
theorem zw_yX0_pooledAt : zj_mw yX0_pooledAt cX0_pooledAt 4 (some .int) 1 := ⟨zc_yX0_pooledAt, zi_RX0, by decide +kernel, rfl⟩
theorem zc_yX7_fault : Cond.code yX7_fault cX7_fault 1 (some .int) ∈ zj_tbl := List.mem_filter.mpr ⟨List.mem_of_getElem? (i := 583) (by decide +kernel), by decide +kernel⟩
theorem zw_yX7_fault : zj_mw yX7_fault cX7_fault 1 (some .int) 0 := ⟨zc_yX7_fault, zi_RX7, by decide +kernel, rfl⟩
theorem zc_yX7_now : Cond.code yX7_now cX7_now 2 (some .int) ∈ zj_tbl := List.mem_filter.mpr ⟨List.mem_of_getElem? (i := 587) (by decide +kernel), by decide +kernel⟩
theorem zw_yX7_now : zj_mw yX7_now cX7_now 2 (some .int) 1 := ⟨zc_yX7_now, zi_RX7, by decide +kernel, rfl⟩
theorem zc_yX0_casesAt : Cond.code yX0_casesAt cX0_casesAt 4 (some .int) ∈ zj_tbl := List.mem_filter.mpr ⟨List.mem_of_getElem? (i := 591) (by decide +kernel), by decide +kernel⟩
theorem zw_yX0_casesAt : zj_mw yX0_casesAt cX0_casesAt 4 (some .int) 1 := ⟨zc_yX0_casesAt, zi_RX0, by decide +kernel, rfl⟩
theorem zc_yX7_pair : Cond.code yX7_pair cX7_pair 3 (some .int) ∈ zj_tbl := List.mem_filter.mpr ⟨List.mem_of_getElem? (i := 595) (by decide +kernel), by decide +kernel⟩
theorem zw_yX7_pair : zj_mw yX7_pair cX7_pair 3 (some .int) 2 := ⟨zc_yX7_pair, zi_RX7, by decide +kernel, rfl⟩
theorem zc_yX7_spread : Cond.code yX7_spread cX7_spread 2 (some .int) ∈ zj_tbl := List.mem_filter.mpr ⟨List.mem_of_getElem? (i := 602) (by decide +kernel), by decide +kernel⟩
theorem zw_yX7_spread : zj_mw yX7_spread cX7_spread 2 (some .int) 1 := ⟨zc_yX7_spread, zi_RX7, by decide +kernel, rfl⟩
theorem zc_yX0_spreadOfPairs : Cond.code yX0_spreadOfPairs cX0_spreadOfPairs 6 (some .int) ∈ zj_tbl := List.mem_filter.mpr ⟨List.mem_of_getElem? (i := 606) (by decide +kernel), by decide +kernel⟩
theorem zw_yX0_spreadOfPairs : zj_mw yX0_spreadOfPairs cX0_spreadOfPairs 6 (some .int) 0 := ⟨zc_yX0_spreadOfPairs, zi_RX0, by decide +kernel, rfl⟩
theorem zc_yJ9_max_7cf53 : Cond.code yJ9_max_7cf53 cJ9_max_7cf53 2 (some .int) ∈ zj_tbl := List.mem_filter.mpr ⟨List.mem_of_getElem? (i := 609) (by decide +kernel), by decide +kernel⟩
theorem zw_yJ9_max_7cf53 : zj_mw yJ9_max_7cf53 cJ9_max_7cf53 2 (some .int) 2 := ⟨zc_yJ9_max_7cf53, zi_RJ9, by decide +kernel, rfl⟩
theorem zc_yX0_spreadOfLoads : Cond.code yX0_spreadOfLoads cX0_spreadOfLoads 4 (some .int) ∈ zj_tbl := List.mem_filter.mpr ⟨List.mem_of_getElem? (i := 613) (by decide +kernel), by decide +kernel⟩
theorem zw_yX0_spreadOfLoads : zj_mw yX0_spreadOfLoads cX0_spreadOfLoads 4 (some .int) 0 := ⟨zc_yX0_spreadOfLoads, zi_RX0, by decide +kernel, rfl⟩
theorem zc_yX7_lawful : Cond.code yX7_lawful cX7_lawful 2 (some .int) ∈ zj_tbl := List.mem_filter.mpr ⟨List.mem_of_getElem? (i := 617) (by decide +kernel), by decide +kernel⟩
theorem zw_yX7_lawful : zj_mw yX7_lawful cX7_lawful 2 (some .int) 1 := ⟨zc_yX7_lawful, zi_RX7, by decide +kernel, rfl⟩
theorem zc_yX6_hasCase : Cond.code yX6_hasCase cX6_hasCase 2 (some .boolean) ∈ zj_tbl := List.mem_filter.mpr ⟨List.mem_of_getElem? (i := 621) (by decide +kernel), by decide +kernel⟩
theorem zw_yX6_hasCase : zj_mw yX6_hasCase cX6_hasCase 2 (some .boolean) 1 := ⟨zc_yX6_hasCase, zi_RX6, by decide +kernel, rfl⟩
theorem zc_yX7_bench : Cond.code yX7_bench cX7_bench 3 (some .int) ∈ zj_tbl := List.mem_filter.mpr ⟨List.mem_of_getElem? (i := 626) (by decide +kernel), by decide +kernel⟩
theorem zw_yX7_bench : zj_mw yX7_bench cX7_bench 3 (some .int) 2 := ⟨zc_yX7_bench, zi_RX7, by decide +kernel, rfl⟩
theorem zc_yX7_rank : Cond.code yX7_rank cX7_rank 3 (some .int) ∈ zj_tbl := List.mem_filter.mpr ⟨List.mem_of_getElem? (i := 630) (by decide +kernel), by decide +kernel⟩
theorem zw_yX7_rank : zj_mw yX7_rank cX7_rank 3 (some .int) 2 := ⟨zc_yX7_rank, zi_RX7, by decide +kernel, rfl⟩
theorem zc_yX0_placeListed : Cond.code yX0_placeListed cX0_placeListed 3 (some .int) ∈ zj_tbl := List.mem_filter.mpr ⟨List.mem_of_getElem? (i := 634) (by decide +kernel), by decide +kernel⟩
theorem zw_yX0_placeListed : zj_mw yX0_placeListed cX0_placeListed 3 (some .int) 1 := ⟨zc_yX0_placeListed, zi_RX0, by decide +kernel, rfl⟩
theorem zc_yX7_tension : Cond.code yX7_tension cX7_tension 3 (some .int) ∈ zj_tbl := List.mem_filter.mpr ⟨List.mem_of_getElem? (i := 638) (by decide +kernel), by decide +kernel⟩
theorem zw_yX7_tension : zj_mw yX7_tension cX7_tension 3 (some .int) 2 := ⟨zc_yX7_tension, zi_RX7, by decide +kernel, rfl⟩
theorem zc_yX6_isBench : Cond.code yX6_isBench cX6_isBench 2 (some .boolean) ∈ zj_tbl := List.mem_filter.mpr ⟨List.mem_of_getElem? (i := 642) (by decide +kernel), by decide +kernel⟩
theorem zw_yX6_isBench : zj_mw yX6_isBench cX6_isBench 2 (some .boolean) 1 := ⟨zc_yX6_isBench, zi_RX6, by decide +kernel, rfl⟩
theorem zc_yJ6_bitCount_0f7a4 : Cond.code yJ6_bitCount_0f7a4 cJ6_bitCount_0f7a4 1 (some .int) ∈ zj_tbl := List.mem_filter.mpr ⟨List.mem_of_getElem? (i := 645) (by decide +kernel), by decide +kernel⟩
theorem zi_RJ6 : Cond.initialized RJ6 ∈ zj_tbl := List.mem_filter.mpr ⟨List.mem_of_getElem? (i := 74) (by decide +kernel), by decide +kernel⟩
theorem zw_yJ6_bitCount_0f7a4 : zj_mw yJ6_bitCount_0f7a4 cJ6_bitCount_0f7a4 1 (some .int) 1 := ⟨zc_yJ6_bitCount_0f7a4, zi_RJ6, by decide +kernel, rfl⟩
theorem zc_yX7_pool : Cond.code yX7_pool cX7_pool 2 (some .int) ∈ zj_tbl := List.mem_filter.mpr ⟨List.mem_of_getElem? (i := 653) (by decide +kernel), by decide +kernel⟩
theorem zw_yX7_pool : zj_mw yX7_pool cX7_pool 2 (some .int) 1 := ⟨zc_yX7_pool, zi_RX7, by decide +kernel, rfl⟩
theorem zc_yX7_chances : Cond.code yX7_chances cX7_chances 3 (some .int) ∈ zj_tbl := List.mem_filter.mpr ⟨List.mem_of_getElem? (i := 658) (by decide +kernel), by decide +kernel⟩
theorem zw_yX7_chances : zj_mw yX7_chances cX7_chances 3 (some .int) 2 := ⟨zc_yX7_chances, zi_RX7, by decide +kernel, rfl⟩
theorem zc_yX0_pooledWith : Cond.code yX0_pooledWith cX0_pooledWith 4 (some .int) ∈ zj_tbl := List.mem_filter.mpr ⟨List.mem_of_getElem? (i := 662) (by decide +kernel), by decide +kernel⟩
theorem zw_yX0_pooledWith : zj_mw yX0_pooledWith cX0_pooledWith 4 (some .int) 1 := ⟨zc_yX0_pooledWith, zi_RX0, by decide +kernel, rfl⟩
theorem zc_yX7_worst : Cond.code yX7_worst cX7_worst 2 (some .int) ∈ zj_tbl := List.mem_filter.mpr ⟨List.mem_of_getElem? (i := 666) (by decide +kernel), by decide +kernel⟩
theorem zw_yX7_worst : zj_mw yX7_worst cX7_worst 2 (some .int) 1 := ⟨zc_yX7_worst, zi_RX7, by decide +kernel, rfl⟩
theorem zc_yX7_draw : Cond.code yX7_draw cX7_draw 3 (some .int) ∈ zj_tbl := List.mem_filter.mpr ⟨List.mem_of_getElem? (i := 670) (by decide +kernel), by decide +kernel⟩
theorem zw_yX7_draw : zj_mw yX7_draw cX7_draw 3 (some .int) 1 := ⟨zc_yX7_draw, zi_RX7, by decide +kernel, rfl⟩
theorem zc_yX3_prepare : Cond.code yX3_prepare cX3_prepare 2 none ∈ zj_tbl := List.mem_filter.mpr ⟨List.mem_of_getElem? (i := 674) (by decide +kernel), by decide +kernel⟩
theorem zw_yX3_prepare : zj_mw yX3_prepare cX3_prepare 2 none 1 := ⟨zc_yX3_prepare, zi_RX3, by decide +kernel, rfl⟩
theorem zc_yX1_become : Cond.code yX1_become cX1_become 2 none ∈ zj_tbl := List.mem_filter.mpr ⟨List.mem_of_getElem? (i := 678) (by decide +kernel), by decide +kernel⟩
theorem zw_yX1_become : zj_mw yX1_become cX1_become 2 none 1 := ⟨zc_yX1_become, zi_RX1, by decide +kernel, rfl⟩
theorem zc_yX3_keepPrepared : Cond.code yX3_keepPrepared cX3_keepPrepared 1 none ∈ zj_tbl := List.mem_filter.mpr ⟨List.mem_of_getElem? (i := 683) (by decide +kernel), by decide +kernel⟩
theorem zw_yX3_keepPrepared : zj_mw yX3_keepPrepared cX3_keepPrepared 1 none 0 := ⟨zc_yX3_keepPrepared, zi_RX3, by decide +kernel, rfl⟩
theorem zc_yX7_drawAll : Cond.code yX7_drawAll cX7_drawAll 2 (some .int) ∈ zj_tbl := List.mem_filter.mpr ⟨List.mem_of_getElem? (i := 688) (by decide +kernel), by decide +kernel⟩
theorem zw_yX7_drawAll : zj_mw yX7_drawAll cX7_drawAll 2 (some .int) 0 := ⟨zc_yX7_drawAll, zi_RX7, by decide +kernel, rfl⟩
theorem zc_yX7_recuse : Cond.code yX7_recuse cX7_recuse 4 (some .int) ∈ zj_tbl := List.mem_filter.mpr ⟨List.mem_of_getElem? (i := 692) (by decide +kernel), by decide +kernel⟩
theorem zw_yX7_recuse : zj_mw yX7_recuse cX7_recuse 4 (some .int) 2 := ⟨zc_yX7_recuse, zi_RX7, by decide +kernel, rfl⟩
theorem zc_yX0_isSet : Cond.code yX0_isSet cX0_isSet 2 (some .boolean) ∈ zj_tbl := List.mem_filter.mpr ⟨List.mem_of_getElem? (i := 696) (by decide +kernel), by decide +kernel⟩
theorem zw_yX0_isSet : zj_mw yX0_isSet cX0_isSet 2 (some .boolean) 1 := ⟨zc_yX0_isSet, zi_RX0, by decide +kernel, rfl⟩
theorem zc_yX0_repair : Cond.code yX0_repair cX0_repair 9 (some .int) ∈ zj_tbl := List.mem_filter.mpr ⟨List.mem_of_getElem? (i := 702) (by decide +kernel), by decide +kernel⟩
theorem zw_yX0_repair : zj_mw yX0_repair cX0_repair 9 (some .int) 2 := ⟨zc_yX0_repair, zi_RX0, by decide +kernel, rfl⟩
theorem zc_yX7_leave : Cond.code yX7_leave cX7_leave 2 (some .int) ∈ zj_tbl := List.mem_filter.mpr ⟨List.mem_of_getElem? (i := 706) (by decide +kernel), by decide +kernel⟩
theorem zw_yX7_leave : zj_mw yX7_leave cX7_leave 2 (some .int) 1 := ⟨zc_yX7_leave, zi_RX7, by decide +kernel, rfl⟩
theorem zc_yX0_repairAllOf : Cond.code yX0_repairAllOf cX0_repairAllOf 4 (some .int) ∈ zj_tbl := List.mem_filter.mpr ⟨List.mem_of_getElem? (i := 710) (by decide +kernel), by decide +kernel⟩
theorem zw_yX0_repairAllOf : zj_mw yX0_repairAllOf cX0_repairAllOf 4 (some .int) 1 := ⟨zc_yX0_repairAllOf, zi_RX0, by decide +kernel, rfl⟩
theorem zc_yX7_come : Cond.code yX7_come cX7_come 2 (some .int) ∈ zj_tbl := List.mem_filter.mpr ⟨List.mem_of_getElem? (i := 715) (by decide +kernel), by decide +kernel⟩
theorem zw_yX7_come : zj_mw yX7_come cX7_come 2 (some .int) 1 := ⟨zc_yX7_come, zi_RX7, by decide +kernel, rfl⟩
theorem zc_yX7_hear : Cond.code yX7_hear cX7_hear 2 (some .int) ∈ zj_tbl := List.mem_filter.mpr ⟨List.mem_of_getElem? (i := 720) (by decide +kernel), by decide +kernel⟩
theorem zw_yX7_hear : zj_mw yX7_hear cX7_hear 2 (some .int) 1 := ⟨zc_yX7_hear, zi_RX7, by decide +kernel, rfl⟩
theorem zc_yX7_evenness : Cond.code yX7_evenness cX7_evenness 1 (some .int) ∈ zj_tbl := List.mem_filter.mpr ⟨List.mem_of_getElem? (i := 724) (by decide +kernel), by decide +kernel⟩
theorem zw_yX7_evenness : zj_mw yX7_evenness cX7_evenness 1 (some .int) 0 := ⟨zc_yX7_evenness, zi_RX7, by decide +kernel, rfl⟩
theorem zc_yX0_evennessCounted : Cond.code yX0_evennessCounted cX0_evennessCounted 5 (some .int) ∈ zj_tbl := List.mem_filter.mpr ⟨List.mem_of_getElem? (i := 728) (by decide +kernel), by decide +kernel⟩
theorem zw_yX0_evennessCounted : zj_mw yX0_evennessCounted cX0_evennessCounted 5 (some .int) 0 := ⟨zc_yX0_evennessCounted, zi_RX0, by decide +kernel, rfl⟩
theorem zc_yX7_better : Cond.code yX7_better cX7_better 2 (some .int) ∈ zj_tbl := List.mem_filter.mpr ⟨List.mem_of_getElem? (i := 732) (by decide +kernel), by decide +kernel⟩
theorem zw_yX7_better : zj_mw yX7_better cX7_better 2 (some .int) 1 := ⟨zc_yX7_better, zi_RX7, by decide +kernel, rfl⟩
theorem zc_yX0_findBetter : Cond.code yX0_findBetter cX0_findBetter 3 (some .boolean) ∈ zj_tbl := List.mem_filter.mpr ⟨List.mem_of_getElem? (i := 736) (by decide +kernel), by decide +kernel⟩
theorem zw_yX0_findBetter : zj_mw yX0_findBetter cX0_findBetter 3 (some .boolean) 0 := ⟨zc_yX0_findBetter, zi_RX0, by decide +kernel, rfl⟩
theorem zc_yX0_findBetterFor : Cond.code yX0_findBetterFor cX0_findBetterFor 6 (some .boolean) ∈ zj_tbl := List.mem_filter.mpr ⟨List.mem_of_getElem? (i := 740) (by decide +kernel), by decide +kernel⟩
theorem zw_yX0_findBetterFor : zj_mw yX0_findBetterFor cX0_findBetterFor 6 (some .boolean) 2 := ⟨zc_yX0_findBetterFor, zi_RX0, by decide +kernel, rfl⟩
theorem zc_yX0_mayExchange : Cond.code yX0_mayExchange cX0_mayExchange 7 (some .boolean) ∈ zj_tbl := List.mem_filter.mpr ⟨List.mem_of_getElem? (i := 744) (by decide +kernel), by decide +kernel⟩
theorem zw_yX0_mayExchange : zj_mw yX0_mayExchange cX0_mayExchange 7 (some .boolean) 4 := ⟨zc_yX0_mayExchange, zi_RX0, by decide +kernel, rfl⟩
theorem zc_yX0_swapped : Cond.code yX0_swapped cX0_swapped 3 (some .int) ∈ zj_tbl := List.mem_filter.mpr ⟨List.mem_of_getElem? (i := 749) (by decide +kernel), by decide +kernel⟩
theorem zw_yX0_swapped : zj_mw yX0_swapped cX0_swapped 3 (some .int) 3 := ⟨zc_yX0_swapped, zi_RX0, by decide +kernel, rfl⟩
theorem zc_yX0_gainOf : Cond.code yX0_gainOf cX0_gainOf 8 (some .int) ∈ zj_tbl := List.mem_filter.mpr ⟨List.mem_of_getElem? (i := 753) (by decide +kernel), by decide +kernel⟩
theorem zw_yX0_gainOf : zj_mw yX0_gainOf cX0_gainOf 8 (some .int) 4 := ⟨zc_yX0_gainOf, zi_RX0, by decide +kernel, rfl⟩
theorem zc_yX0_movePairs : Cond.code yX0_movePairs cX0_movePairs 8 (some .int) ∈ zj_tbl := List.mem_filter.mpr ⟨List.mem_of_getElem? (i := 757) (by decide +kernel), by decide +kernel⟩
theorem zw_yX0_movePairs : zj_mw yX0_movePairs cX0_movePairs 8 (some .int) 3 := ⟨zc_yX0_movePairs, zi_RX0, by decide +kernel, rfl⟩
theorem zc_yX0_keepFound : Cond.code yX0_keepFound cX0_keepFound 6 none ∈ zj_tbl := List.mem_filter.mpr ⟨List.mem_of_getElem? (i := 761) (by decide +kernel), by decide +kernel⟩
theorem zw_yX0_keepFound : zj_mw yX0_keepFound cX0_keepFound 6 none 5 := ⟨zc_yX0_keepFound, zi_RX0, by decide +kernel, rfl⟩
theorem zc_yX7_exchange : Cond.code yX7_exchange cX7_exchange 5 (some .int) ∈ zj_tbl := List.mem_filter.mpr ⟨List.mem_of_getElem? (i := 765) (by decide +kernel), by decide +kernel⟩
theorem zw_yX7_exchange : zj_mw yX7_exchange cX7_exchange 5 (some .int) 4 := ⟨zc_yX7_exchange, zi_RX7, by decide +kernel, rfl⟩
theorem zc_yX0_changePlaces : Cond.code yX0_changePlaces cX0_changePlaces 5 none ∈ zj_tbl := List.mem_filter.mpr ⟨List.mem_of_getElem? (i := 770) (by decide +kernel), by decide +kernel⟩
theorem zw_yX0_changePlaces : zj_mw yX0_changePlaces cX0_changePlaces 5 none 4 := ⟨zc_yX0_changePlaces, zi_RX0, by decide +kernel, rfl⟩
theorem zc_yX7_smooth : Cond.code yX7_smooth cX7_smooth 2 (some .int) ∈ zj_tbl := List.mem_filter.mpr ⟨List.mem_of_getElem? (i := 774) (by decide +kernel), by decide +kernel⟩
theorem zw_yX7_smooth : zj_mw yX7_smooth cX7_smooth 2 (some .int) 0 := ⟨zc_yX7_smooth, zi_RX7, by decide +kernel, rfl⟩
theorem zc_yX7_same : Cond.code yX7_same cX7_same 3 (some .int) ∈ zj_tbl := List.mem_filter.mpr ⟨List.mem_of_getElem? (i := 778) (by decide +kernel), by decide +kernel⟩
theorem zw_yX7_same : zj_mw yX7_same cX7_same 3 (some .int) 0 := ⟨zc_yX7_same, zi_RX7, by decide +kernel, rfl⟩
theorem zc_yX7_anew : Cond.code yX7_anew cX7_anew 2 (some .int) ∈ zj_tbl := List.mem_filter.mpr ⟨List.mem_of_getElem? (i := 782) (by decide +kernel), by decide +kernel⟩
theorem zw_yX7_anew : zj_mw yX7_anew cX7_anew 2 (some .int) 1 := ⟨zc_yX7_anew, zi_RX7, by decide +kernel, rfl⟩
theorem zc_yX7_undo : Cond.code yX7_undo cX7_undo 1 (some .int) ∈ zj_tbl := List.mem_filter.mpr ⟨List.mem_of_getElem? (i := 786) (by decide +kernel), by decide +kernel⟩
theorem zw_yX7_undo : zj_mw yX7_undo cX7_undo 1 (some .int) 0 := ⟨zc_yX7_undo, zi_RX7, by decide +kernel, rfl⟩
theorem zc_yX3_giveBack : Cond.code yX3_giveBack cX3_giveBack 2 none ∈ zj_tbl := List.mem_filter.mpr ⟨List.mem_of_getElem? (i := 790) (by decide +kernel), by decide +kernel⟩
theorem zw_yX3_giveBack : zj_mw yX3_giveBack cX3_giveBack 2 none 1 := ⟨zc_yX3_giveBack, zi_RX3, by decide +kernel, rfl⟩
theorem zc_yX7_judge : Cond.code yX7_judge cX7_judge 3 (some .int) ∈ zj_tbl := List.mem_filter.mpr ⟨List.mem_of_getElem? (i := 798) (by decide +kernel), by decide +kernel⟩
theorem zw_yX7_judge : zj_mw yX7_judge cX7_judge 3 (some .int) 2 := ⟨zc_yX7_judge, zi_RX7, by decide +kernel, rfl⟩
theorem zc_yX0_benchesOf : Cond.code yX0_benchesOf cX0_benchesOf 4 (some .int) ∈ zj_tbl := List.mem_filter.mpr ⟨List.mem_of_getElem? (i := 867) (by decide +kernel), by decide +kernel⟩
theorem zw_yX0_benchesOf : zj_mw yX0_benchesOf cX0_benchesOf 4 (some .int) 1 := ⟨zc_yX0_benchesOf, zi_RX0, by decide +kernel, rfl⟩
theorem zc_yX0_benchesLedBy : Cond.code yX0_benchesLedBy cX0_benchesLedBy 4 (some .int) ∈ zj_tbl := List.mem_filter.mpr ⟨List.mem_of_getElem? (i := 871) (by decide +kernel), by decide +kernel⟩
theorem zw_yX0_benchesLedBy : zj_mw yX0_benchesLedBy cX0_benchesLedBy 4 (some .int) 1 := ⟨zc_yX0_benchesLedBy, zi_RX0, by decide +kernel, rfl⟩
theorem zc_yX0_casesBarredTo : Cond.code yX0_casesBarredTo cX0_casesBarredTo 4 (some .int) ∈ zj_tbl := List.mem_filter.mpr ⟨List.mem_of_getElem? (i := 875) (by decide +kernel), by decide +kernel⟩
theorem zw_yX0_casesBarredTo : zj_mw yX0_casesBarredTo cX0_casesBarredTo 4 (some .int) 1 := ⟨zc_yX0_casesBarredTo, zi_RX0, by decide +kernel, rfl⟩
theorem zc_yX7_of : Cond.code yX7_of cX7_of 3 (some .int) ∈ zj_tbl := List.mem_filter.mpr ⟨List.mem_of_getElem? (i := 883) (by decide +kernel), by decide +kernel⟩
theorem zw_yX7_of : zj_mw yX7_of cX7_of 3 (some .int) 2 := ⟨zc_yX7_of, zi_RX7, by decide +kernel, rfl⟩
theorem zc_yX8_thrown : Cond.code yX8_thrown cX8_thrown 1 (some .int) ∈ zj_tbl := List.mem_filter.mpr ⟨List.mem_of_getElem? (i := 890) (by decide +kernel), by decide +kernel⟩
theorem zi_RX8 : Cond.initialized RX8 ∈ zj_tbl := List.mem_filter.mpr ⟨List.mem_of_getElem? (i := 62) (by decide +kernel), by decide +kernel⟩
theorem zw_yX8_thrown : zj_mw yX8_thrown cX8_thrown 1 (some .int) 0 := ⟨zc_yX8_thrown, zi_RX8, by decide +kernel, rfl⟩
theorem zc_yX8_feed : Cond.code yX8_feed cX8_feed 6 (some .int) ∈ zj_tbl := List.mem_filter.mpr ⟨List.mem_of_getElem? (i := 894) (by decide +kernel), by decide +kernel⟩
theorem zw_yX8_feed : zj_mw yX8_feed cX8_feed 6 (some .int) 5 := ⟨zc_yX8_feed, zi_RX8, by decide +kernel, rfl⟩
theorem zc_yX8_lays : Cond.code yX8_lays cX8_lays 3 none ∈ zj_tbl := List.mem_filter.mpr ⟨List.mem_of_getElem? (i := 899) (by decide +kernel), by decide +kernel⟩
theorem zw_yX8_lays : zj_mw yX8_lays cX8_lays 3 none 1 := ⟨zc_yX8_lays, zi_RX8, by decide +kernel, rfl⟩
theorem zc_yX8_end : Cond.code yX8_end cX8_end 2 (some .boolean) ∈ zj_tbl := List.mem_filter.mpr ⟨List.mem_of_getElem? (i := 903) (by decide +kernel), by decide +kernel⟩
theorem zw_yX8_end : zj_mw yX8_end cX8_end 2 (some .boolean) 1 := ⟨zc_yX8_end, zi_RX8, by decide +kernel, rfl⟩
theorem zc_yX8_init : Cond.code yX8_init cX8_init 1 none ∈ zj_tbl := List.mem_filter.mpr ⟨List.mem_of_getElem? (i := 907) (by decide +kernel), by decide +kernel⟩
theorem zw_yX8_init : zj_mw yX8_init cX8_init 1 none 0 := ⟨zc_yX8_init, zi_RX8, by decide +kernel, rfl⟩
theorem zc_yX8_text : Cond.code yX8_text cX8_text 3 (some .int) ∈ zj_tbl := List.mem_filter.mpr ⟨List.mem_of_getElem? (i := 997) (by decide +kernel), by decide +kernel⟩
theorem zw_yX8_text : zj_mw yX8_text cX8_text 3 (some .int) 0 := ⟨zc_yX8_text, zi_RX8, by decide +kernel, rfl⟩
theorem zc_yX8_go : Cond.code yX8_go cX8_go 5 none ∈ zj_tbl := List.mem_filter.mpr ⟨List.mem_of_getElem? (i := 1001) (by decide +kernel), by decide +kernel⟩
theorem zw_yX8_go : zj_mw yX8_go cX8_go 5 none 0 := ⟨zc_yX8_go, zi_RX8, by decide +kernel, rfl⟩
theorem zc_yX8_isLetter : Cond.code yX8_isLetter cX8_isLetter 1 (some .boolean) ∈ zj_tbl := List.mem_filter.mpr ⟨List.mem_of_getElem? (i := 1004) (by decide +kernel), by decide +kernel⟩
theorem zw_yX8_isLetter : zj_mw yX8_isLetter cX8_isLetter 1 (some .boolean) 1 := ⟨zc_yX8_isLetter, zi_RX8, by decide +kernel, rfl⟩
theorem zc_yX8_isDigit : Cond.code yX8_isDigit cX8_isDigit 1 (some .boolean) ∈ zj_tbl := List.mem_filter.mpr ⟨List.mem_of_getElem? (i := 1007) (by decide +kernel), by decide +kernel⟩
theorem zw_yX8_isDigit : zj_mw yX8_isDigit cX8_isDigit 1 (some .boolean) 1 := ⟨zc_yX8_isDigit, zi_RX8, by decide +kernel, rfl⟩
theorem zc_yX8_tapeAt : Cond.code yX8_tapeAt cX8_tapeAt 2 (some .int) ∈ zj_tbl := List.mem_filter.mpr ⟨List.mem_of_getElem? (i := 1011) (by decide +kernel), by decide +kernel⟩
theorem zw_yX8_tapeAt : zj_mw yX8_tapeAt cX8_tapeAt 2 (some .int) 1 := ⟨zc_yX8_tapeAt, zi_RX8, by decide +kernel, rfl⟩
theorem zc_yX8_readLine : Cond.code yX8_readLine cX8_readLine 1 (some .boolean) ∈ zj_tbl := List.mem_filter.mpr ⟨List.mem_of_getElem? (i := 1017) (by decide +kernel), by decide +kernel⟩
theorem zw_yX8_readLine : zj_mw yX8_readLine cX8_readLine 1 (some .boolean) 0 := ⟨zc_yX8_readLine, zi_RX8, by decide +kernel, rfl⟩
theorem zc_yX8_is : Cond.code yX8_is cX8_is 9 (some .boolean) ∈ zj_tbl := List.mem_filter.mpr ⟨List.mem_of_getElem? (i := 1021) (by decide +kernel), by decide +kernel⟩
theorem zw_yX8_is : zj_mw yX8_is cX8_is 9 (some .boolean) 6 := ⟨zc_yX8_is, zi_RX8, by decide +kernel, rfl⟩
theorem zc_yX8_readCourt : Cond.code yX8_readCourt cX8_readCourt 1 (some .boolean) ∈ zj_tbl := List.mem_filter.mpr ⟨List.mem_of_getElem? (i := 1025) (by decide +kernel), by decide +kernel⟩
theorem zw_yX8_readCourt : zj_mw yX8_readCourt cX8_readCourt 1 (some .boolean) 0 := ⟨zc_yX8_readCourt, zi_RX8, by decide +kernel, rfl⟩
theorem zc_yX8_told : Cond.code yX8_told cX8_told 4 (some .boolean) ∈ zj_tbl := List.mem_filter.mpr ⟨List.mem_of_getElem? (i := 1029) (by decide +kernel), by decide +kernel⟩
theorem zw_yX8_told : zj_mw yX8_told cX8_told 4 (some .boolean) 3 := ⟨zc_yX8_told, zi_RX8, by decide +kernel, rfl⟩
theorem zc_yX8_bad : Cond.code yX8_bad cX8_bad 2 (some .boolean) ∈ zj_tbl := List.mem_filter.mpr ⟨List.mem_of_getElem? (i := 1033) (by decide +kernel), by decide +kernel⟩
theorem zw_yX8_bad : zj_mw yX8_bad cX8_bad 2 (some .boolean) 1 := ⟨zc_yX8_bad, zi_RX8, by decide +kernel, rfl⟩
theorem zc_yX8_isIn : Cond.code yX8_isIn cX8_isIn 3 (some .boolean) ∈ zj_tbl := List.mem_filter.mpr ⟨List.mem_of_getElem? (i := 1036) (by decide +kernel), by decide +kernel⟩
theorem zw_yX8_isIn : zj_mw yX8_isIn cX8_isIn 3 (some .boolean) 3 := ⟨zc_yX8_isIn, zi_RX8, by decide +kernel, rfl⟩
theorem zc_yX8_readJudge : Cond.code yX8_readJudge cX8_readJudge 1 (some .boolean) ∈ zj_tbl := List.mem_filter.mpr ⟨List.mem_of_getElem? (i := 1040) (by decide +kernel), by decide +kernel⟩
theorem zw_yX8_readJudge : zj_mw yX8_readJudge cX8_readJudge 1 (some .boolean) 0 := ⟨zc_yX8_readJudge, zi_RX8, by decide +kernel, rfl⟩
theorem zc_yX8_readCase : Cond.code yX8_readCase cX8_readCase 2 (some .boolean) ∈ zj_tbl := List.mem_filter.mpr ⟨List.mem_of_getElem? (i := 1044) (by decide +kernel), by decide +kernel⟩
theorem zw_yX8_readCase : zj_mw yX8_readCase cX8_readCase 2 (some .boolean) 0 := ⟨zc_yX8_readCase, zi_RX8, by decide +kernel, rfl⟩
theorem zc_yX8_has : Cond.code yX8_has cX8_has 2 (some .boolean) ∈ zj_tbl := List.mem_filter.mpr ⟨List.mem_of_getElem? (i := 1047) (by decide +kernel), by decide +kernel⟩
theorem zw_yX8_has : zj_mw yX8_has cX8_has 2 (some .boolean) 2 := ⟨zc_yX8_has, zi_RX8, by decide +kernel, rfl⟩
theorem zc_yX8_readEnd : Cond.code yX8_readEnd cX8_readEnd 1 (some .boolean) ∈ zj_tbl := List.mem_filter.mpr ⟨List.mem_of_getElem? (i := 1051) (by decide +kernel), by decide +kernel⟩
theorem zw_yX8_readEnd : zj_mw yX8_readEnd cX8_readEnd 1 (some .boolean) 0 := ⟨zc_yX8_readEnd, zi_RX8, by decide +kernel, rfl⟩
theorem zc_yX8_copy : Cond.code yX8_copy cX8_copy 5 none ∈ zj_tbl := List.mem_filter.mpr ⟨List.mem_of_getElem? (i := 1054) (by decide +kernel), by decide +kernel⟩
theorem zw_yX8_copy : zj_mw yX8_copy cX8_copy 5 none 4 := ⟨zc_yX8_copy, zi_RX8, by decide +kernel, rfl⟩
theorem zc_yX8_fault : Cond.code yX8_fault cX8_fault 1 (some .int) ∈ zj_tbl := List.mem_filter.mpr ⟨List.mem_of_getElem? (i := 1058) (by decide +kernel), by decide +kernel⟩
theorem zw_yX8_fault : zj_mw yX8_fault cX8_fault 1 (some .int) 0 := ⟨zc_yX8_fault, zi_RX8, by decide +kernel, rfl⟩
theorem zc_yX8_now : Cond.code yX8_now cX8_now 2 (some .int) ∈ zj_tbl := List.mem_filter.mpr ⟨List.mem_of_getElem? (i := 1062) (by decide +kernel), by decide +kernel⟩
theorem zw_yX8_now : zj_mw yX8_now cX8_now 2 (some .int) 1 := ⟨zc_yX8_now, zi_RX8, by decide +kernel, rfl⟩
theorem zc_yX8_judges : Cond.code yX8_judges cX8_judges 1 (some .int) ∈ zj_tbl := List.mem_filter.mpr ⟨List.mem_of_getElem? (i := 1066) (by decide +kernel), by decide +kernel⟩
theorem zw_yX8_judges : zj_mw yX8_judges cX8_judges 1 (some .int) 0 := ⟨zc_yX8_judges, zi_RX8, by decide +kernel, rfl⟩
theorem zc_yX8_cases : Cond.code yX8_cases cX8_cases 1 (some .int) ∈ zj_tbl := List.mem_filter.mpr ⟨List.mem_of_getElem? (i := 1070) (by decide +kernel), by decide +kernel⟩
theorem zw_yX8_cases : zj_mw yX8_cases cX8_cases 1 (some .int) 0 := ⟨zc_yX8_cases, zi_RX8, by decide +kernel, rfl⟩
theorem zc_yX8_having : Cond.code yX8_having cX8_having 4 (some .int) ∈ zj_tbl := List.mem_filter.mpr ⟨List.mem_of_getElem? (i := 1074) (by decide +kernel), by decide +kernel⟩
theorem zw_yX8_having : zj_mw yX8_having cX8_having 4 (some .int) 1 := ⟨zc_yX8_having, zi_RX8, by decide +kernel, rfl⟩
theorem zc_yX8_judge : Cond.code yX8_judge cX8_judge 3 (some .int) ∈ zj_tbl := List.mem_filter.mpr ⟨List.mem_of_getElem? (i := 1078) (by decide +kernel), by decide +kernel⟩
theorem zw_yX8_judge : zj_mw yX8_judge cX8_judge 3 (some .int) 2 := ⟨zc_yX8_judge, zi_RX8, by decide +kernel, rfl⟩
theorem zc_yX8_isJudge : Cond.code yX8_isJudge cX8_isJudge 2 (some .boolean) ∈ zj_tbl := List.mem_filter.mpr ⟨List.mem_of_getElem? (i := 1082) (by decide +kernel), by decide +kernel⟩
theorem zw_yX8_isJudge : zj_mw yX8_isJudge cX8_isJudge 2 (some .boolean) 1 := ⟨zc_yX8_isJudge, zi_RX8, by decide +kernel, rfl⟩
theorem zc_yX8_refuse : Cond.code yX8_refuse cX8_refuse 1 (some .int) ∈ zj_tbl := List.mem_filter.mpr ⟨List.mem_of_getElem? (i := 1086) (by decide +kernel), by decide +kernel⟩
theorem zw_yX8_refuse : zj_mw yX8_refuse cX8_refuse 1 (some .int) 0 := ⟨zc_yX8_refuse, zi_RX8, by decide +kernel, rfl⟩
theorem zc_yX8_loadOf : Cond.code yX8_loadOf cX8_loadOf 5 (some .int) ∈ zj_tbl := List.mem_filter.mpr ⟨List.mem_of_getElem? (i := 1089) (by decide +kernel), by decide +kernel⟩
theorem zw_yX8_loadOf : zj_mw yX8_loadOf cX8_loadOf 5 (some .int) 3 := ⟨zc_yX8_loadOf, zi_RX8, by decide +kernel, rfl⟩
theorem zc_yX8_presides : Cond.code yX8_presides cX8_presides 4 (some .int) ∈ zj_tbl := List.mem_filter.mpr ⟨List.mem_of_getElem? (i := 1092) (by decide +kernel), by decide +kernel⟩
theorem zw_yX8_presides : zj_mw yX8_presides cX8_presides 4 (some .int) 2 := ⟨zc_yX8_presides, zi_RX8, by decide +kernel, rfl⟩
theorem zc_yX8_countsOf : Cond.code yX8_countsOf cX8_countsOf 5 (some .int) ∈ zj_tbl := List.mem_filter.mpr ⟨List.mem_of_getElem? (i := 1096) (by decide +kernel), by decide +kernel⟩
theorem zw_yX8_countsOf : zj_mw yX8_countsOf cX8_countsOf 5 (some .int) 2 := ⟨zc_yX8_countsOf, zi_RX8, by decide +kernel, rfl⟩
theorem zc_yX8_of : Cond.code yX8_of cX8_of 3 (some .int) ∈ zj_tbl := List.mem_filter.mpr ⟨List.mem_of_getElem? (i := 1100) (by decide +kernel), by decide +kernel⟩
theorem zw_yX8_of : zj_mw yX8_of cX8_of 3 (some .int) 2 := ⟨zc_yX8_of, zi_RX8, by decide +kernel, rfl⟩
theorem zc_yX8_isCase : Cond.code yX8_isCase cX8_isCase 2 (some .boolean) ∈ zj_tbl := List.mem_filter.mpr ⟨List.mem_of_getElem? (i := 1104) (by decide +kernel), by decide +kernel⟩
theorem zw_yX8_isCase : zj_mw yX8_isCase cX8_isCase 2 (some .boolean) 1 := ⟨zc_yX8_isCase, zi_RX8, by decide +kernel, rfl⟩
theorem zc_yX8_pair : Cond.code yX8_pair cX8_pair 3 (some .int) ∈ zj_tbl := List.mem_filter.mpr ⟨List.mem_of_getElem? (i := 1108) (by decide +kernel), by decide +kernel⟩
theorem zw_yX8_pair : zj_mw yX8_pair cX8_pair 3 (some .int) 2 := ⟨zc_yX8_pair, zi_RX8, by decide +kernel, rfl⟩
theorem zc_yX8_pairOf : Cond.code yX8_pairOf cX8_pairOf 6 (some .int) ∈ zj_tbl := List.mem_filter.mpr ⟨List.mem_of_getElem? (i := 1111) (by decide +kernel), by decide +kernel⟩
theorem zw_yX8_pairOf : zj_mw yX8_pairOf cX8_pairOf 6 (some .int) 4 := ⟨zc_yX8_pairOf, zi_RX8, by decide +kernel, rfl⟩
theorem zc_yX8_spread : Cond.code yX8_spread cX8_spread 7 (some .int) ∈ zj_tbl := List.mem_filter.mpr ⟨List.mem_of_getElem? (i := 1115) (by decide +kernel), by decide +kernel⟩
theorem zw_yX8_spread : zj_mw yX8_spread cX8_spread 7 (some .int) 1 := ⟨zc_yX8_spread, zi_RX8, by decide +kernel, rfl⟩
theorem zc_yX8_lawful : Cond.code yX8_lawful cX8_lawful 2 (some .int) ∈ zj_tbl := List.mem_filter.mpr ⟨List.mem_of_getElem? (i := 1119) (by decide +kernel), by decide +kernel⟩
theorem zw_yX8_lawful : zj_mw yX8_lawful cX8_lawful 2 (some .int) 1 := ⟨zc_yX8_lawful, zi_RX8, by decide +kernel, rfl⟩
theorem zc_yX8_laysBenches : Cond.code yX8_laysBenches cX8_laysBenches 7 none ∈ zj_tbl := List.mem_filter.mpr ⟨List.mem_of_getElem? (i := 1123) (by decide +kernel), by decide +kernel⟩
theorem zw_yX8_laysBenches : zj_mw yX8_laysBenches cX8_laysBenches 7 none 2 := ⟨zc_yX8_laysBenches, zi_RX8, by decide +kernel, rfl⟩
theorem zc_yX8_isLawful : Cond.code yX8_isLawful cX8_isLawful 4 (some .boolean) ∈ zj_tbl := List.mem_filter.mpr ⟨List.mem_of_getElem? (i := 1126) (by decide +kernel), by decide +kernel⟩
theorem zw_yX8_isLawful : zj_mw yX8_isLawful cX8_isLawful 4 (some .boolean) 3 := ⟨zc_yX8_isLawful, zi_RX8, by decide +kernel, rfl⟩
theorem zc_yX8_bench : Cond.code yX8_bench cX8_bench 3 (some .int) ∈ zj_tbl := List.mem_filter.mpr ⟨List.mem_of_getElem? (i := 1130) (by decide +kernel), by decide +kernel⟩
theorem zw_yX8_bench : zj_mw yX8_bench cX8_bench 3 (some .int) 2 := ⟨zc_yX8_bench, zi_RX8, by decide +kernel, rfl⟩
theorem zc_yX8_rank : Cond.code yX8_rank cX8_rank 4 (some .int) ∈ zj_tbl := List.mem_filter.mpr ⟨List.mem_of_getElem? (i := 1134) (by decide +kernel), by decide +kernel⟩
theorem zw_yX8_rank : zj_mw yX8_rank cX8_rank 4 (some .int) 2 := ⟨zc_yX8_rank, zi_RX8, by decide +kernel, rfl⟩
theorem zc_yX8_tension : Cond.code yX8_tension cX8_tension 3 (some .int) ∈ zj_tbl := List.mem_filter.mpr ⟨List.mem_of_getElem? (i := 1138) (by decide +kernel), by decide +kernel⟩
theorem zw_yX8_tension : zj_mw yX8_tension cX8_tension 3 (some .int) 2 := ⟨zc_yX8_tension, zi_RX8, by decide +kernel, rfl⟩
theorem zc_yX8_bits : Cond.code yX8_bits cX8_bits 3 (some .int) ∈ zj_tbl := List.mem_filter.mpr ⟨List.mem_of_getElem? (i := 1141) (by decide +kernel), by decide +kernel⟩
theorem zw_yX8_bits : zj_mw yX8_bits cX8_bits 3 (some .int) 1 := ⟨zc_yX8_bits, zi_RX8, by decide +kernel, rfl⟩
theorem zc_yX8_tensionOf : Cond.code yX8_tensionOf cX8_tensionOf 7 (some .int) ∈ zj_tbl := List.mem_filter.mpr ⟨List.mem_of_getElem? (i := 1144) (by decide +kernel), by decide +kernel⟩
theorem zw_yX8_tensionOf : zj_mw yX8_tensionOf cX8_tensionOf 7 (some .int) 3 := ⟨zc_yX8_tensionOf, zi_RX8, by decide +kernel, rfl⟩
theorem zc_yX8_pool : Cond.code yX8_pool cX8_pool 2 (some .int) ∈ zj_tbl := List.mem_filter.mpr ⟨List.mem_of_getElem? (i := 1148) (by decide +kernel), by decide +kernel⟩
theorem zw_yX8_pool : zj_mw yX8_pool cX8_pool 2 (some .int) 1 := ⟨zc_yX8_pool, zi_RX8, by decide +kernel, rfl⟩
theorem zc_yX8_laysPool : Cond.code yX8_laysPool cX8_laysPool 6 none ∈ zj_tbl := List.mem_filter.mpr ⟨List.mem_of_getElem? (i := 1152) (by decide +kernel), by decide +kernel⟩
theorem zw_yX8_laysPool : zj_mw yX8_laysPool cX8_laysPool 6 none 2 := ⟨zc_yX8_laysPool, zi_RX8, by decide +kernel, rfl⟩
theorem zc_yX8_chances : Cond.code yX8_chances cX8_chances 5 (some .int) ∈ zj_tbl := List.mem_filter.mpr ⟨List.mem_of_getElem? (i := 1156) (by decide +kernel), by decide +kernel⟩
theorem zw_yX8_chances : zj_mw yX8_chances cX8_chances 5 (some .int) 2 := ⟨zc_yX8_chances, zi_RX8, by decide +kernel, rfl⟩
theorem zc_yX8_worst : Cond.code yX8_worst cX8_worst 2 (some .int) ∈ zj_tbl := List.mem_filter.mpr ⟨List.mem_of_getElem? (i := 1160) (by decide +kernel), by decide +kernel⟩
theorem zw_yX8_worst : zj_mw yX8_worst cX8_worst 2 (some .int) 1 := ⟨zc_yX8_worst, zi_RX8, by decide +kernel, rfl⟩
theorem zc_yX8_draw : Cond.code yX8_draw cX8_draw 2 (some .int) ∈ zj_tbl := List.mem_filter.mpr ⟨List.mem_of_getElem? (i := 1164) (by decide +kernel), by decide +kernel⟩
theorem zw_yX8_draw : zj_mw yX8_draw cX8_draw 2 (some .int) 1 := ⟨zc_yX8_draw, zi_RX8, by decide +kernel, rfl⟩
theorem zc_yX8_draws : Cond.code yX8_draws cX8_draws 3 (some .boolean) ∈ zj_tbl := List.mem_filter.mpr ⟨List.mem_of_getElem? (i := 1168) (by decide +kernel), by decide +kernel⟩
theorem zw_yX8_draws : zj_mw yX8_draws cX8_draws 3 (some .boolean) 2 := ⟨zc_yX8_draws, zi_RX8, by decide +kernel, rfl⟩
theorem zc_yX8_stay : Cond.code yX8_stay cX8_stay 1 none ∈ zj_tbl := List.mem_filter.mpr ⟨List.mem_of_getElem? (i := 1173) (by decide +kernel), by decide +kernel⟩
theorem zw_yX8_stay : zj_mw yX8_stay cX8_stay 1 none 0 := ⟨zc_yX8_stay, zi_RX8, by decide +kernel, rfl⟩
theorem zc_yX8_snap : Cond.code yX8_snap cX8_snap 2 none ∈ zj_tbl := List.mem_filter.mpr ⟨List.mem_of_getElem? (i := 1177) (by decide +kernel), by decide +kernel⟩
theorem zw_yX8_snap : zj_mw yX8_snap cX8_snap 2 none 0 := ⟨zc_yX8_snap, zi_RX8, by decide +kernel, rfl⟩
theorem zc_yX8_drawAll : Cond.code yX8_drawAll cX8_drawAll 2 (some .int) ∈ zj_tbl := List.mem_filter.mpr ⟨List.mem_of_getElem? (i := 1181) (by decide +kernel), by decide +kernel⟩
theorem zw_yX8_drawAll : zj_mw yX8_drawAll cX8_drawAll 2 (some .int) 0 := ⟨zc_yX8_drawAll, zi_RX8, by decide +kernel, rfl⟩
theorem zc_yX8_drawsAll : Cond.code yX8_drawsAll cX8_drawsAll 4 (some .int) ∈ zj_tbl := List.mem_filter.mpr ⟨List.mem_of_getElem? (i := 1185) (by decide +kernel), by decide +kernel⟩
theorem zw_yX8_drawsAll : zj_mw yX8_drawsAll cX8_drawsAll 4 (some .int) 1 := ⟨zc_yX8_drawsAll, zi_RX8, by decide +kernel, rfl⟩
theorem zc_yX8_recuse : Cond.code yX8_recuse cX8_recuse 3 (some .int) ∈ zj_tbl := List.mem_filter.mpr ⟨List.mem_of_getElem? (i := 1189) (by decide +kernel), by decide +kernel⟩
theorem zw_yX8_recuse : zj_mw yX8_recuse cX8_recuse 3 (some .int) 2 := ⟨zc_yX8_recuse, zi_RX8, by decide +kernel, rfl⟩
theorem zc_yX8_repairs : Cond.code yX8_repairs cX8_repairs 9 (some .int) ∈ zj_tbl := List.mem_filter.mpr ⟨List.mem_of_getElem? (i := 1193) (by decide +kernel), by decide +kernel⟩
theorem zw_yX8_repairs : zj_mw yX8_repairs cX8_repairs 9 (some .int) 2 := ⟨zc_yX8_repairs, zi_RX8, by decide +kernel, rfl⟩
theorem zc_yX8_leave : Cond.code yX8_leave cX8_leave 4 (some .int) ∈ zj_tbl := List.mem_filter.mpr ⟨List.mem_of_getElem? (i := 1197) (by decide +kernel), by decide +kernel⟩
theorem zw_yX8_leave : zj_mw yX8_leave cX8_leave 4 (some .int) 1 := ⟨zc_yX8_leave, zi_RX8, by decide +kernel, rfl⟩
theorem zc_yX8_come : Cond.code yX8_come cX8_come 2 (some .int) ∈ zj_tbl := List.mem_filter.mpr ⟨List.mem_of_getElem? (i := 1201) (by decide +kernel), by decide +kernel⟩
theorem zw_yX8_come : zj_mw yX8_come cX8_come 2 (some .int) 1 := ⟨zc_yX8_come, zi_RX8, by decide +kernel, rfl⟩
theorem zc_yX8_hear : Cond.code yX8_hear cX8_hear 2 (some .int) ∈ zj_tbl := List.mem_filter.mpr ⟨List.mem_of_getElem? (i := 1205) (by decide +kernel), by decide +kernel⟩
theorem zw_yX8_hear : zj_mw yX8_hear cX8_hear 2 (some .int) 1 := ⟨zc_yX8_hear, zi_RX8, by decide +kernel, rfl⟩
theorem zc_yX8_evenness : Cond.code yX8_evenness cX8_evenness 1 (some .int) ∈ zj_tbl := List.mem_filter.mpr ⟨List.mem_of_getElem? (i := 1209) (by decide +kernel), by decide +kernel⟩
theorem zw_yX8_evenness : zj_mw yX8_evenness cX8_evenness 1 (some .int) 0 := ⟨zc_yX8_evenness, zi_RX8, by decide +kernel, rfl⟩
theorem zc_yX8_evennessNow : Cond.code yX8_evennessNow cX8_evennessNow 4 (some .int) ∈ zj_tbl := List.mem_filter.mpr ⟨List.mem_of_getElem? (i := 1213) (by decide +kernel), by decide +kernel⟩
theorem zw_yX8_evennessNow : zj_mw yX8_evennessNow cX8_evennessNow 4 (some .int) 0 := ⟨zc_yX8_evennessNow, zi_RX8, by decide +kernel, rfl⟩
theorem zc_yX8_better : Cond.code yX8_better cX8_better 2 (some .int) ∈ zj_tbl := List.mem_filter.mpr ⟨List.mem_of_getElem? (i := 1217) (by decide +kernel), by decide +kernel⟩
theorem zw_yX8_better : zj_mw yX8_better cX8_better 2 (some .int) 1 := ⟨zc_yX8_better, zi_RX8, by decide +kernel, rfl⟩
theorem zc_yX8_laysBetter : Cond.code yX8_laysBetter cX8_laysBetter 6 (some .boolean) ∈ zj_tbl := List.mem_filter.mpr ⟨List.mem_of_getElem? (i := 1221) (by decide +kernel), by decide +kernel⟩
theorem zw_yX8_laysBetter : zj_mw yX8_laysBetter cX8_laysBetter 6 (some .boolean) 0 := ⟨zc_yX8_laysBetter, zi_RX8, by decide +kernel, rfl⟩
theorem zc_yX8_exchanges : Cond.code yX8_exchanges cX8_exchanges 8 (some .boolean) ∈ zj_tbl := List.mem_filter.mpr ⟨List.mem_of_getElem? (i := 1225) (by decide +kernel), by decide +kernel⟩
theorem zw_yX8_exchanges : zj_mw yX8_exchanges cX8_exchanges 8 (some .boolean) 4 := ⟨zc_yX8_exchanges, zi_RX8, by decide +kernel, rfl⟩
theorem zc_yX8_changes : Cond.code yX8_changes cX8_changes 4 none ∈ zj_tbl := List.mem_filter.mpr ⟨List.mem_of_getElem? (i := 1229) (by decide +kernel), by decide +kernel⟩
theorem zw_yX8_changes : zj_mw yX8_changes cX8_changes 4 none 3 := ⟨zc_yX8_changes, zi_RX8, by decide +kernel, rfl⟩
theorem zc_yX8_exchange : Cond.code yX8_exchange cX8_exchange 5 (some .int) ∈ zj_tbl := List.mem_filter.mpr ⟨List.mem_of_getElem? (i := 1233) (by decide +kernel), by decide +kernel⟩
theorem zw_yX8_exchange : zj_mw yX8_exchange cX8_exchange 5 (some .int) 4 := ⟨zc_yX8_exchange, zi_RX8, by decide +kernel, rfl⟩
theorem zc_yX8_smooth : Cond.code yX8_smooth cX8_smooth 2 (some .int) ∈ zj_tbl := List.mem_filter.mpr ⟨List.mem_of_getElem? (i := 1237) (by decide +kernel), by decide +kernel⟩
theorem zw_yX8_smooth : zj_mw yX8_smooth cX8_smooth 2 (some .int) 0 := ⟨zc_yX8_smooth, zi_RX8, by decide +kernel, rfl⟩
theorem zc_yX8_same : Cond.code yX8_same cX8_same 3 (some .int) ∈ zj_tbl := List.mem_filter.mpr ⟨List.mem_of_getElem? (i := 1241) (by decide +kernel), by decide +kernel⟩
theorem zw_yX8_same : zj_mw yX8_same cX8_same 3 (some .int) 0 := ⟨zc_yX8_same, zi_RX8, by decide +kernel, rfl⟩
theorem zc_yX8_laysAnew : Cond.code yX8_laysAnew cX8_laysAnew 2 none ∈ zj_tbl := List.mem_filter.mpr ⟨List.mem_of_getElem? (i := 1245) (by decide +kernel), by decide +kernel⟩
theorem zw_yX8_laysAnew : zj_mw yX8_laysAnew cX8_laysAnew 2 none 0 := ⟨zc_yX8_laysAnew, zi_RX8, by decide +kernel, rfl⟩
theorem zc_yX8_anew : Cond.code yX8_anew cX8_anew 2 (some .int) ∈ zj_tbl := List.mem_filter.mpr ⟨List.mem_of_getElem? (i := 1249) (by decide +kernel), by decide +kernel⟩
theorem zw_yX8_anew : zj_mw yX8_anew cX8_anew 2 (some .int) 1 := ⟨zc_yX8_anew, zi_RX8, by decide +kernel, rfl⟩
theorem zc_yX8_undo : Cond.code yX8_undo cX8_undo 1 (some .int) ∈ zj_tbl := List.mem_filter.mpr ⟨List.mem_of_getElem? (i := 1253) (by decide +kernel), by decide +kernel⟩
theorem zw_yX8_undo : zj_mw yX8_undo cX8_undo 1 (some .int) 0 := ⟨zc_yX8_undo, zi_RX8, by decide +kernel, rfl⟩
theorem zf_X5_9 : Cond.fieldLink RX5 9 "BenchComposer$Tape" "bytes" "[B" ∈ zj_tbl := List.mem_filter.mpr ⟨List.mem_of_getElem? (i := 89) (by decide +kernel), by decide +kernel⟩
theorem lf_X5_9 : zj_fl RX5 9 5 0 (.array .byte) true := ⟨_, _, _, rfl, by decide, zf_X5_9, by decide +kernel, rfl⟩
theorem zf_X4_142 : Cond.fieldLink RX4 142 "BenchComposer$Tape" "bytes" "[B" ∈ zj_tbl := List.mem_filter.mpr ⟨List.mem_of_getElem? (i := 90) (by decide +kernel), by decide +kernel⟩
theorem lf_X4_142 : zj_fl RX4 142 5 0 (.array .byte) true := ⟨_, _, _, rfl, by decide, zf_X4_142, by decide +kernel, rfl⟩
theorem zf_X5_15 : Cond.fieldLink RX5 15 "BenchComposer$Tape" "length" "I" ∈ zj_tbl := List.mem_filter.mpr ⟨List.mem_of_getElem? (i := 91) (by decide +kernel), by decide +kernel⟩
theorem lf_X5_15 : zj_fl RX5 15 5 1 .int false := ⟨_, _, _, rfl, by decide, zf_X5_15, by decide +kernel, rfl⟩
theorem zf_X7_55 : Cond.fieldLink RX7 55 "BenchComposer$Tape" "length" "I" ∈ zj_tbl := List.mem_filter.mpr ⟨List.mem_of_getElem? (i := 92) (by decide +kernel), by decide +kernel⟩
theorem lf_X7_55 : zj_fl RX7 55 5 1 .int false := ⟨_, _, _, rfl, by decide, zf_X7_55, by decide +kernel, rfl⟩
theorem zf_X4_48 : Cond.fieldLink RX4 48 "BenchComposer$Tape" "length" "I" ∈ zj_tbl := List.mem_filter.mpr ⟨List.mem_of_getElem? (i := 93) (by decide +kernel), by decide +kernel⟩
theorem lf_X4_48 : zj_fl RX4 48 5 1 .int false := ⟨_, _, _, rfl, by decide, zf_X4_48, by decide +kernel, rfl⟩
theorem zf_X6_25 : Cond.fieldLink RX6 25 "BenchComposer$Told" "seed" "I" ∈ zj_tbl := List.mem_filter.mpr ⟨List.mem_of_getElem? (i := 112) (by decide +kernel), by decide +kernel⟩
theorem lf_X6_25 : zj_fl RX6 25 6 0 .int false := ⟨_, _, _, rfl, by decide, zf_X6_25, by decide +kernel, rfl⟩
theorem zf_X1_21 : Cond.fieldLink RX1 21 "BenchComposer$Told" "seed" "I" ∈ zj_tbl := List.mem_filter.mpr ⟨List.mem_of_getElem? (i := 113) (by decide +kernel), by decide +kernel⟩
theorem lf_X1_21 : zj_fl RX1 21 6 0 .int false := ⟨_, _, _, rfl, by decide, zf_X1_21, by decide +kernel, rfl⟩
theorem zf_X4_84 : Cond.fieldLink RX4 84 "BenchComposer$Told" "seed" "I" ∈ zj_tbl := List.mem_filter.mpr ⟨List.mem_of_getElem? (i := 114) (by decide +kernel), by decide +kernel⟩
theorem lf_X4_84 : zj_fl RX4 84 6 0 .int false := ⟨_, _, _, rfl, by decide, zf_X4_84, by decide +kernel, rfl⟩
theorem zf_X6_28 : Cond.fieldLink RX6 28 "BenchComposer$Told" "unsure" "I" ∈ zj_tbl := List.mem_filter.mpr ⟨List.mem_of_getElem? (i := 115) (by decide +kernel), by decide +kernel⟩
theorem lf_X6_28 : zj_fl RX6 28 6 1 .int false := ⟨_, _, _, rfl, by decide, zf_X6_28, by decide +kernel, rfl⟩
theorem zf_X4_87 : Cond.fieldLink RX4 87 "BenchComposer$Told" "unsure" "I" ∈ zj_tbl := List.mem_filter.mpr ⟨List.mem_of_getElem? (i := 116) (by decide +kernel), by decide +kernel⟩
theorem lf_X4_87 : zj_fl RX4 87 6 1 .int false := ⟨_, _, _, rfl, by decide, zf_X4_87, by decide +kernel, rfl⟩
theorem zf_X0_147 : Cond.fieldLink RX0 147 "BenchComposer$Told" "unsure" "I" ∈ zj_tbl := List.mem_filter.mpr ⟨List.mem_of_getElem? (i := 117) (by decide +kernel), by decide +kernel⟩
theorem lf_X0_147 : zj_fl RX0 147 6 1 .int false := ⟨_, _, _, rfl, by decide, zf_X0_147, by decide +kernel, rfl⟩
theorem zf_X6_31 : Cond.fieldLink RX6 31 "BenchComposer$Told" "even" "I" ∈ zj_tbl := List.mem_filter.mpr ⟨List.mem_of_getElem? (i := 118) (by decide +kernel), by decide +kernel⟩
theorem lf_X6_31 : zj_fl RX6 31 6 2 .int false := ⟨_, _, _, rfl, by decide, zf_X6_31, by decide +kernel, rfl⟩
theorem zf_X4_90 : Cond.fieldLink RX4 90 "BenchComposer$Told" "even" "I" ∈ zj_tbl := List.mem_filter.mpr ⟨List.mem_of_getElem? (i := 119) (by decide +kernel), by decide +kernel⟩
theorem lf_X4_90 : zj_fl RX4 90 6 2 .int false := ⟨_, _, _, rfl, by decide, zf_X4_90, by decide +kernel, rfl⟩
theorem zf_X0_99 : Cond.fieldLink RX0 99 "BenchComposer$Told" "even" "I" ∈ zj_tbl := List.mem_filter.mpr ⟨List.mem_of_getElem? (i := 120) (by decide +kernel), by decide +kernel⟩
theorem lf_X0_99 : zj_fl RX0 99 6 2 .int false := ⟨_, _, _, rfl, by decide, zf_X0_99, by decide +kernel, rfl⟩
theorem zf_X6_34 : Cond.fieldLink RX6 34 "BenchComposer$Told" "loaded" "I" ∈ zj_tbl := List.mem_filter.mpr ⟨List.mem_of_getElem? (i := 121) (by decide +kernel), by decide +kernel⟩
theorem lf_X6_34 : zj_fl RX6 34 6 3 .int false := ⟨_, _, _, rfl, by decide, zf_X6_34, by decide +kernel, rfl⟩
theorem zf_X4_93 : Cond.fieldLink RX4 93 "BenchComposer$Told" "loaded" "I" ∈ zj_tbl := List.mem_filter.mpr ⟨List.mem_of_getElem? (i := 122) (by decide +kernel), by decide +kernel⟩
theorem lf_X4_93 : zj_fl RX4 93 6 3 .int false := ⟨_, _, _, rfl, by decide, zf_X4_93, by decide +kernel, rfl⟩
theorem zf_X0_102 : Cond.fieldLink RX0 102 "BenchComposer$Told" "loaded" "I" ∈ zj_tbl := List.mem_filter.mpr ⟨List.mem_of_getElem? (i := 123) (by decide +kernel), by decide +kernel⟩
theorem lf_X0_102 : zj_fl RX0 102 6 3 .int false := ⟨_, _, _, rfl, by decide, zf_X0_102, by decide +kernel, rfl⟩
theorem zf_X6_37 : Cond.fieldLink RX6 37 "BenchComposer$Told" "chair" "I" ∈ zj_tbl := List.mem_filter.mpr ⟨List.mem_of_getElem? (i := 124) (by decide +kernel), by decide +kernel⟩
theorem lf_X6_37 : zj_fl RX6 37 6 4 .int false := ⟨_, _, _, rfl, by decide, zf_X6_37, by decide +kernel, rfl⟩
theorem zf_X4_96 : Cond.fieldLink RX4 96 "BenchComposer$Told" "chair" "I" ∈ zj_tbl := List.mem_filter.mpr ⟨List.mem_of_getElem? (i := 125) (by decide +kernel), by decide +kernel⟩
theorem lf_X4_96 : zj_fl RX4 96 6 4 .int false := ⟨_, _, _, rfl, by decide, zf_X4_96, by decide +kernel, rfl⟩
theorem zf_X0_89 : Cond.fieldLink RX0 89 "BenchComposer$Told" "chair" "I" ∈ zj_tbl := List.mem_filter.mpr ⟨List.mem_of_getElem? (i := 126) (by decide +kernel), by decide +kernel⟩
theorem lf_X0_89 : zj_fl RX0 89 6 4 .int false := ⟨_, _, _, rfl, by decide, zf_X0_89, by decide +kernel, rfl⟩
theorem zf_X6_21 : Cond.fieldLink RX6 21 "BenchComposer$Told" "leastSenior" "I" ∈ zj_tbl := List.mem_filter.mpr ⟨List.mem_of_getElem? (i := 127) (by decide +kernel), by decide +kernel⟩
theorem lf_X6_21 : zj_fl RX6 21 6 5 .int false := ⟨_, _, _, rfl, by decide, zf_X6_21, by decide +kernel, rfl⟩
theorem zf_X4_106 : Cond.fieldLink RX4 106 "BenchComposer$Told" "leastSenior" "I" ∈ zj_tbl := List.mem_filter.mpr ⟨List.mem_of_getElem? (i := 128) (by decide +kernel), by decide +kernel⟩
theorem lf_X4_106 : zj_fl RX4 106 6 5 .int false := ⟨_, _, _, rfl, by decide, zf_X4_106, by decide +kernel, rfl⟩
theorem zf_X6_40 : Cond.fieldLink RX6 40 "BenchComposer$Told" "judges" "I" ∈ zj_tbl := List.mem_filter.mpr ⟨List.mem_of_getElem? (i := 129) (by decide +kernel), by decide +kernel⟩
theorem lf_X6_40 : zj_fl RX6 40 6 6 .int false := ⟨_, _, _, rfl, by decide, zf_X6_40, by decide +kernel, rfl⟩
theorem zf_X4_99 : Cond.fieldLink RX4 99 "BenchComposer$Told" "judges" "I" ∈ zj_tbl := List.mem_filter.mpr ⟨List.mem_of_getElem? (i := 130) (by decide +kernel), by decide +kernel⟩
theorem lf_X4_99 : zj_fl RX4 99 6 6 .int false := ⟨_, _, _, rfl, by decide, zf_X4_99, by decide +kernel, rfl⟩
theorem zf_X7_91 : Cond.fieldLink RX7 91 "BenchComposer$Told" "judges" "I" ∈ zj_tbl := List.mem_filter.mpr ⟨List.mem_of_getElem? (i := 131) (by decide +kernel), by decide +kernel⟩
theorem lf_X7_91 : zj_fl RX7 91 6 6 .int false := ⟨_, _, _, rfl, by decide, zf_X7_91, by decide +kernel, rfl⟩
theorem zf_X0_86 : Cond.fieldLink RX0 86 "BenchComposer$Told" "judges" "I" ∈ zj_tbl := List.mem_filter.mpr ⟨List.mem_of_getElem? (i := 132) (by decide +kernel), by decide +kernel⟩
theorem lf_X0_86 : zj_fl RX0 86 6 6 .int false := ⟨_, _, _, rfl, by decide, zf_X0_86, by decide +kernel, rfl⟩
theorem zf_X6_43 : Cond.fieldLink RX6 43 "BenchComposer$Told" "cases" "I" ∈ zj_tbl := List.mem_filter.mpr ⟨List.mem_of_getElem? (i := 133) (by decide +kernel), by decide +kernel⟩
theorem lf_X6_43 : zj_fl RX6 43 6 7 .int false := ⟨_, _, _, rfl, by decide, zf_X6_43, by decide +kernel, rfl⟩
theorem zf_X0_55 : Cond.fieldLink RX0 55 "BenchComposer$Told" "cases" "I" ∈ zj_tbl := List.mem_filter.mpr ⟨List.mem_of_getElem? (i := 134) (by decide +kernel), by decide +kernel⟩
theorem lf_X0_55 : zj_fl RX0 55 6 7 .int false := ⟨_, _, _, rfl, by decide, zf_X0_55, by decide +kernel, rfl⟩
theorem zf_X7_94 : Cond.fieldLink RX7 94 "BenchComposer$Told" "cases" "I" ∈ zj_tbl := List.mem_filter.mpr ⟨List.mem_of_getElem? (i := 135) (by decide +kernel), by decide +kernel⟩
theorem lf_X7_94 : zj_fl RX7 94 6 7 .int false := ⟨_, _, _, rfl, by decide, zf_X7_94, by decide +kernel, rfl⟩
theorem zf_X4_109 : Cond.fieldLink RX4 109 "BenchComposer$Told" "cases" "I" ∈ zj_tbl := List.mem_filter.mpr ⟨List.mem_of_getElem? (i := 136) (by decide +kernel), by decide +kernel⟩
theorem lf_X4_109 : zj_fl RX4 109 6 7 .int false := ⟨_, _, _, rfl, by decide, zf_X4_109, by decide +kernel, rfl⟩
theorem zf_X6_55 : Cond.fieldLink RX6 55 "BenchComposer$Told" "seniors" "I" ∈ zj_tbl := List.mem_filter.mpr ⟨List.mem_of_getElem? (i := 137) (by decide +kernel), by decide +kernel⟩
theorem lf_X6_55 : zj_fl RX6 55 6 8 .int false := ⟨_, _, _, rfl, by decide, zf_X6_55, by decide +kernel, rfl⟩
theorem zf_X0_119 : Cond.fieldLink RX0 119 "BenchComposer$Told" "seniors" "I" ∈ zj_tbl := List.mem_filter.mpr ⟨List.mem_of_getElem? (i := 138) (by decide +kernel), by decide +kernel⟩
theorem lf_X0_119 : zj_fl RX0 119 6 8 .int false := ⟨_, _, _, rfl, by decide, zf_X0_119, by decide +kernel, rfl⟩
theorem zf_X6_9 : Cond.fieldLink RX6 9 "BenchComposer$Told" "seniority" "[I" ∈ zj_tbl := List.mem_filter.mpr ⟨List.mem_of_getElem? (i := 139) (by decide +kernel), by decide +kernel⟩
theorem lf_X6_9 : zj_fl RX6 9 6 9 (.array .int) true := ⟨_, _, _, rfl, by decide, zf_X6_9, by decide +kernel, rfl⟩
theorem zf_X4_102 : Cond.fieldLink RX4 102 "BenchComposer$Told" "seniority" "[I" ∈ zj_tbl := List.mem_filter.mpr ⟨List.mem_of_getElem? (i := 140) (by decide +kernel), by decide +kernel⟩
theorem lf_X4_102 : zj_fl RX4 102 6 9 (.array .int) true := ⟨_, _, _, rfl, by decide, zf_X4_102, by decide +kernel, rfl⟩
theorem zf_X7_124 : Cond.fieldLink RX7 124 "BenchComposer$Told" "seniority" "[I" ∈ zj_tbl := List.mem_filter.mpr ⟨List.mem_of_getElem? (i := 141) (by decide +kernel), by decide +kernel⟩
theorem lf_X7_124 : zj_fl RX7 124 6 9 (.array .int) true := ⟨_, _, _, rfl, by decide, zf_X7_124, by decide +kernel, rfl⟩
theorem zf_X6_15 : Cond.fieldLink RX6 15 "BenchComposer$Told" "weight" "[I" ∈ zj_tbl := List.mem_filter.mpr ⟨List.mem_of_getElem? (i := 142) (by decide +kernel), by decide +kernel⟩
theorem lf_X6_15 : zj_fl RX6 15 6 10 (.array .int) true := ⟨_, _, _, rfl, by decide, zf_X6_15, by decide +kernel, rfl⟩
theorem zf_X4_112 : Cond.fieldLink RX4 112 "BenchComposer$Told" "weight" "[I" ∈ zj_tbl := List.mem_filter.mpr ⟨List.mem_of_getElem? (i := 143) (by decide +kernel), by decide +kernel⟩
theorem lf_X4_112 : zj_fl RX4 112 6 10 (.array .int) true := ⟨_, _, _, rfl, by decide, zf_X4_112, by decide +kernel, rfl⟩
theorem zf_X0_79 : Cond.fieldLink RX0 79 "BenchComposer$Told" "weight" "[I" ∈ zj_tbl := List.mem_filter.mpr ⟨List.mem_of_getElem? (i := 144) (by decide +kernel), by decide +kernel⟩
theorem lf_X0_79 : zj_fl RX0 79 6 10 (.array .int) true := ⟨_, _, _, rfl, by decide, zf_X0_79, by decide +kernel, rfl⟩
theorem zf_X7_157 : Cond.fieldLink RX7 157 "BenchComposer$Told" "weight" "[I" ∈ zj_tbl := List.mem_filter.mpr ⟨List.mem_of_getElem? (i := 145) (by decide +kernel), by decide +kernel⟩
theorem lf_X7_157 : zj_fl RX7 157 6 10 (.array .int) true := ⟨_, _, _, rfl, by decide, zf_X7_157, by decide +kernel, rfl⟩
theorem zf_X6_18 : Cond.fieldLink RX6 18 "BenchComposer$Told" "barred" "[I" ∈ zj_tbl := List.mem_filter.mpr ⟨List.mem_of_getElem? (i := 146) (by decide +kernel), by decide +kernel⟩
theorem lf_X6_18 : zj_fl RX6 18 6 11 (.array .int) true := ⟨_, _, _, rfl, by decide, zf_X6_18, by decide +kernel, rfl⟩
theorem zf_X1_37 : Cond.fieldLink RX1 37 "BenchComposer$Told" "barred" "[I" ∈ zj_tbl := List.mem_filter.mpr ⟨List.mem_of_getElem? (i := 147) (by decide +kernel), by decide +kernel⟩
theorem lf_X1_37 : zj_fl RX1 37 6 11 (.array .int) true := ⟨_, _, _, rfl, by decide, zf_X1_37, by decide +kernel, rfl⟩
theorem zf_X4_115 : Cond.fieldLink RX4 115 "BenchComposer$Told" "barred" "[I" ∈ zj_tbl := List.mem_filter.mpr ⟨List.mem_of_getElem? (i := 148) (by decide +kernel), by decide +kernel⟩
theorem lf_X4_115 : zj_fl RX4 115 6 11 (.array .int) true := ⟨_, _, _, rfl, by decide, zf_X4_115, by decide +kernel, rfl⟩
theorem zf_X4_9 : Cond.fieldLink RX4 9 "BenchComposer$Reader" "tape" "LBenchComposer$Tape;" ∈ zj_tbl := List.mem_filter.mpr ⟨List.mem_of_getElem? (i := 175) (by decide +kernel), by decide +kernel⟩
theorem lf_X4_9 : zj_fl RX4 9 4 0 (.object "BenchComposer$Tape") true := ⟨_, _, _, rfl, by decide, zf_X4_9, by decide +kernel, rfl⟩
theorem zf_X4_18 : Cond.fieldLink RX4 18 "BenchComposer$Reader" "draft" "LBenchComposer$Told;" ∈ zj_tbl := List.mem_filter.mpr ⟨List.mem_of_getElem? (i := 176) (by decide +kernel), by decide +kernel⟩
theorem lf_X4_18 : zj_fl RX4 18 4 1 (.object "BenchComposer$Told") true := ⟨_, _, _, rfl, by decide, zf_X4_18, by decide +kernel, rfl⟩
theorem zf_X7_72 : Cond.fieldLink RX7 72 "BenchComposer$Reader" "draft" "LBenchComposer$Told;" ∈ zj_tbl := List.mem_filter.mpr ⟨List.mem_of_getElem? (i := 177) (by decide +kernel), by decide +kernel⟩
theorem lf_X7_72 : zj_fl RX7 72 4 1 (.object "BenchComposer$Told") true := ⟨_, _, _, rfl, by decide, zf_X7_72, by decide +kernel, rfl⟩
theorem zf_X4_25 : Cond.fieldLink RX4 25 "BenchComposer$Reader" "fault" "I" ∈ zj_tbl := List.mem_filter.mpr ⟨List.mem_of_getElem? (i := 178) (by decide +kernel), by decide +kernel⟩
theorem lf_X4_25 : zj_fl RX4 25 4 2 .int false := ⟨_, _, _, rfl, by decide, zf_X4_25, by decide +kernel, rfl⟩
theorem zf_X7_66 : Cond.fieldLink RX7 66 "BenchComposer$Reader" "fault" "I" ∈ zj_tbl := List.mem_filter.mpr ⟨List.mem_of_getElem? (i := 179) (by decide +kernel), by decide +kernel⟩
theorem lf_X7_66 : zj_fl RX7 66 4 2 .int false := ⟨_, _, _, rfl, by decide, zf_X7_66, by decide +kernel, rfl⟩
theorem zf_X4_29 : Cond.fieldLink RX4 29 "BenchComposer$Reader" "lines" "I" ∈ zj_tbl := List.mem_filter.mpr ⟨List.mem_of_getElem? (i := 180) (by decide +kernel), by decide +kernel⟩
theorem lf_X4_29 : zj_fl RX4 29 4 3 .int false := ⟨_, _, _, rfl, by decide, zf_X4_29, by decide +kernel, rfl⟩
theorem zf_X7_88 : Cond.fieldLink RX7 88 "BenchComposer$Reader" "lines" "I" ∈ zj_tbl := List.mem_filter.mpr ⟨List.mem_of_getElem? (i := 181) (by decide +kernel), by decide +kernel⟩
theorem lf_X7_88 : zj_fl RX7 88 4 3 .int false := ⟨_, _, _, rfl, by decide, zf_X7_88, by decide +kernel, rfl⟩
theorem zf_X7_69 : Cond.fieldLink RX7 69 "BenchComposer$Reader" "start" "I" ∈ zj_tbl := List.mem_filter.mpr ⟨List.mem_of_getElem? (i := 182) (by decide +kernel), by decide +kernel⟩
theorem lf_X7_69 : zj_fl RX7 69 4 4 .int false := ⟨_, _, _, rfl, by decide, zf_X7_69, by decide +kernel, rfl⟩
theorem zf_X4_135 : Cond.fieldLink RX4 135 "BenchComposer$Reader" "start" "I" ∈ zj_tbl := List.mem_filter.mpr ⟨List.mem_of_getElem? (i := 183) (by decide +kernel), by decide +kernel⟩
theorem lf_X4_135 : zj_fl RX4 135 4 4 .int false := ⟨_, _, _, rfl, by decide, zf_X4_135, by decide +kernel, rfl⟩
theorem zf_X4_32 : Cond.fieldLink RX4 32 "BenchComposer$Reader" "at" "I" ∈ zj_tbl := List.mem_filter.mpr ⟨List.mem_of_getElem? (i := 184) (by decide +kernel), by decide +kernel⟩
theorem lf_X4_32 : zj_fl RX4 32 4 5 .int false := ⟨_, _, _, rfl, by decide, zf_X4_32, by decide +kernel, rfl⟩
theorem zf_X4_42 : Cond.fieldLink RX4 42 "BenchComposer$Reader" "kind" "I" ∈ zj_tbl := List.mem_filter.mpr ⟨List.mem_of_getElem? (i := 185) (by decide +kernel), by decide +kernel⟩
theorem lf_X4_42 : zj_fl RX4 42 4 6 .int false := ⟨_, _, _, rfl, by decide, zf_X4_42, by decide +kernel, rfl⟩
theorem zf_X4_124 : Cond.fieldLink RX4 124 "BenchComposer$Reader" "value" "I" ∈ zj_tbl := List.mem_filter.mpr ⟨List.mem_of_getElem? (i := 186) (by decide +kernel), by decide +kernel⟩
theorem lf_X4_124 : zj_fl RX4 124 4 7 .int false := ⟨_, _, _, rfl, by decide, zf_X4_124, by decide +kernel, rfl⟩
theorem zf_X4_35 : Cond.fieldLink RX4 35 "BenchComposer$Reader" "seniorTold" "Z" ∈ zj_tbl := List.mem_filter.mpr ⟨List.mem_of_getElem? (i := 187) (by decide +kernel), by decide +kernel⟩
theorem lf_X4_35 : zj_fl RX4 35 4 8 .boolean false := ⟨_, _, _, rfl, by decide, zf_X4_35, by decide +kernel, rfl⟩
theorem zf_X1_27 : Cond.fieldLink RX1 27 "BenchComposer$Docket" "seed" "I" ∈ zj_tbl := List.mem_filter.mpr ⟨List.mem_of_getElem? (i := 221) (by decide +kernel), by decide +kernel⟩
theorem lf_X1_27 : zj_fl RX1 27 1 0 .int false := ⟨_, _, _, rfl, by decide, zf_X1_27, by decide +kernel, rfl⟩
theorem zf_X7_101 : Cond.fieldLink RX7 101 "BenchComposer$Docket" "seed" "I" ∈ zj_tbl := List.mem_filter.mpr ⟨List.mem_of_getElem? (i := 222) (by decide +kernel), by decide +kernel⟩
theorem lf_X7_101 : zj_fl RX7 101 1 0 .int false := ⟨_, _, _, rfl, by decide, zf_X7_101, by decide +kernel, rfl⟩
theorem zf_X0_159 : Cond.fieldLink RX0 159 "BenchComposer$Docket" "seed" "I" ∈ zj_tbl := List.mem_filter.mpr ⟨List.mem_of_getElem? (i := 223) (by decide +kernel), by decide +kernel⟩
theorem lf_X0_159 : zj_fl RX0 159 1 0 .int false := ⟨_, _, _, rfl, by decide, zf_X0_159, by decide +kernel, rfl⟩
theorem zf_X1_28 : Cond.fieldLink RX1 28 "BenchComposer$Docket" "away" "I" ∈ zj_tbl := List.mem_filter.mpr ⟨List.mem_of_getElem? (i := 224) (by decide +kernel), by decide +kernel⟩
theorem lf_X1_28 : zj_fl RX1 28 1 1 .int false := ⟨_, _, _, rfl, by decide, zf_X1_28, by decide +kernel, rfl⟩
theorem zf_X7_128 : Cond.fieldLink RX7 128 "BenchComposer$Docket" "away" "I" ∈ zj_tbl := List.mem_filter.mpr ⟨List.mem_of_getElem? (i := 225) (by decide +kernel), by decide +kernel⟩
theorem lf_X7_128 : zj_fl RX7 128 1 1 .int false := ⟨_, _, _, rfl, by decide, zf_X7_128, by decide +kernel, rfl⟩
theorem zf_X0_116 : Cond.fieldLink RX0 116 "BenchComposer$Docket" "away" "I" ∈ zj_tbl := List.mem_filter.mpr ⟨List.mem_of_getElem? (i := 226) (by decide +kernel), by decide +kernel⟩
theorem lf_X0_116 : zj_fl RX0 116 1 1 .int false := ⟨_, _, _, rfl, by decide, zf_X0_116, by decide +kernel, rfl⟩
theorem zf_X1_9 : Cond.fieldLink RX1 9 "BenchComposer$Docket" "stage" "[I" ∈ zj_tbl := List.mem_filter.mpr ⟨List.mem_of_getElem? (i := 227) (by decide +kernel), by decide +kernel⟩
theorem lf_X1_9 : zj_fl RX1 9 1 2 (.array .int) true := ⟨_, _, _, rfl, by decide, zf_X1_9, by decide +kernel, rfl⟩
theorem zf_X0_52 : Cond.fieldLink RX0 52 "BenchComposer$Docket" "stage" "[I" ∈ zj_tbl := List.mem_filter.mpr ⟨List.mem_of_getElem? (i := 228) (by decide +kernel), by decide +kernel⟩
theorem lf_X0_52 : zj_fl RX0 52 1 2 (.array .int) true := ⟨_, _, _, rfl, by decide, zf_X0_52, by decide +kernel, rfl⟩
theorem zf_X7_163 : Cond.fieldLink RX7 163 "BenchComposer$Docket" "stage" "[I" ∈ zj_tbl := List.mem_filter.mpr ⟨List.mem_of_getElem? (i := 229) (by decide +kernel), by decide +kernel⟩
theorem lf_X7_163 : zj_fl RX7 163 1 2 (.array .int) true := ⟨_, _, _, rfl, by decide, zf_X7_163, by decide +kernel, rfl⟩
theorem zf_X1_15 : Cond.fieldLink RX1 15 "BenchComposer$Docket" "sitting" "[I" ∈ zj_tbl := List.mem_filter.mpr ⟨List.mem_of_getElem? (i := 230) (by decide +kernel), by decide +kernel⟩
theorem lf_X1_15 : zj_fl RX1 15 1 3 (.array .int) true := ⟨_, _, _, rfl, by decide, zf_X1_15, by decide +kernel, rfl⟩
theorem zf_X0_59 : Cond.fieldLink RX0 59 "BenchComposer$Docket" "sitting" "[I" ∈ zj_tbl := List.mem_filter.mpr ⟨List.mem_of_getElem? (i := 231) (by decide +kernel), by decide +kernel⟩
theorem lf_X0_59 : zj_fl RX0 59 1 3 (.array .int) true := ⟨_, _, _, rfl, by decide, zf_X0_59, by decide +kernel, rfl⟩
theorem zf_X7_166 : Cond.fieldLink RX7 166 "BenchComposer$Docket" "sitting" "[I" ∈ zj_tbl := List.mem_filter.mpr ⟨List.mem_of_getElem? (i := 232) (by decide +kernel), by decide +kernel⟩
theorem lf_X7_166 : zj_fl RX7 166 1 3 (.array .int) true := ⟨_, _, _, rfl, by decide, zf_X7_166, by decide +kernel, rfl⟩
theorem zf_X1_18 : Cond.fieldLink RX1 18 "BenchComposer$Docket" "barred" "[I" ∈ zj_tbl := List.mem_filter.mpr ⟨List.mem_of_getElem? (i := 233) (by decide +kernel), by decide +kernel⟩
theorem lf_X1_18 : zj_fl RX1 18 1 4 (.array .int) true := ⟨_, _, _, rfl, by decide, zf_X1_18, by decide +kernel, rfl⟩
theorem zf_X0_70 : Cond.fieldLink RX0 70 "BenchComposer$Docket" "barred" "[I" ∈ zj_tbl := List.mem_filter.mpr ⟨List.mem_of_getElem? (i := 234) (by decide +kernel), by decide +kernel⟩
theorem lf_X0_70 : zj_fl RX0 70 1 4 (.array .int) true := ⟨_, _, _, rfl, by decide, zf_X0_70, by decide +kernel, rfl⟩
theorem zf_X7_160 : Cond.fieldLink RX7 160 "BenchComposer$Docket" "barred" "[I" ∈ zj_tbl := List.mem_filter.mpr ⟨List.mem_of_getElem? (i := 235) (by decide +kernel), by decide +kernel⟩
theorem lf_X7_160 : zj_fl RX7 160 1 4 (.array .int) true := ⟨_, _, _, rfl, by decide, zf_X7_160, by decide +kernel, rfl⟩
theorem zf_X7_251 : Cond.fieldLink RX7 251 "BenchComposer$Found" "a" "I" ∈ zj_tbl := List.mem_filter.mpr ⟨List.mem_of_getElem? (i := 253) (by decide +kernel), by decide +kernel⟩
theorem lf_X7_251 : zj_fl RX7 251 2 0 .int false := ⟨_, _, _, rfl, by decide, zf_X7_251, by decide +kernel, rfl⟩
theorem zf_X0_197 : Cond.fieldLink RX0 197 "BenchComposer$Found" "a" "I" ∈ zj_tbl := List.mem_filter.mpr ⟨List.mem_of_getElem? (i := 254) (by decide +kernel), by decide +kernel⟩
theorem lf_X0_197 : zj_fl RX0 197 2 0 .int false := ⟨_, _, _, rfl, by decide, zf_X0_197, by decide +kernel, rfl⟩
theorem zf_X7_256 : Cond.fieldLink RX7 256 "BenchComposer$Found" "x" "I" ∈ zj_tbl := List.mem_filter.mpr ⟨List.mem_of_getElem? (i := 255) (by decide +kernel), by decide +kernel⟩
theorem lf_X7_256 : zj_fl RX7 256 2 1 .int false := ⟨_, _, _, rfl, by decide, zf_X7_256, by decide +kernel, rfl⟩
theorem zf_X0_200 : Cond.fieldLink RX0 200 "BenchComposer$Found" "x" "I" ∈ zj_tbl := List.mem_filter.mpr ⟨List.mem_of_getElem? (i := 256) (by decide +kernel), by decide +kernel⟩
theorem lf_X0_200 : zj_fl RX0 200 2 1 .int false := ⟨_, _, _, rfl, by decide, zf_X0_200, by decide +kernel, rfl⟩
theorem zf_X7_259 : Cond.fieldLink RX7 259 "BenchComposer$Found" "b" "I" ∈ zj_tbl := List.mem_filter.mpr ⟨List.mem_of_getElem? (i := 257) (by decide +kernel), by decide +kernel⟩
theorem lf_X7_259 : zj_fl RX7 259 2 2 .int false := ⟨_, _, _, rfl, by decide, zf_X7_259, by decide +kernel, rfl⟩
theorem zf_X0_203 : Cond.fieldLink RX0 203 "BenchComposer$Found" "b" "I" ∈ zj_tbl := List.mem_filter.mpr ⟨List.mem_of_getElem? (i := 258) (by decide +kernel), by decide +kernel⟩
theorem lf_X0_203 : zj_fl RX0 203 2 2 .int false := ⟨_, _, _, rfl, by decide, zf_X0_203, by decide +kernel, rfl⟩
theorem zf_X7_262 : Cond.fieldLink RX7 262 "BenchComposer$Found" "y" "I" ∈ zj_tbl := List.mem_filter.mpr ⟨List.mem_of_getElem? (i := 259) (by decide +kernel), by decide +kernel⟩
theorem lf_X7_262 : zj_fl RX7 262 2 3 .int false := ⟨_, _, _, rfl, by decide, zf_X7_262, by decide +kernel, rfl⟩
theorem zf_X0_206 : Cond.fieldLink RX0 206 "BenchComposer$Found" "y" "I" ∈ zj_tbl := List.mem_filter.mpr ⟨List.mem_of_getElem? (i := 260) (by decide +kernel), by decide +kernel⟩
theorem lf_X0_206 : zj_fl RX0 206 2 3 .int false := ⟨_, _, _, rfl, by decide, zf_X0_206, by decide +kernel, rfl⟩
theorem zf_X7_265 : Cond.fieldLink RX7 265 "BenchComposer$Found" "gain" "I" ∈ zj_tbl := List.mem_filter.mpr ⟨List.mem_of_getElem? (i := 261) (by decide +kernel), by decide +kernel⟩
theorem lf_X7_265 : zj_fl RX7 265 2 4 .int false := ⟨_, _, _, rfl, by decide, zf_X7_265, by decide +kernel, rfl⟩
theorem zf_X0_209 : Cond.fieldLink RX0 209 "BenchComposer$Found" "gain" "I" ∈ zj_tbl := List.mem_filter.mpr ⟨List.mem_of_getElem? (i := 262) (by decide +kernel), by decide +kernel⟩
theorem lf_X0_209 : zj_fl RX0 209 2 4 .int false := ⟨_, _, _, rfl, by decide, zf_X0_209, by decide +kernel, rfl⟩
theorem zf_X0_9 : Cond.fieldLink RX0 9 "BenchComposer$Court" "told" "LBenchComposer$Told;" ∈ zj_tbl := List.mem_filter.mpr ⟨List.mem_of_getElem? (i := 274) (by decide +kernel), by decide +kernel⟩
theorem lf_X0_9 : zj_fl RX0 9 0 0 (.object "BenchComposer$Told") true := ⟨_, _, _, rfl, by decide, zf_X0_9, by decide +kernel, rfl⟩
theorem zf_X0_18 : Cond.fieldLink RX0 18 "BenchComposer$Court" "docket" "LBenchComposer$Docket;" ∈ zj_tbl := List.mem_filter.mpr ⟨List.mem_of_getElem? (i := 275) (by decide +kernel), by decide +kernel⟩
theorem lf_X0_18 : zj_fl RX0 18 0 1 (.object "BenchComposer$Docket") true := ⟨_, _, _, rfl, by decide, zf_X0_18, by decide +kernel, rfl⟩
theorem zf_X7_97 : Cond.fieldLink RX7 97 "BenchComposer$Court" "docket" "LBenchComposer$Docket;" ∈ zj_tbl := List.mem_filter.mpr ⟨List.mem_of_getElem? (i := 276) (by decide +kernel), by decide +kernel⟩
theorem lf_X7_97 : zj_fl RX7 97 0 1 (.object "BenchComposer$Docket") true := ⟨_, _, _, rfl, by decide, zf_X7_97, by decide +kernel, rfl⟩
theorem zf_X0_25 : Cond.fieldLink RX0 25 "BenchComposer$Court" "found" "LBenchComposer$Found;" ∈ zj_tbl := List.mem_filter.mpr ⟨List.mem_of_getElem? (i := 277) (by decide +kernel), by decide +kernel⟩
theorem lf_X0_25 : zj_fl RX0 25 0 2 (.object "BenchComposer$Found") true := ⟨_, _, _, rfl, by decide, zf_X0_25, by decide +kernel, rfl⟩
theorem zf_X7_247 : Cond.fieldLink RX7 247 "BenchComposer$Court" "found" "LBenchComposer$Found;" ∈ zj_tbl := List.mem_filter.mpr ⟨List.mem_of_getElem? (i := 278) (by decide +kernel), by decide +kernel⟩
theorem lf_X7_247 : zj_fl RX7 247 0 2 (.object "BenchComposer$Found") true := ⟨_, _, _, rfl, by decide, zf_X7_247, by decide +kernel, rfl⟩
theorem zf_X0_29 : Cond.fieldLink RX0 29 "BenchComposer$Court" "pairs" "[I" ∈ zj_tbl := List.mem_filter.mpr ⟨List.mem_of_getElem? (i := 279) (by decide +kernel), by decide +kernel⟩
theorem lf_X0_29 : zj_fl RX0 29 0 3 (.array .int) true := ⟨_, _, _, rfl, by decide, zf_X0_29, by decide +kernel, rfl⟩
theorem zf_X7_174 : Cond.fieldLink RX7 174 "BenchComposer$Court" "pairs" "[I" ∈ zj_tbl := List.mem_filter.mpr ⟨List.mem_of_getElem? (i := 280) (by decide +kernel), by decide +kernel⟩
theorem lf_X7_174 : zj_fl RX7 174 0 3 (.array .int) true := ⟨_, _, _, rfl, by decide, zf_X7_174, by decide +kernel, rfl⟩
theorem zf_X0_33 : Cond.fieldLink RX0 33 "BenchComposer$Court" "loads" "[I" ∈ zj_tbl := List.mem_filter.mpr ⟨List.mem_of_getElem? (i := 281) (by decide +kernel), by decide +kernel⟩
theorem lf_X0_33 : zj_fl RX0 33 0 4 (.array .int) true := ⟨_, _, _, rfl, by decide, zf_X0_33, by decide +kernel, rfl⟩
theorem zf_X7_138 : Cond.fieldLink RX7 138 "BenchComposer$Court" "loads" "[I" ∈ zj_tbl := List.mem_filter.mpr ⟨List.mem_of_getElem? (i := 282) (by decide +kernel), by decide +kernel⟩
theorem lf_X7_138 : zj_fl RX7 138 0 4 (.array .int) true := ⟨_, _, _, rfl, by decide, zf_X7_138, by decide +kernel, rfl⟩
theorem zf_X0_36 : Cond.fieldLink RX0 36 "BenchComposer$Court" "benches" "[I" ∈ zj_tbl := List.mem_filter.mpr ⟨List.mem_of_getElem? (i := 283) (by decide +kernel), by decide +kernel⟩
theorem lf_X0_36 : zj_fl RX0 36 0 5 (.array .int) true := ⟨_, _, _, rfl, by decide, zf_X0_36, by decide +kernel, rfl⟩
theorem zf_X7_193 : Cond.fieldLink RX7 193 "BenchComposer$Court" "benches" "[I" ∈ zj_tbl := List.mem_filter.mpr ⟨List.mem_of_getElem? (i := 284) (by decide +kernel), by decide +kernel⟩
theorem lf_X7_193 : zj_fl RX7 193 0 5 (.array .int) true := ⟨_, _, _, rfl, by decide, zf_X7_193, by decide +kernel, rfl⟩
theorem zf_X0_39 : Cond.fieldLink RX0 39 "BenchComposer$Court" "tensions" "[I" ∈ zj_tbl := List.mem_filter.mpr ⟨List.mem_of_getElem? (i := 285) (by decide +kernel), by decide +kernel⟩
theorem lf_X0_39 : zj_fl RX0 39 0 6 (.array .int) true := ⟨_, _, _, rfl, by decide, zf_X0_39, by decide +kernel, rfl⟩
theorem zf_X7_190 : Cond.fieldLink RX7 190 "BenchComposer$Court" "listed" "I" ∈ zj_tbl := List.mem_filter.mpr ⟨List.mem_of_getElem? (i := 286) (by decide +kernel), by decide +kernel⟩
theorem lf_X7_190 : zj_fl RX7 190 0 7 .int false := ⟨_, _, _, rfl, by decide, zf_X7_190, by decide +kernel, rfl⟩
theorem zf_X0_122 : Cond.fieldLink RX0 122 "BenchComposer$Court" "listed" "I" ∈ zj_tbl := List.mem_filter.mpr ⟨List.mem_of_getElem? (i := 287) (by decide +kernel), by decide +kernel⟩
theorem lf_X0_122 : zj_fl RX0 122 0 7 .int false := ⟨_, _, _, rfl, by decide, zf_X0_122, by decide +kernel, rfl⟩
theorem zf_X7_208 : Cond.fieldLink RX7 208 "BenchComposer$Court" "pooled" "I" ∈ zj_tbl := List.mem_filter.mpr ⟨List.mem_of_getElem? (i := 288) (by decide +kernel), by decide +kernel⟩
theorem lf_X7_208 : zj_fl RX7 208 0 8 .int false := ⟨_, _, _, rfl, by decide, zf_X7_208, by decide +kernel, rfl⟩
theorem zf_X0_141 : Cond.fieldLink RX0 141 "BenchComposer$Court" "pooled" "I" ∈ zj_tbl := List.mem_filter.mpr ⟨List.mem_of_getElem? (i := 289) (by decide +kernel), by decide +kernel⟩
theorem lf_X0_141 : zj_fl RX0 141 0 8 .int false := ⟨_, _, _, rfl, by decide, zf_X0_141, by decide +kernel, rfl⟩
theorem zf_X7_214 : Cond.fieldLink RX7 214 "BenchComposer$Court" "poolWorst" "I" ∈ zj_tbl := List.mem_filter.mpr ⟨List.mem_of_getElem? (i := 290) (by decide +kernel), by decide +kernel⟩
theorem lf_X7_214 : zj_fl RX7 214 0 9 .int false := ⟨_, _, _, rfl, by decide, zf_X7_214, by decide +kernel, rfl⟩
theorem zf_X0_144 : Cond.fieldLink RX0 144 "BenchComposer$Court" "poolWorst" "I" ∈ zj_tbl := List.mem_filter.mpr ⟨List.mem_of_getElem? (i := 291) (by decide +kernel), by decide +kernel⟩
theorem lf_X0_144 : zj_fl RX0 144 0 9 .int false := ⟨_, _, _, rfl, by decide, zf_X0_144, by decide +kernel, rfl⟩
theorem zf_X3_13 : Cond.fieldLink RX3 13 "BenchComposer$History" "rows" "[LBenchComposer$Docket;" ∈ zj_tbl := List.mem_filter.mpr ⟨List.mem_of_getElem? (i := 322) (by decide +kernel), by decide +kernel⟩
theorem lf_X3_13 : zj_fl RX3 13 3 0 (.array (.object "BenchComposer$Docket")) true := ⟨_, _, _, rfl, by decide, zf_X3_13, by decide +kernel, rfl⟩
theorem zf_X3_18 : Cond.fieldLink RX3 18 "BenchComposer$History" "next" "I" ∈ zj_tbl := List.mem_filter.mpr ⟨List.mem_of_getElem? (i := 323) (by decide +kernel), by decide +kernel⟩
theorem lf_X3_18 : zj_fl RX3 18 3 1 .int false := ⟨_, _, _, rfl, by decide, zf_X3_18, by decide +kernel, rfl⟩
theorem zf_X3_22 : Cond.fieldLink RX3 22 "BenchComposer$History" "count" "I" ∈ zj_tbl := List.mem_filter.mpr ⟨List.mem_of_getElem? (i := 324) (by decide +kernel), by decide +kernel⟩
theorem lf_X3_22 : zj_fl RX3 22 3 2 .int false := ⟨_, _, _, rfl, by decide, zf_X3_22, by decide +kernel, rfl⟩
theorem zf_X7_110 : Cond.fieldLink RX7 110 "BenchComposer$History" "count" "I" ∈ zj_tbl := List.mem_filter.mpr ⟨List.mem_of_getElem? (i := 325) (by decide +kernel), by decide +kernel⟩
theorem lf_X7_110 : zj_fl RX7 110 3 2 .int false := ⟨_, _, _, rfl, by decide, zf_X7_110, by decide +kernel, rfl⟩
theorem zf_X7_10 : Cond.fieldLink RX7 10 "BenchComposer" "tape" "LBenchComposer$Tape;" ∈ zj_tbl := List.mem_filter.mpr ⟨List.mem_of_getElem? (i := 333) (by decide +kernel), by decide +kernel⟩
theorem lf_X7_10 : zj_fl RX7 10 7 0 (.object "BenchComposer$Tape") true := ⟨_, _, _, rfl, by decide, zf_X7_10, by decide +kernel, rfl⟩
theorem zf_X7_21 : Cond.fieldLink RX7 21 "BenchComposer" "reader" "LBenchComposer$Reader;" ∈ zj_tbl := List.mem_filter.mpr ⟨List.mem_of_getElem? (i := 334) (by decide +kernel), by decide +kernel⟩
theorem lf_X7_21 : zj_fl RX7 21 7 1 (.object "BenchComposer$Reader") true := ⟨_, _, _, rfl, by decide, zf_X7_21, by decide +kernel, rfl⟩
theorem zf_X7_28 : Cond.fieldLink RX7 28 "BenchComposer" "told" "LBenchComposer$Told;" ∈ zj_tbl := List.mem_filter.mpr ⟨List.mem_of_getElem? (i := 335) (by decide +kernel), by decide +kernel⟩
theorem lf_X7_28 : zj_fl RX7 28 7 2 (.object "BenchComposer$Told") true := ⟨_, _, _, rfl, by decide, zf_X7_28, by decide +kernel, rfl⟩
theorem zf_X7_37 : Cond.fieldLink RX7 37 "BenchComposer" "court" "LBenchComposer$Court;" ∈ zj_tbl := List.mem_filter.mpr ⟨List.mem_of_getElem? (i := 336) (by decide +kernel), by decide +kernel⟩
theorem lf_X7_37 : zj_fl RX7 37 7 3 (.object "BenchComposer$Court") true := ⟨_, _, _, rfl, by decide, zf_X7_37, by decide +kernel, rfl⟩
theorem zf_X7_41 : Cond.fieldLink RX7 41 "BenchComposer" "drawnAnew" "LBenchComposer$Court;" ∈ zj_tbl := List.mem_filter.mpr ⟨List.mem_of_getElem? (i := 337) (by decide +kernel), by decide +kernel⟩
theorem lf_X7_41 : zj_fl RX7 41 7 4 (.object "BenchComposer$Court") true := ⟨_, _, _, rfl, by decide, zf_X7_41, by decide +kernel, rfl⟩
theorem zf_X7_47 : Cond.fieldLink RX7 47 "BenchComposer" "history" "LBenchComposer$History;" ∈ zj_tbl := List.mem_filter.mpr ⟨List.mem_of_getElem? (i := 338) (by decide +kernel), by decide +kernel⟩
theorem lf_X7_47 : zj_fl RX7 47 7 5 (.object "BenchComposer$History") true := ⟨_, _, _, rfl, by decide, zf_X7_47, by decide +kernel, rfl⟩
theorem zf_X7_51 : Cond.fieldLink RX7 51 "BenchComposer" "latestFault" "I" ∈ zj_tbl := List.mem_filter.mpr ⟨List.mem_of_getElem? (i := 339) (by decide +kernel), by decide +kernel⟩
theorem lf_X7_51 : zj_fl RX7 51 7 6 .int false := ⟨_, _, _, rfl, by decide, zf_X7_51, by decide +kernel, rfl⟩
theorem zf_X8_1 : Cond.fieldLink RX8 1 "BenchComposerModel" "thrown" "I" ∈ zj_tbl := List.mem_filter.mpr ⟨List.mem_of_getElem? (i := 909) (by decide +kernel), by decide +kernel⟩
theorem lf_X8_1 : zj_fl RX8 1 8 0 .int false := ⟨_, _, _, rfl, by decide, zf_X8_1, by decide +kernel, rfl⟩
theorem zf_X8_7 : Cond.fieldLink RX8 7 "BenchComposerModel" "tape" "[I" ∈ zj_tbl := List.mem_filter.mpr ⟨List.mem_of_getElem? (i := 910) (by decide +kernel), by decide +kernel⟩
theorem lf_X8_7 : zj_fl RX8 7 8 1 (.array .int) true := ⟨_, _, _, rfl, by decide, zf_X8_7, by decide +kernel, rfl⟩
theorem zf_X8_11 : Cond.fieldLink RX8 11 "BenchComposerModel" "taped" "I" ∈ zj_tbl := List.mem_filter.mpr ⟨List.mem_of_getElem? (i := 911) (by decide +kernel), by decide +kernel⟩
theorem lf_X8_11 : zj_fl RX8 11 8 2 .int false := ⟨_, _, _, rfl, by decide, zf_X8_11, by decide +kernel, rfl⟩
theorem zf_X8_18 : Cond.fieldLink RX8 18 "BenchComposerModel" "size" "I" ∈ zj_tbl := List.mem_filter.mpr ⟨List.mem_of_getElem? (i := 912) (by decide +kernel), by decide +kernel⟩
theorem lf_X8_18 : zj_fl RX8 18 8 3 .int false := ⟨_, _, _, rfl, by decide, zf_X8_18, by decide +kernel, rfl⟩
theorem zf_X8_21 : Cond.fieldLink RX8 21 "BenchComposerModel" "to" "I" ∈ zj_tbl := List.mem_filter.mpr ⟨List.mem_of_getElem? (i := 913) (by decide +kernel), by decide +kernel⟩
theorem lf_X8_21 : zj_fl RX8 21 8 4 .int false := ⟨_, _, _, rfl, by decide, zf_X8_21, by decide +kernel, rfl⟩
theorem zf_X8_24 : Cond.fieldLink RX8 24 "BenchComposerModel" "from" "I" ∈ zj_tbl := List.mem_filter.mpr ⟨List.mem_of_getElem? (i := 914) (by decide +kernel), by decide +kernel⟩
theorem lf_X8_24 : zj_fl RX8 24 8 5 .int false := ⟨_, _, _, rfl, by decide, zf_X8_24, by decide +kernel, rfl⟩
theorem zf_X8_27 : Cond.fieldLink RX8 27 "BenchComposerModel" "sort" "I" ∈ zj_tbl := List.mem_filter.mpr ⟨List.mem_of_getElem? (i := 915) (by decide +kernel), by decide +kernel⟩
theorem lf_X8_27 : zj_fl RX8 27 8 6 .int false := ⟨_, _, _, rfl, by decide, zf_X8_27, by decide +kernel, rfl⟩
theorem zf_X8_41 : Cond.fieldLink RX8 41 "BenchComposerModel" "number" "I" ∈ zj_tbl := List.mem_filter.mpr ⟨List.mem_of_getElem? (i := 916) (by decide +kernel), by decide +kernel⟩
theorem lf_X8_41 : zj_fl RX8 41 8 7 .int false := ⟨_, _, _, rfl, by decide, zf_X8_41, by decide +kernel, rfl⟩
theorem zf_X8_52 : Cond.fieldLink RX8 52 "BenchComposerModel" "fault" "I" ∈ zj_tbl := List.mem_filter.mpr ⟨List.mem_of_getElem? (i := 917) (by decide +kernel), by decide +kernel⟩
theorem lf_X8_52 : zj_fl RX8 52 8 8 .int false := ⟨_, _, _, rfl, by decide, zf_X8_52, by decide +kernel, rfl⟩
theorem zf_X8_55 : Cond.fieldLink RX8 55 "BenchComposerModel" "place" "I" ∈ zj_tbl := List.mem_filter.mpr ⟨List.mem_of_getElem? (i := 918) (by decide +kernel), by decide +kernel⟩
theorem lf_X8_55 : zj_fl RX8 55 8 9 .int false := ⟨_, _, _, rfl, by decide, zf_X8_55, by decide +kernel, rfl⟩
theorem zf_X8_37 : Cond.fieldLink RX8 37 "BenchComposerModel" "word" "J" ∈ zj_tbl := List.mem_filter.mpr ⟨List.mem_of_getElem? (i := 919) (by decide +kernel), by decide +kernel⟩
theorem lf_X8_37 : zj_fl RX8 37 8 10 .long false := ⟨_, _, _, rfl, by decide, zf_X8_37, by decide +kernel, rfl⟩
theorem zf_X8_64 : Cond.fieldLink RX8 64 "BenchComposerModel" "now" "[I" ∈ zj_tbl := List.mem_filter.mpr ⟨List.mem_of_getElem? (i := 920) (by decide +kernel), by decide +kernel⟩
theorem lf_X8_64 : zj_fl RX8 64 8 11 (.array .int) true := ⟨_, _, _, rfl, by decide, zf_X8_64, by decide +kernel, rfl⟩
theorem zf_X8_67 : Cond.fieldLink RX8 67 "BenchComposerModel" "read" "[I" ∈ zj_tbl := List.mem_filter.mpr ⟨List.mem_of_getElem? (i := 921) (by decide +kernel), by decide +kernel⟩
theorem lf_X8_67 : zj_fl RX8 67 8 12 (.array .int) true := ⟨_, _, _, rfl, by decide, zf_X8_67, by decide +kernel, rfl⟩
theorem zf_X8_70 : Cond.fieldLink RX8 70 "BenchComposerModel" "fresh" "[I" ∈ zj_tbl := List.mem_filter.mpr ⟨List.mem_of_getElem? (i := 922) (by decide +kernel), by decide +kernel⟩
theorem lf_X8_70 : zj_fl RX8 70 8 13 (.array .int) true := ⟨_, _, _, rfl, by decide, zf_X8_70, by decide +kernel, rfl⟩
theorem zf_X8_73 : Cond.fieldLink RX8 73 "BenchComposerModel" "snaps" "[I" ∈ zj_tbl := List.mem_filter.mpr ⟨List.mem_of_getElem? (i := 923) (by decide +kernel), by decide +kernel⟩
theorem lf_X8_73 : zj_fl RX8 73 8 14 (.array .int) true := ⟨_, _, _, rfl, by decide, zf_X8_73, by decide +kernel, rfl⟩
theorem zf_X8_76 : Cond.fieldLink RX8 76 "BenchComposerModel" "before" "[I" ∈ zj_tbl := List.mem_filter.mpr ⟨List.mem_of_getElem? (i := 924) (by decide +kernel), by decide +kernel⟩
theorem lf_X8_76 : zj_fl RX8 76 8 15 (.array .int) true := ⟨_, _, _, rfl, by decide, zf_X8_76, by decide +kernel, rfl⟩
theorem zf_X8_79 : Cond.fieldLink RX8 79 "BenchComposerModel" "live" "[I" ∈ zj_tbl := List.mem_filter.mpr ⟨List.mem_of_getElem? (i := 925) (by decide +kernel), by decide +kernel⟩
theorem lf_X8_79 : zj_fl RX8 79 8 16 (.array .int) true := ⟨_, _, _, rfl, by decide, zf_X8_79, by decide +kernel, rfl⟩
theorem zf_X8_129 : Cond.fieldLink RX8 129 "BenchComposerModel" "snapMany" "I" ∈ zj_tbl := List.mem_filter.mpr ⟨List.mem_of_getElem? (i := 926) (by decide +kernel), by decide +kernel⟩
theorem lf_X8_129 : zj_fl RX8 129 8 17 .int false := ⟨_, _, _, rfl, by decide, zf_X8_129, by decide +kernel, rfl⟩
theorem zf_X8_82 : Cond.fieldLink RX8 82 "BenchComposerModel" "benches" "[I" ∈ zj_tbl := List.mem_filter.mpr ⟨List.mem_of_getElem? (i := 927) (by decide +kernel), by decide +kernel⟩
theorem lf_X8_82 : zj_fl RX8 82 8 18 (.array .int) true := ⟨_, _, _, rfl, by decide, zf_X8_82, by decide +kernel, rfl⟩
theorem zf_X8_85 : Cond.fieldLink RX8 85 "BenchComposerModel" "pools" "[I" ∈ zj_tbl := List.mem_filter.mpr ⟨List.mem_of_getElem? (i := 928) (by decide +kernel), by decide +kernel⟩
theorem lf_X8_85 : zj_fl RX8 85 8 19 (.array .int) true := ⟨_, _, _, rfl, by decide, zf_X8_85, by decide +kernel, rfl⟩
theorem zf_X8_167 : Cond.fieldLink RX8 167 "BenchComposerModel" "benchMany" "I" ∈ zj_tbl := List.mem_filter.mpr ⟨List.mem_of_getElem? (i := 929) (by decide +kernel), by decide +kernel⟩
theorem lf_X8_167 : zj_fl RX8 167 8 20 .int false := ⟨_, _, _, rfl, by decide, zf_X8_167, by decide +kernel, rfl⟩
theorem zf_X8_178 : Cond.fieldLink RX8 178 "BenchComposerModel" "poolMany" "I" ∈ zj_tbl := List.mem_filter.mpr ⟨List.mem_of_getElem? (i := 930) (by decide +kernel), by decide +kernel⟩
theorem lf_X8_178 : zj_fl RX8 178 8 21 .int false := ⟨_, _, _, rfl, by decide, zf_X8_178, by decide +kernel, rfl⟩
theorem zf_X8_181 : Cond.fieldLink RX8 181 "BenchComposerModel" "poolWorst" "I" ∈ zj_tbl := List.mem_filter.mpr ⟨List.mem_of_getElem? (i := 931) (by decide +kernel), by decide +kernel⟩
theorem lf_X8_181 : zj_fl RX8 181 8 22 .int false := ⟨_, _, _, rfl, by decide, zf_X8_181, by decide +kernel, rfl⟩
theorem zf_X8_225 : Cond.fieldLink RX8 225 "BenchComposerModel" "betterA" "I" ∈ zj_tbl := List.mem_filter.mpr ⟨List.mem_of_getElem? (i := 932) (by decide +kernel), by decide +kernel⟩
theorem lf_X8_225 : zj_fl RX8 225 8 23 .int false := ⟨_, _, _, rfl, by decide, zf_X8_225, by decide +kernel, rfl⟩
theorem zf_X8_228 : Cond.fieldLink RX8 228 "BenchComposerModel" "betterX" "I" ∈ zj_tbl := List.mem_filter.mpr ⟨List.mem_of_getElem? (i := 933) (by decide +kernel), by decide +kernel⟩
theorem lf_X8_228 : zj_fl RX8 228 8 24 .int false := ⟨_, _, _, rfl, by decide, zf_X8_228, by decide +kernel, rfl⟩
theorem zf_X8_231 : Cond.fieldLink RX8 231 "BenchComposerModel" "betterB" "I" ∈ zj_tbl := List.mem_filter.mpr ⟨List.mem_of_getElem? (i := 934) (by decide +kernel), by decide +kernel⟩
theorem lf_X8_231 : zj_fl RX8 231 8 25 .int false := ⟨_, _, _, rfl, by decide, zf_X8_231, by decide +kernel, rfl⟩
theorem zf_X8_234 : Cond.fieldLink RX8 234 "BenchComposerModel" "betterY" "I" ∈ zj_tbl := List.mem_filter.mpr ⟨List.mem_of_getElem? (i := 935) (by decide +kernel), by decide +kernel⟩
theorem lf_X8_234 : zj_fl RX8 234 8 26 .int false := ⟨_, _, _, rfl, by decide, zf_X8_234, by decide +kernel, rfl⟩
theorem zf_X8_222 : Cond.fieldLink RX8 222 "BenchComposerModel" "betterBy" "I" ∈ zj_tbl := List.mem_filter.mpr ⟨List.mem_of_getElem? (i := 936) (by decide +kernel), by decide +kernel⟩
theorem lf_X8_222 : zj_fl RX8 222 8 27 .int false := ⟨_, _, _, rfl, by decide, zf_X8_222, by decide +kernel, rfl⟩
theorem zl_L_22 : Cond.methodLink RL 22 yX7_feed ∈ zj_tbl := List.mem_filter.mpr ⟨List.mem_of_getElem? (i := 355) (by decide +kernel), by decide +kernel⟩
theorem zn_yX7_feed : Cond.instanceMethod yX7_feed ∈ zj_tbl := List.mem_filter.mpr ⟨List.mem_of_getElem? (i := 356) (by decide +kernel), by decide +kernel⟩
theorem zv_yX7_feed : Cond.selects RX7 yX7_feed yX7_feed ∈ zj_tbl := List.mem_filter.mpr ⟨List.mem_of_getElem? (i := 357) (by decide +kernel), by decide +kernel⟩
theorem lm_L_22 : zj_vl RL 22 7 yX7_feed cX7_feed 6 (some .int) 5 := ⟨zw_yX7_feed, zl_L_22, zn_yX7_feed, _, rfl, zv_yX7_feed⟩
theorem zl_X7_58 : Cond.methodLink RX7 58 yX5_put ∈ zj_tbl := List.mem_filter.mpr ⟨List.mem_of_getElem? (i := 359) (by decide +kernel), by decide +kernel⟩
theorem zn_yX5_put : Cond.instanceMethod yX5_put ∈ zj_tbl := List.mem_filter.mpr ⟨List.mem_of_getElem? (i := 360) (by decide +kernel), by decide +kernel⟩
theorem zv_yX5_put : Cond.selects RX5 yX5_put yX5_put ∈ zj_tbl := List.mem_filter.mpr ⟨List.mem_of_getElem? (i := 361) (by decide +kernel), by decide +kernel⟩
theorem lm_X7_58 : zj_vl RX7 58 5 yX5_put cX5_put 3 none 1 := ⟨zw_yX5_put, zl_X7_58, zn_yX5_put, _, rfl, zv_yX5_put⟩
theorem zl_L_27 : Cond.methodLink RL 27 yX7_end ∈ zj_tbl := List.mem_filter.mpr ⟨List.mem_of_getElem? (i := 363) (by decide +kernel), by decide +kernel⟩
theorem zn_yX7_end : Cond.instanceMethod yX7_end ∈ zj_tbl := List.mem_filter.mpr ⟨List.mem_of_getElem? (i := 364) (by decide +kernel), by decide +kernel⟩
theorem zv_yX7_end : Cond.selects RX7 yX7_end yX7_end ∈ zj_tbl := List.mem_filter.mpr ⟨List.mem_of_getElem? (i := 365) (by decide +kernel), by decide +kernel⟩
theorem lm_L_27 : zj_vl RL 27 7 yX7_end cX7_end 2 (some .boolean) 1 := ⟨zw_yX7_end, zl_L_27, zn_yX7_end, _, rfl, zv_yX7_end⟩
theorem zl_L_32 : Cond.methodLink RL 32 yX7_text ∈ zj_tbl := List.mem_filter.mpr ⟨List.mem_of_getElem? (i := 367) (by decide +kernel), by decide +kernel⟩
theorem zn_yX7_text : Cond.instanceMethod yX7_text ∈ zj_tbl := List.mem_filter.mpr ⟨List.mem_of_getElem? (i := 368) (by decide +kernel), by decide +kernel⟩
theorem zv_yX7_text : Cond.selects RX7 yX7_text yX7_text ∈ zj_tbl := List.mem_filter.mpr ⟨List.mem_of_getElem? (i := 369) (by decide +kernel), by decide +kernel⟩
theorem lm_L_32 : zj_vl RL 32 7 yX7_text cX7_text 2 (some .int) 0 := ⟨zw_yX7_text, zl_L_32, zn_yX7_text, _, rfl, zv_yX7_text⟩
theorem zl_X7_62 : Cond.methodLink RX7 62 yX4_read ∈ zj_tbl := List.mem_filter.mpr ⟨List.mem_of_getElem? (i := 371) (by decide +kernel), by decide +kernel⟩
theorem zn_yX4_read : Cond.instanceMethod yX4_read ∈ zj_tbl := List.mem_filter.mpr ⟨List.mem_of_getElem? (i := 372) (by decide +kernel), by decide +kernel⟩
theorem zv_yX4_read : Cond.selects RX4 yX4_read yX4_read ∈ zj_tbl := List.mem_filter.mpr ⟨List.mem_of_getElem? (i := 373) (by decide +kernel), by decide +kernel⟩
theorem lm_X7_62 : zj_vl RX7 62 4 yX4_read cX4_read 2 (some .boolean) 0 := ⟨zw_yX4_read, zl_X7_62, zn_yX4_read, _, rfl, zv_yX4_read⟩
theorem zl_X4_22 : Cond.methodLink RX4 22 yX6_clear ∈ zj_tbl := List.mem_filter.mpr ⟨List.mem_of_getElem? (i := 375) (by decide +kernel), by decide +kernel⟩
theorem zn_yX6_clear : Cond.instanceMethod yX6_clear ∈ zj_tbl := List.mem_filter.mpr ⟨List.mem_of_getElem? (i := 376) (by decide +kernel), by decide +kernel⟩
theorem zv_yX6_clear : Cond.selects RX6 yX6_clear yX6_clear ∈ zj_tbl := List.mem_filter.mpr ⟨List.mem_of_getElem? (i := 377) (by decide +kernel), by decide +kernel⟩
theorem lm_X4_22 : zj_vl RX4 22 6 yX6_clear cX6_clear 1 none 0 := ⟨zw_yX6_clear, zl_X4_22, zn_yX6_clear, _, rfl, zv_yX6_clear⟩
theorem zl_X4_39 : Cond.methodLink RX4 39 yX4_step ∈ zj_tbl := List.mem_filter.mpr ⟨List.mem_of_getElem? (i := 379) (by decide +kernel), by decide +kernel⟩
theorem zn_yX4_step : Cond.instanceMethod yX4_step ∈ zj_tbl := List.mem_filter.mpr ⟨List.mem_of_getElem? (i := 381) (by decide +kernel), by decide +kernel⟩
theorem zv_yX4_step : Cond.selects RX4 yX4_step yX4_step ∈ zj_tbl := List.mem_filter.mpr ⟨List.mem_of_getElem? (i := 0) (by decide +kernel), by decide +kernel⟩
theorem lm_X4_39 : zj_vl RX4 39 4 yX4_step cX4_step 3 none 0 := ⟨zw_yX4_step, zl_X4_39, zn_yX4_step, _, rfl, zv_yX4_step⟩
theorem zl_X4_150 : Cond.methodLink RX4 150 yX4_isBlank ∈ zj_tbl := List.mem_filter.mpr ⟨List.mem_of_getElem? (i := 383) (by decide +kernel), by decide +kernel⟩
theorem zs_yX4_isBlank : Cond.static yX4_isBlank ∈ zj_tbl := List.mem_filter.mpr ⟨List.mem_of_getElem? (i := 384) (by decide +kernel), by decide +kernel⟩
theorem lm_X4_150 : zj_sl RX4 150 yX4_isBlank cX4_isBlank 1 (some .boolean) 1 := ⟨zw_yX4_isBlank, zl_X4_150, zs_yX4_isBlank⟩
theorem zl_X4_153 : Cond.methodLink RX4 153 yJ9_min_7cf53 ∈ zj_tbl := List.mem_filter.mpr ⟨List.mem_of_getElem? (i := 386) (by decide +kernel), by decide +kernel⟩
theorem zs_yJ9_min_7cf53 : Cond.static yJ9_min_7cf53 ∈ zj_tbl := List.mem_filter.mpr ⟨List.mem_of_getElem? (i := 387) (by decide +kernel), by decide +kernel⟩
theorem lm_X4_153 : zj_sl RX4 153 yJ9_min_7cf53 cJ9_min_7cf53 2 (some .int) 2 := ⟨zw_yJ9_min_7cf53, zl_X4_153, zs_yJ9_min_7cf53⟩
theorem zl_X4_158 : Cond.methodLink RX4 158 yX4_isSmallOrDigit ∈ zj_tbl := List.mem_filter.mpr ⟨List.mem_of_getElem? (i := 389) (by decide +kernel), by decide +kernel⟩
theorem zs_yX4_isSmallOrDigit : Cond.static yX4_isSmallOrDigit ∈ zj_tbl := List.mem_filter.mpr ⟨List.mem_of_getElem? (i := 390) (by decide +kernel), by decide +kernel⟩
theorem lm_X4_158 : zj_sl RX4 158 yX4_isSmallOrDigit cX4_isSmallOrDigit 1 (some .boolean) 1 := ⟨zw_yX4_isSmallOrDigit, zl_X4_158, zs_yX4_isSmallOrDigit⟩
theorem zl_X4_45 : Cond.methodLink RX4 45 yX4_readLine ∈ zj_tbl := List.mem_filter.mpr ⟨List.mem_of_getElem? (i := 392) (by decide +kernel), by decide +kernel⟩
theorem zn_yX4_readLine : Cond.instanceMethod yX4_readLine ∈ zj_tbl := List.mem_filter.mpr ⟨List.mem_of_getElem? (i := 394) (by decide +kernel), by decide +kernel⟩
theorem zv_yX4_readLine : Cond.selects RX4 yX4_readLine yX4_readLine ∈ zj_tbl := List.mem_filter.mpr ⟨List.mem_of_getElem? (i := 1) (by decide +kernel), by decide +kernel⟩
theorem lm_X4_45 : zj_vl RX4 45 4 yX4_readLine cX4_readLine 1 none 0 := ⟨zw_yX4_readLine, zl_X4_45, zn_yX4_readLine, _, rfl, zv_yX4_readLine⟩
theorem zl_X4_53 : Cond.methodLink RX4 53 yX4_readCourt ∈ zj_tbl := List.mem_filter.mpr ⟨List.mem_of_getElem? (i := 396) (by decide +kernel), by decide +kernel⟩
theorem zn_yX4_readCourt : Cond.instanceMethod yX4_readCourt ∈ zj_tbl := List.mem_filter.mpr ⟨List.mem_of_getElem? (i := 398) (by decide +kernel), by decide +kernel⟩
theorem zv_yX4_readCourt : Cond.selects RX4 yX4_readCourt yX4_readCourt ∈ zj_tbl := List.mem_filter.mpr ⟨List.mem_of_getElem? (i := 2) (by decide +kernel), by decide +kernel⟩
theorem lm_X4_53 : zj_vl RX4 53 4 yX4_readCourt cX4_readCourt 1 none 0 := ⟨zw_yX4_readCourt, zl_X4_53, zn_yX4_readCourt, _, rfl, zv_yX4_readCourt⟩
theorem zl_X4_58 : Cond.methodLink RX4 58 yX4_isWord ∈ zj_tbl := List.mem_filter.mpr ⟨List.mem_of_getElem? (i := 401) (by decide +kernel), by decide +kernel⟩
theorem zn_yX4_isWord : Cond.instanceMethod yX4_isWord ∈ zj_tbl := List.mem_filter.mpr ⟨List.mem_of_getElem? (i := 403) (by decide +kernel), by decide +kernel⟩
theorem zv_yX4_isWord : Cond.selects RX4 yX4_isWord yX4_isWord ∈ zj_tbl := List.mem_filter.mpr ⟨List.mem_of_getElem? (i := 3) (by decide +kernel), by decide +kernel⟩
theorem lm_X4_58 : zj_vl RX4 58 4 yX4_isWord cX4_isWord 3 (some .boolean) 1 := ⟨zw_yX4_isWord, zl_X4_58, zn_yX4_isWord, _, rfl, zv_yX4_isWord⟩
theorem zl_J0_495 : Cond.methodLink RJ0 495 yJ1_charAt_3b067 ∈ zj_tbl := List.mem_filter.mpr ⟨List.mem_of_getElem? (i := 423) (by decide +kernel), by decide +kernel⟩
theorem zs_yJ1_charAt_3b067 : Cond.static yJ1_charAt_3b067 ∈ zj_tbl := List.mem_filter.mpr ⟨List.mem_of_getElem? (i := 424) (by decide +kernel), by decide +kernel⟩
theorem lm_J0_495 : zj_sl RJ0 495 yJ1_charAt_3b067 cJ1_charAt_3b067 2 (some .char) 2 := ⟨zw_yJ1_charAt_3b067, zl_J0_495, zs_yJ1_charAt_3b067⟩
theorem zl_J1_9 : Cond.methodLink RJ1 9 yJ0_checkIndex_df160 ∈ zj_tbl := List.mem_filter.mpr ⟨List.mem_of_getElem? (i := 426) (by decide +kernel), by decide +kernel⟩
theorem zs_yJ0_checkIndex_df160 : Cond.static yJ0_checkIndex_df160 ∈ zj_tbl := List.mem_filter.mpr ⟨List.mem_of_getElem? (i := 427) (by decide +kernel), by decide +kernel⟩
theorem lm_J1_9 : zj_sl RJ1 9 yJ0_checkIndex_df160 cJ0_checkIndex_df160 2 none 2 := ⟨zw_yJ0_checkIndex_df160, zl_J1_9, zs_yJ0_checkIndex_df160⟩
theorem zl_J0_1059 : Cond.methodLink RJ0 1059 yJ3_checkIndex_8e157 ∈ zj_tbl := List.mem_filter.mpr ⟨List.mem_of_getElem? (i := 431) (by decide +kernel), by decide +kernel⟩
theorem zs_yJ3_checkIndex_8e157 : Cond.static yJ3_checkIndex_8e157 ∈ zj_tbl := List.mem_filter.mpr ⟨List.mem_of_getElem? (i := 432) (by decide +kernel), by decide +kernel⟩
theorem lm_J0_1059 : zj_sl RJ0 1059 yJ3_checkIndex_8e157 cJ3_checkIndex_8e157 3 (some .int) 3 := ⟨zw_yJ3_checkIndex_8e157, zl_J0_1059, zs_yJ3_checkIndex_8e157⟩
theorem zl_J0_498 : Cond.methodLink RJ0 498 yJ2_charAt_3b067 ∈ zj_tbl := List.mem_filter.mpr ⟨List.mem_of_getElem? (i := 434) (by decide +kernel), by decide +kernel⟩
theorem zs_yJ2_charAt_3b067 : Cond.static yJ2_charAt_3b067 ∈ zj_tbl := List.mem_filter.mpr ⟨List.mem_of_getElem? (i := 435) (by decide +kernel), by decide +kernel⟩
theorem lm_J0_498 : zj_sl RJ0 498 yJ2_charAt_3b067 cJ2_charAt_3b067 2 (some .char) 2 := ⟨zw_yJ2_charAt_3b067, zl_J0_498, zs_yJ2_charAt_3b067⟩
theorem zl_J2_67 : Cond.methodLink RJ2 67 yJ2_checkIndex_2214a ∈ zj_tbl := List.mem_filter.mpr ⟨List.mem_of_getElem? (i := 437) (by decide +kernel), by decide +kernel⟩
theorem zs_yJ2_checkIndex_2214a : Cond.static yJ2_checkIndex_2214a ∈ zj_tbl := List.mem_filter.mpr ⟨List.mem_of_getElem? (i := 438) (by decide +kernel), by decide +kernel⟩
theorem lm_J2_67 : zj_sl RJ2 67 yJ2_checkIndex_2214a cJ2_checkIndex_2214a 2 none 2 := ⟨zw_yJ2_checkIndex_2214a, zl_J2_67, zs_yJ2_checkIndex_2214a⟩
theorem zl_J2_48 : Cond.methodLink RJ2 48 yJ2_length_9d52b ∈ zj_tbl := List.mem_filter.mpr ⟨List.mem_of_getElem? (i := 440) (by decide +kernel), by decide +kernel⟩
theorem zs_yJ2_length_9d52b : Cond.static yJ2_length_9d52b ∈ zj_tbl := List.mem_filter.mpr ⟨List.mem_of_getElem? (i := 441) (by decide +kernel), by decide +kernel⟩
theorem lm_J2_48 : zj_sl RJ2 48 yJ2_length_9d52b cJ2_length_9d52b 1 (some .int) 1 := ⟨zw_yJ2_length_9d52b, zl_J2_48, zs_yJ2_length_9d52b⟩
theorem zl_J2_414 : Cond.methodLink RJ2 414 yJ0_checkIndex_df160 ∈ zj_tbl := List.mem_filter.mpr ⟨List.mem_of_getElem? (i := 443) (by decide +kernel), by decide +kernel⟩
theorem lm_J2_414 : zj_sl RJ2 414 yJ0_checkIndex_df160 cJ0_checkIndex_df160 2 none 2 := ⟨zw_yJ0_checkIndex_df160, zl_J2_414, zs_yJ0_checkIndex_df160⟩
theorem zl_J2_71 : Cond.methodLink RJ2 71 yJ2_getChar_3b067 ∈ zj_tbl := List.mem_filter.mpr ⟨List.mem_of_getElem? (i := 444) (by decide +kernel), by decide +kernel⟩
theorem zs_yJ2_getChar_3b067 : Cond.static yJ2_getChar_3b067 ∈ zj_tbl := List.mem_filter.mpr ⟨List.mem_of_getElem? (i := 445) (by decide +kernel), by decide +kernel⟩
theorem lm_J2_71 : zj_sl RJ2 71 yJ2_getChar_3b067 cJ2_getChar_3b067 2 (some .char) 2 := ⟨zw_yJ2_getChar_3b067, zl_J2_71, zs_yJ2_getChar_3b067⟩
theorem zl_X4_80 : Cond.methodLink RX4 80 yX4_takeNumber ∈ zj_tbl := List.mem_filter.mpr ⟨List.mem_of_getElem? (i := 453) (by decide +kernel), by decide +kernel⟩
theorem zn_yX4_takeNumber : Cond.instanceMethod yX4_takeNumber ∈ zj_tbl := List.mem_filter.mpr ⟨List.mem_of_getElem? (i := 455) (by decide +kernel), by decide +kernel⟩
theorem zv_yX4_takeNumber : Cond.selects RX4 yX4_takeNumber yX4_takeNumber ∈ zj_tbl := List.mem_filter.mpr ⟨List.mem_of_getElem? (i := 4) (by decide +kernel), by decide +kernel⟩
theorem lm_X4_80 : zj_vl RX4 80 4 yX4_takeNumber cX4_takeNumber 4 (some .int) 2 := ⟨zw_yX4_takeNumber, zl_X4_80, zn_yX4_takeNumber, _, rfl, zv_yX4_takeNumber⟩
theorem zl_X4_62 : Cond.methodLink RX4 62 yX4_readJudge ∈ zj_tbl := List.mem_filter.mpr ⟨List.mem_of_getElem? (i := 458) (by decide +kernel), by decide +kernel⟩
theorem zn_yX4_readJudge : Cond.instanceMethod yX4_readJudge ∈ zj_tbl := List.mem_filter.mpr ⟨List.mem_of_getElem? (i := 460) (by decide +kernel), by decide +kernel⟩
theorem zv_yX4_readJudge : Cond.selects RX4 yX4_readJudge yX4_readJudge ∈ zj_tbl := List.mem_filter.mpr ⟨List.mem_of_getElem? (i := 5) (by decide +kernel), by decide +kernel⟩
theorem lm_X4_62 : zj_vl RX4 62 4 yX4_readJudge cX4_readJudge 1 none 0 := ⟨zw_yX4_readJudge, zl_X4_62, zn_yX4_readJudge, _, rfl, zv_yX4_readJudge⟩
theorem zl_X4_67 : Cond.methodLink RX4 67 yX4_readSenior ∈ zj_tbl := List.mem_filter.mpr ⟨List.mem_of_getElem? (i := 463) (by decide +kernel), by decide +kernel⟩
theorem zn_yX4_readSenior : Cond.instanceMethod yX4_readSenior ∈ zj_tbl := List.mem_filter.mpr ⟨List.mem_of_getElem? (i := 465) (by decide +kernel), by decide +kernel⟩
theorem zv_yX4_readSenior : Cond.selects RX4 yX4_readSenior yX4_readSenior ∈ zj_tbl := List.mem_filter.mpr ⟨List.mem_of_getElem? (i := 6) (by decide +kernel), by decide +kernel⟩
theorem lm_X4_67 : zj_vl RX4 67 4 yX4_readSenior cX4_readSenior 1 none 0 := ⟨zw_yX4_readSenior, zl_X4_67, zn_yX4_readSenior, _, rfl, zv_yX4_readSenior⟩
theorem zl_X4_72 : Cond.methodLink RX4 72 yX4_readCase ∈ zj_tbl := List.mem_filter.mpr ⟨List.mem_of_getElem? (i := 468) (by decide +kernel), by decide +kernel⟩
theorem zn_yX4_readCase : Cond.instanceMethod yX4_readCase ∈ zj_tbl := List.mem_filter.mpr ⟨List.mem_of_getElem? (i := 470) (by decide +kernel), by decide +kernel⟩
theorem zv_yX4_readCase : Cond.selects RX4 yX4_readCase yX4_readCase ∈ zj_tbl := List.mem_filter.mpr ⟨List.mem_of_getElem? (i := 7) (by decide +kernel), by decide +kernel⟩
theorem lm_X4_72 : zj_vl RX4 72 4 yX4_readCase cX4_readCase 2 none 0 := ⟨zw_yX4_readCase, zl_X4_72, zn_yX4_readCase, _, rfl, zv_yX4_readCase⟩
theorem zl_X4_120 : Cond.methodLink RX4 120 yX4_takeBarred ∈ zj_tbl := List.mem_filter.mpr ⟨List.mem_of_getElem? (i := 473) (by decide +kernel), by decide +kernel⟩
theorem zn_yX4_takeBarred : Cond.instanceMethod yX4_takeBarred ∈ zj_tbl := List.mem_filter.mpr ⟨List.mem_of_getElem? (i := 475) (by decide +kernel), by decide +kernel⟩
theorem zv_yX4_takeBarred : Cond.selects RX4 yX4_takeBarred yX4_takeBarred ∈ zj_tbl := List.mem_filter.mpr ⟨List.mem_of_getElem? (i := 8) (by decide +kernel), by decide +kernel⟩
theorem lm_X4_120 : zj_vl RX4 120 4 yX4_takeBarred cX4_takeBarred 3 (some .int) 0 := ⟨zw_yX4_takeBarred, zl_X4_120, zn_yX4_takeBarred, _, rfl, zv_yX4_takeBarred⟩
theorem zl_X4_127 : Cond.methodLink RX4 127 yX6_hasJudge ∈ zj_tbl := List.mem_filter.mpr ⟨List.mem_of_getElem? (i := 477) (by decide +kernel), by decide +kernel⟩
theorem zn_yX6_hasJudge : Cond.instanceMethod yX6_hasJudge ∈ zj_tbl := List.mem_filter.mpr ⟨List.mem_of_getElem? (i := 478) (by decide +kernel), by decide +kernel⟩
theorem zv_yX6_hasJudge : Cond.selects RX6 yX6_hasJudge yX6_hasJudge ∈ zj_tbl := List.mem_filter.mpr ⟨List.mem_of_getElem? (i := 479) (by decide +kernel), by decide +kernel⟩
theorem lm_X4_127 : zj_vl RX4 127 6 yX6_hasJudge cX6_hasJudge 2 (some .boolean) 1 := ⟨zw_yX6_hasJudge, zl_X4_127, zn_yX6_hasJudge, _, rfl, zv_yX6_hasJudge⟩
theorem zs_yX7_has : Cond.static yX7_has ∈ zj_tbl := List.mem_filter.mpr ⟨List.mem_of_getElem? (i := 482) (by decide +kernel), by decide +kernel⟩
theorem lm_X4_131 : zj_nl RX4 131 yX7_has cX7_has 2 (some .boolean) 2 := ⟨zw_yX7_has, ⟨RX7, by decide +kernel⟩, zs_yX7_has⟩
theorem zl_X4_75 : Cond.methodLink RX4 75 yX4_takeSign ∈ zj_tbl := List.mem_filter.mpr ⟨List.mem_of_getElem? (i := 484) (by decide +kernel), by decide +kernel⟩
theorem zn_yX4_takeSign : Cond.instanceMethod yX4_takeSign ∈ zj_tbl := List.mem_filter.mpr ⟨List.mem_of_getElem? (i := 486) (by decide +kernel), by decide +kernel⟩
theorem zv_yX4_takeSign : Cond.selects RX4 yX4_takeSign yX4_takeSign ∈ zj_tbl := List.mem_filter.mpr ⟨List.mem_of_getElem? (i := 9) (by decide +kernel), by decide +kernel⟩
theorem lm_X4_75 : zj_vl RX4 75 4 yX4_takeSign cX4_takeSign 1 none 0 := ⟨zw_yX4_takeSign, zl_X4_75, zn_yX4_takeSign, _, rfl, zv_yX4_takeSign⟩
theorem zl_X7_75 : Cond.methodLink RX7 75 yX6_become ∈ zj_tbl := List.mem_filter.mpr ⟨List.mem_of_getElem? (i := 488) (by decide +kernel), by decide +kernel⟩
theorem zn_yX6_become : Cond.instanceMethod yX6_become ∈ zj_tbl := List.mem_filter.mpr ⟨List.mem_of_getElem? (i := 489) (by decide +kernel), by decide +kernel⟩
theorem zv_yX6_become : Cond.selects RX6 yX6_become yX6_become ∈ zj_tbl := List.mem_filter.mpr ⟨List.mem_of_getElem? (i := 490) (by decide +kernel), by decide +kernel⟩
theorem lm_X7_75 : zj_vl RX7 75 6 yX6_become cX6_become 2 none 1 := ⟨zw_yX6_become, zl_X7_75, zn_yX6_become, _, rfl, zv_yX6_become⟩
theorem zl_X6_52 : Cond.methodLink RX6 52 yX6_markSeniors ∈ zj_tbl := List.mem_filter.mpr ⟨List.mem_of_getElem? (i := 495) (by decide +kernel), by decide +kernel⟩
theorem zn_yX6_markSeniors : Cond.instanceMethod yX6_markSeniors ∈ zj_tbl := List.mem_filter.mpr ⟨List.mem_of_getElem? (i := 497) (by decide +kernel), by decide +kernel⟩
theorem zv_yX6_markSeniors : Cond.selects RX6 yX6_markSeniors yX6_markSeniors ∈ zj_tbl := List.mem_filter.mpr ⟨List.mem_of_getElem? (i := 10) (by decide +kernel), by decide +kernel⟩
theorem lm_X6_52 : zj_vl RX6 52 6 yX6_markSeniors cX6_markSeniors 2 none 0 := ⟨zw_yX6_markSeniors, zl_X6_52, zn_yX6_markSeniors, _, rfl, zv_yX6_markSeniors⟩
theorem zl_X7_78 : Cond.methodLink RX7 78 yX0_begin ∈ zj_tbl := List.mem_filter.mpr ⟨List.mem_of_getElem? (i := 499) (by decide +kernel), by decide +kernel⟩
theorem zn_yX0_begin : Cond.instanceMethod yX0_begin ∈ zj_tbl := List.mem_filter.mpr ⟨List.mem_of_getElem? (i := 500) (by decide +kernel), by decide +kernel⟩
theorem zv_yX0_begin : Cond.selects RX0 yX0_begin yX0_begin ∈ zj_tbl := List.mem_filter.mpr ⟨List.mem_of_getElem? (i := 501) (by decide +kernel), by decide +kernel⟩
theorem lm_X7_78 : zj_vl RX7 78 0 yX0_begin cX0_begin 1 none 0 := ⟨zw_yX0_begin, zl_X7_78, zn_yX0_begin, _, rfl, zv_yX0_begin⟩
theorem zl_X0_42 : Cond.methodLink RX0 42 yX1_begin ∈ zj_tbl := List.mem_filter.mpr ⟨List.mem_of_getElem? (i := 503) (by decide +kernel), by decide +kernel⟩
theorem zn_yX1_begin : Cond.instanceMethod yX1_begin ∈ zj_tbl := List.mem_filter.mpr ⟨List.mem_of_getElem? (i := 504) (by decide +kernel), by decide +kernel⟩
theorem zv_yX1_begin : Cond.selects RX1 yX1_begin yX1_begin ∈ zj_tbl := List.mem_filter.mpr ⟨List.mem_of_getElem? (i := 505) (by decide +kernel), by decide +kernel⟩
theorem lm_X0_42 : zj_vl RX0 42 1 yX1_begin cX1_begin 2 none 1 := ⟨zw_yX1_begin, zl_X0_42, zn_yX1_begin, _, rfl, zv_yX1_begin⟩
theorem zl_X1_31 : Cond.methodLink RX1 31 yJ7_fill_53178 ∈ zj_tbl := List.mem_filter.mpr ⟨List.mem_of_getElem? (i := 507) (by decide +kernel), by decide +kernel⟩
theorem zs_yJ7_fill_53178 : Cond.static yJ7_fill_53178 ∈ zj_tbl := List.mem_filter.mpr ⟨List.mem_of_getElem? (i := 508) (by decide +kernel), by decide +kernel⟩
theorem lm_X1_31 : zj_sl RX1 31 yJ7_fill_53178 cJ7_fill_53178 4 none 2 := ⟨zw_yJ7_fill_53178, zl_X1_31, zs_yJ7_fill_53178⟩
theorem zl_X7_81 : Cond.methodLink RX7 81 yX3_forget ∈ zj_tbl := List.mem_filter.mpr ⟨List.mem_of_getElem? (i := 511) (by decide +kernel), by decide +kernel⟩
theorem zn_yX3_forget : Cond.instanceMethod yX3_forget ∈ zj_tbl := List.mem_filter.mpr ⟨List.mem_of_getElem? (i := 512) (by decide +kernel), by decide +kernel⟩
theorem zv_yX3_forget : Cond.selects RX3 yX3_forget yX3_forget ∈ zj_tbl := List.mem_filter.mpr ⟨List.mem_of_getElem? (i := 513) (by decide +kernel), by decide +kernel⟩
theorem lm_X7_81 : zj_vl RX7 81 3 yX3_forget cX3_forget 1 none 0 := ⟨zw_yX3_forget, zl_X7_81, zn_yX3_forget, _, rfl, zv_yX3_forget⟩
theorem zl_X7_84 : Cond.methodLink RX7 84 yX0_drawEveryOpen ∈ zj_tbl := List.mem_filter.mpr ⟨List.mem_of_getElem? (i := 515) (by decide +kernel), by decide +kernel⟩
theorem zn_yX0_drawEveryOpen : Cond.instanceMethod yX0_drawEveryOpen ∈ zj_tbl := List.mem_filter.mpr ⟨List.mem_of_getElem? (i := 516) (by decide +kernel), by decide +kernel⟩
theorem zv_yX0_drawEveryOpen : Cond.selects RX0 yX0_drawEveryOpen yX0_drawEveryOpen ∈ zj_tbl := List.mem_filter.mpr ⟨List.mem_of_getElem? (i := 517) (by decide +kernel), by decide +kernel⟩
theorem lm_X7_84 : zj_vl RX7 84 0 yX0_drawEveryOpen cX0_drawEveryOpen 3 (some .int) 0 := ⟨zw_yX0_drawEveryOpen, zl_X7_84, zn_yX0_drawEveryOpen, _, rfl, zv_yX0_drawEveryOpen⟩
theorem zl_X0_166 : Cond.methodLink RX0 166 yX0_drawOne ∈ zj_tbl := List.mem_filter.mpr ⟨List.mem_of_getElem? (i := 519) (by decide +kernel), by decide +kernel⟩
theorem zn_yX0_drawOne : Cond.instanceMethod yX0_drawOne ∈ zj_tbl := List.mem_filter.mpr ⟨List.mem_of_getElem? (i := 520) (by decide +kernel), by decide +kernel⟩
theorem zv_yX0_drawOne : Cond.selects RX0 yX0_drawOne yX0_drawOne ∈ zj_tbl := List.mem_filter.mpr ⟨List.mem_of_getElem? (i := 521) (by decide +kernel), by decide +kernel⟩
theorem lm_X0_166 : zj_vl RX0 166 0 yX0_drawOne cX0_drawOne 3 (some .int) 1 := ⟨zw_yX0_drawOne, zl_X0_166, zn_yX0_drawOne, _, rfl, zv_yX0_drawOne⟩
theorem zl_X0_156 : Cond.methodLink RX0 156 yX0_gatherPool ∈ zj_tbl := List.mem_filter.mpr ⟨List.mem_of_getElem? (i := 523) (by decide +kernel), by decide +kernel⟩
theorem zn_yX0_gatherPool : Cond.instanceMethod yX0_gatherPool ∈ zj_tbl := List.mem_filter.mpr ⟨List.mem_of_getElem? (i := 524) (by decide +kernel), by decide +kernel⟩
theorem zv_yX0_gatherPool : Cond.selects RX0 yX0_gatherPool yX0_gatherPool ∈ zj_tbl := List.mem_filter.mpr ⟨List.mem_of_getElem? (i := 525) (by decide +kernel), by decide +kernel⟩
theorem lm_X0_156 : zj_vl RX0 156 0 yX0_gatherPool cX0_gatherPool 3 none 1 := ⟨zw_yX0_gatherPool, zl_X0_156, zn_yX0_gatherPool, _, rfl, zv_yX0_gatherPool⟩
theorem zl_X0_131 : Cond.methodLink RX0 131 yX0_listLawful ∈ zj_tbl := List.mem_filter.mpr ⟨List.mem_of_getElem? (i := 527) (by decide +kernel), by decide +kernel⟩
theorem zn_yX0_listLawful : Cond.instanceMethod yX0_listLawful ∈ zj_tbl := List.mem_filter.mpr ⟨List.mem_of_getElem? (i := 528) (by decide +kernel), by decide +kernel⟩
theorem zv_yX0_listLawful : Cond.selects RX0 yX0_listLawful yX0_listLawful ∈ zj_tbl := List.mem_filter.mpr ⟨List.mem_of_getElem? (i := 529) (by decide +kernel), by decide +kernel⟩
theorem lm_X0_131 : zj_vl RX0 131 0 yX0_listLawful cX0_listLawful 4 none 1 := ⟨zw_yX0_listLawful, zl_X0_131, zn_yX0_listLawful, _, rfl, zv_yX0_listLawful⟩
theorem zl_X0_125 : Cond.methodLink RX0 125 yX0_listThirds ∈ zj_tbl := List.mem_filter.mpr ⟨List.mem_of_getElem? (i := 531) (by decide +kernel), by decide +kernel⟩
theorem zn_yX0_listThirds : Cond.instanceMethod yX0_listThirds ∈ zj_tbl := List.mem_filter.mpr ⟨List.mem_of_getElem? (i := 533) (by decide +kernel), by decide +kernel⟩
theorem zv_yX0_listThirds : Cond.selects RX0 yX0_listThirds yX0_listThirds ∈ zj_tbl := List.mem_filter.mpr ⟨List.mem_of_getElem? (i := 11) (by decide +kernel), by decide +kernel⟩
theorem lm_X0_125 : zj_vl RX0 125 0 yX0_listThirds cX0_listThirds 6 none 3 := ⟨zw_yX0_listThirds, zl_X0_125, zn_yX0_listThirds, _, rfl, zv_yX0_listThirds⟩
theorem zl_X0_128 : Cond.methodLink RX0 128 yX0_isLawful ∈ zj_tbl := List.mem_filter.mpr ⟨List.mem_of_getElem? (i := 535) (by decide +kernel), by decide +kernel⟩
theorem zn_yX0_isLawful : Cond.instanceMethod yX0_isLawful ∈ zj_tbl := List.mem_filter.mpr ⟨List.mem_of_getElem? (i := 537) (by decide +kernel), by decide +kernel⟩
theorem zv_yX0_isLawful : Cond.selects RX0 yX0_isLawful yX0_isLawful ∈ zj_tbl := List.mem_filter.mpr ⟨List.mem_of_getElem? (i := 12) (by decide +kernel), by decide +kernel⟩
theorem lm_X0_128 : zj_vl RX0 128 0 yX0_isLawful cX0_isLawful 3 (some .boolean) 2 := ⟨zw_yX0_isLawful, zl_X0_128, zn_yX0_isLawful, _, rfl, zv_yX0_isLawful⟩
theorem zl_X0_135 : Cond.methodLink RX0 135 yX0_countBenches ∈ zj_tbl := List.mem_filter.mpr ⟨List.mem_of_getElem? (i := 539) (by decide +kernel), by decide +kernel⟩
theorem zn_yX0_countBenches : Cond.instanceMethod yX0_countBenches ∈ zj_tbl := List.mem_filter.mpr ⟨List.mem_of_getElem? (i := 540) (by decide +kernel), by decide +kernel⟩
theorem zv_yX0_countBenches : Cond.selects RX0 yX0_countBenches yX0_countBenches ∈ zj_tbl := List.mem_filter.mpr ⟨List.mem_of_getElem? (i := 541) (by decide +kernel), by decide +kernel⟩
theorem lm_X0_135 : zj_vl RX0 135 0 yX0_countBenches cX0_countBenches 4 none 1 := ⟨zw_yX0_countBenches, zl_X0_135, zn_yX0_countBenches, _, rfl, zv_yX0_countBenches⟩
theorem zl_X0_73 : Cond.methodLink RX0 73 yJ7_fill_53178 ∈ zj_tbl := List.mem_filter.mpr ⟨List.mem_of_getElem? (i := 543) (by decide +kernel), by decide +kernel⟩
theorem lm_X0_73 : zj_sl RX0 73 yJ7_fill_53178 cJ7_fill_53178 4 none 2 := ⟨zw_yJ7_fill_53178, zl_X0_73, zs_yJ7_fill_53178⟩
theorem zl_X0_66 : Cond.methodLink RX0 66 yX6_presiding ∈ zj_tbl := List.mem_filter.mpr ⟨List.mem_of_getElem? (i := 544) (by decide +kernel), by decide +kernel⟩
theorem zn_yX6_presiding : Cond.instanceMethod yX6_presiding ∈ zj_tbl := List.mem_filter.mpr ⟨List.mem_of_getElem? (i := 545) (by decide +kernel), by decide +kernel⟩
theorem zv_yX6_presiding : Cond.selects RX6 yX6_presiding yX6_presiding ∈ zj_tbl := List.mem_filter.mpr ⟨List.mem_of_getElem? (i := 546) (by decide +kernel), by decide +kernel⟩
theorem lm_X0_66 : zj_vl RX0 66 6 yX6_presiding cX6_presiding 4 (some .int) 1 := ⟨zw_yX6_presiding, zl_X0_66, zn_yX6_presiding, _, rfl, zv_yX6_presiding⟩
theorem lm_X6_64 : zj_nl RX6 64 yX7_has cX7_has 2 (some .boolean) 2 := ⟨zw_yX7_has, ⟨RX7, by decide +kernel⟩, zs_yX7_has⟩
theorem zl_X0_82 : Cond.methodLink RX0 82 yX0_countBench ∈ zj_tbl := List.mem_filter.mpr ⟨List.mem_of_getElem? (i := 549) (by decide +kernel), by decide +kernel⟩
theorem zn_yX0_countBench : Cond.instanceMethod yX0_countBench ∈ zj_tbl := List.mem_filter.mpr ⟨List.mem_of_getElem? (i := 551) (by decide +kernel), by decide +kernel⟩
theorem zv_yX0_countBench : Cond.selects RX0 yX0_countBench yX0_countBench ∈ zj_tbl := List.mem_filter.mpr ⟨List.mem_of_getElem? (i := 13) (by decide +kernel), by decide +kernel⟩
theorem lm_X0_82 : zj_vl RX0 82 0 yX0_countBench cX0_countBench 6 none 3 := ⟨zw_yX0_countBench, zl_X0_82, zn_yX0_countBench, _, rfl, zv_yX0_countBench⟩
theorem lm_X0_62 : zj_nl RX0 62 yX7_has cX7_has 2 (some .boolean) 2 := ⟨zw_yX7_has, ⟨RX7, by decide +kernel⟩, zs_yX7_has⟩
theorem zs_yX7_pairPlace : Cond.static yX7_pairPlace ∈ zj_tbl := List.mem_filter.mpr ⟨List.mem_of_getElem? (i := 555) (by decide +kernel), by decide +kernel⟩
theorem lm_X0_92 : zj_nl RX0 92 yX7_pairPlace cX7_pairPlace 2 (some .int) 2 := ⟨zw_yX7_pairPlace, ⟨RX7, by decide +kernel⟩, zs_yX7_pairPlace⟩
theorem zl_X0_138 : Cond.methodLink RX0 138 yX0_tensionOf ∈ zj_tbl := List.mem_filter.mpr ⟨List.mem_of_getElem? (i := 557) (by decide +kernel), by decide +kernel⟩
theorem zn_yX0_tensionOf : Cond.instanceMethod yX0_tensionOf ∈ zj_tbl := List.mem_filter.mpr ⟨List.mem_of_getElem? (i := 558) (by decide +kernel), by decide +kernel⟩
theorem zv_yX0_tensionOf : Cond.selects RX0 yX0_tensionOf yX0_tensionOf ∈ zj_tbl := List.mem_filter.mpr ⟨List.mem_of_getElem? (i := 559) (by decide +kernel), by decide +kernel⟩
theorem lm_X0_138 : zj_vl RX0 138 0 yX0_tensionOf cX0_tensionOf 5 (some .int) 1 := ⟨zw_yX0_tensionOf, zl_X0_138, zn_yX0_tensionOf, _, rfl, zv_yX0_tensionOf⟩
theorem zl_X0_96 : Cond.methodLink RX0 96 yX0_pairsBehind ∈ zj_tbl := List.mem_filter.mpr ⟨List.mem_of_getElem? (i := 561) (by decide +kernel), by decide +kernel⟩
theorem zn_yX0_pairsBehind : Cond.instanceMethod yX0_pairsBehind ∈ zj_tbl := List.mem_filter.mpr ⟨List.mem_of_getElem? (i := 563) (by decide +kernel), by decide +kernel⟩
theorem zv_yX0_pairsBehind : Cond.selects RX0 yX0_pairsBehind yX0_pairsBehind ∈ zj_tbl := List.mem_filter.mpr ⟨List.mem_of_getElem? (i := 14) (by decide +kernel), by decide +kernel⟩
theorem lm_X0_96 : zj_vl RX0 96 0 yX0_pairsBehind cX0_pairsBehind 5 (some .int) 2 := ⟨zw_yX0_pairsBehind, zl_X0_96, zn_yX0_pairsBehind, _, rfl, zv_yX0_pairsBehind⟩
theorem zl_X0_150 : Cond.methodLink RX0 150 yX0_leastTensionAbove ∈ zj_tbl := List.mem_filter.mpr ⟨List.mem_of_getElem? (i := 565) (by decide +kernel), by decide +kernel⟩
theorem zn_yX0_leastTensionAbove : Cond.instanceMethod yX0_leastTensionAbove ∈ zj_tbl := List.mem_filter.mpr ⟨List.mem_of_getElem? (i := 567) (by decide +kernel), by decide +kernel⟩
theorem zv_yX0_leastTensionAbove : Cond.selects RX0 yX0_leastTensionAbove yX0_leastTensionAbove ∈ zj_tbl := List.mem_filter.mpr ⟨List.mem_of_getElem? (i := 15) (by decide +kernel), by decide +kernel⟩
theorem lm_X0_150 : zj_vl RX0 150 0 yX0_leastTensionAbove cX0_leastTensionAbove 4 (some .int) 1 := ⟨zw_yX0_leastTensionAbove, zl_X0_150, zn_yX0_leastTensionAbove, _, rfl, zv_yX0_leastTensionAbove⟩
theorem zl_X0_113 : Cond.methodLink RX0 113 yJ9_min_7cf53 ∈ zj_tbl := List.mem_filter.mpr ⟨List.mem_of_getElem? (i := 570) (by decide +kernel), by decide +kernel⟩
theorem lm_X0_113 : zj_sl RX0 113 yJ9_min_7cf53 cJ9_min_7cf53 2 (some .int) 2 := ⟨zw_yJ9_min_7cf53, zl_X0_113, zs_yJ9_min_7cf53⟩
theorem zl_X0_153 : Cond.methodLink RX0 153 yX0_countListedAt ∈ zj_tbl := List.mem_filter.mpr ⟨List.mem_of_getElem? (i := 571) (by decide +kernel), by decide +kernel⟩
theorem zn_yX0_countListedAt : Cond.instanceMethod yX0_countListedAt ∈ zj_tbl := List.mem_filter.mpr ⟨List.mem_of_getElem? (i := 573) (by decide +kernel), by decide +kernel⟩
theorem zv_yX0_countListedAt : Cond.selects RX0 yX0_countListedAt yX0_countListedAt ∈ zj_tbl := List.mem_filter.mpr ⟨List.mem_of_getElem? (i := 16) (by decide +kernel), by decide +kernel⟩
theorem lm_X0_153 : zj_vl RX0 153 0 yX0_countListedAt cX0_countListedAt 4 (some .int) 1 := ⟨zw_yX0_countListedAt, zl_X0_153, zn_yX0_countListedAt, _, rfl, zv_yX0_countListedAt⟩
theorem zl_X0_163 : Cond.methodLink RX0 163 yX0_pooledAt ∈ zj_tbl := List.mem_filter.mpr ⟨List.mem_of_getElem? (i := 576) (by decide +kernel), by decide +kernel⟩
theorem zn_yX0_pooledAt : Cond.instanceMethod yX0_pooledAt ∈ zj_tbl := List.mem_filter.mpr ⟨List.mem_of_getElem? (i := 578) (by decide +kernel), by decide +kernel⟩
theorem zv_yX0_pooledAt : Cond.selects RX0 yX0_pooledAt yX0_pooledAt ∈ zj_tbl := List.mem_filter.mpr ⟨List.mem_of_getElem? (i := 17) (by decide +kernel), by decide +kernel⟩
theorem lm_X0_163 : zj_vl RX0 163 0 yX0_pooledAt cX0_pooledAt 4 (some .int) 1 := ⟨zw_yX0_pooledAt, zl_X0_163, zn_yX0_pooledAt, _, rfl, zv_yX0_pooledAt⟩
theorem zl_L_37 : Cond.methodLink RL 37 yX7_fault ∈ zj_tbl := List.mem_filter.mpr ⟨List.mem_of_getElem? (i := 580) (by decide +kernel), by decide +kernel⟩
theorem zn_yX7_fault : Cond.instanceMethod yX7_fault ∈ zj_tbl := List.mem_filter.mpr ⟨List.mem_of_getElem? (i := 581) (by decide +kernel), by decide +kernel⟩
theorem zv_yX7_fault : Cond.selects RX7 yX7_fault yX7_fault ∈ zj_tbl := List.mem_filter.mpr ⟨List.mem_of_getElem? (i := 582) (by decide +kernel), by decide +kernel⟩
theorem lm_L_37 : zj_vl RL 37 7 yX7_fault cX7_fault 1 (some .int) 0 := ⟨zw_yX7_fault, zl_L_37, zn_yX7_fault, _, rfl, zv_yX7_fault⟩
theorem zl_L_41 : Cond.methodLink RL 41 yX7_now ∈ zj_tbl := List.mem_filter.mpr ⟨List.mem_of_getElem? (i := 584) (by decide +kernel), by decide +kernel⟩
theorem zn_yX7_now : Cond.instanceMethod yX7_now ∈ zj_tbl := List.mem_filter.mpr ⟨List.mem_of_getElem? (i := 585) (by decide +kernel), by decide +kernel⟩
theorem zv_yX7_now : Cond.selects RX7 yX7_now yX7_now ∈ zj_tbl := List.mem_filter.mpr ⟨List.mem_of_getElem? (i := 586) (by decide +kernel), by decide +kernel⟩
theorem lm_L_41 : zj_vl RL 41 7 yX7_now cX7_now 2 (some .int) 1 := ⟨zw_yX7_now, zl_L_41, zn_yX7_now, _, rfl, zv_yX7_now⟩
theorem zl_X7_106 : Cond.methodLink RX7 106 yX0_casesAt ∈ zj_tbl := List.mem_filter.mpr ⟨List.mem_of_getElem? (i := 588) (by decide +kernel), by decide +kernel⟩
theorem zn_yX0_casesAt : Cond.instanceMethod yX0_casesAt ∈ zj_tbl := List.mem_filter.mpr ⟨List.mem_of_getElem? (i := 589) (by decide +kernel), by decide +kernel⟩
theorem zv_yX0_casesAt : Cond.selects RX0 yX0_casesAt yX0_casesAt ∈ zj_tbl := List.mem_filter.mpr ⟨List.mem_of_getElem? (i := 590) (by decide +kernel), by decide +kernel⟩
theorem lm_X7_106 : zj_vl RX7 106 0 yX0_casesAt cX0_casesAt 4 (some .int) 1 := ⟨zw_yX0_casesAt, zl_X7_106, zn_yX0_casesAt, _, rfl, zv_yX0_casesAt⟩
theorem zl_L_58 : Cond.methodLink RL 58 yX7_pair ∈ zj_tbl := List.mem_filter.mpr ⟨List.mem_of_getElem? (i := 592) (by decide +kernel), by decide +kernel⟩
theorem zn_yX7_pair : Cond.instanceMethod yX7_pair ∈ zj_tbl := List.mem_filter.mpr ⟨List.mem_of_getElem? (i := 593) (by decide +kernel), by decide +kernel⟩
theorem zv_yX7_pair : Cond.selects RX7 yX7_pair yX7_pair ∈ zj_tbl := List.mem_filter.mpr ⟨List.mem_of_getElem? (i := 594) (by decide +kernel), by decide +kernel⟩
theorem lm_L_58 : zj_vl RL 58 7 yX7_pair cX7_pair 3 (some .int) 2 := ⟨zw_yX7_pair, zl_L_58, zn_yX7_pair, _, rfl, zv_yX7_pair⟩
theorem zl_X7_113 : Cond.methodLink RX7 113 yX6_hasJudge ∈ zj_tbl := List.mem_filter.mpr ⟨List.mem_of_getElem? (i := 596) (by decide +kernel), by decide +kernel⟩
theorem lm_X7_113 : zj_vl RX7 113 6 yX6_hasJudge cX6_hasJudge 2 (some .boolean) 1 := ⟨zw_yX6_hasJudge, zl_X7_113, zn_yX6_hasJudge, _, rfl, zv_yX6_hasJudge⟩
theorem zl_X7_135 : Cond.methodLink RX7 135 yX0_countBenches ∈ zj_tbl := List.mem_filter.mpr ⟨List.mem_of_getElem? (i := 597) (by decide +kernel), by decide +kernel⟩
theorem lm_X7_135 : zj_vl RX7 135 0 yX0_countBenches cX0_countBenches 4 none 1 := ⟨zw_yX0_countBenches, zl_X7_135, zn_yX0_countBenches, _, rfl, zv_yX0_countBenches⟩
theorem zl_X7_177 : Cond.methodLink RX7 177 yX7_pairPlace ∈ zj_tbl := List.mem_filter.mpr ⟨List.mem_of_getElem? (i := 598) (by decide +kernel), by decide +kernel⟩
theorem lm_X7_177 : zj_sl RX7 177 yX7_pairPlace cX7_pairPlace 2 (some .int) 2 := ⟨zw_yX7_pairPlace, zl_X7_177, zs_yX7_pairPlace⟩
theorem zl_L_62 : Cond.methodLink RL 62 yX7_spread ∈ zj_tbl := List.mem_filter.mpr ⟨List.mem_of_getElem? (i := 599) (by decide +kernel), by decide +kernel⟩
theorem zn_yX7_spread : Cond.instanceMethod yX7_spread ∈ zj_tbl := List.mem_filter.mpr ⟨List.mem_of_getElem? (i := 600) (by decide +kernel), by decide +kernel⟩
theorem zv_yX7_spread : Cond.selects RX7 yX7_spread yX7_spread ∈ zj_tbl := List.mem_filter.mpr ⟨List.mem_of_getElem? (i := 601) (by decide +kernel), by decide +kernel⟩
theorem lm_L_62 : zj_vl RL 62 7 yX7_spread cX7_spread 2 (some .int) 1 := ⟨zw_yX7_spread, zl_L_62, zn_yX7_spread, _, rfl, zv_yX7_spread⟩
theorem zl_X7_181 : Cond.methodLink RX7 181 yX0_spreadOfPairs ∈ zj_tbl := List.mem_filter.mpr ⟨List.mem_of_getElem? (i := 603) (by decide +kernel), by decide +kernel⟩
theorem zn_yX0_spreadOfPairs : Cond.instanceMethod yX0_spreadOfPairs ∈ zj_tbl := List.mem_filter.mpr ⟨List.mem_of_getElem? (i := 604) (by decide +kernel), by decide +kernel⟩
theorem zv_yX0_spreadOfPairs : Cond.selects RX0 yX0_spreadOfPairs yX0_spreadOfPairs ∈ zj_tbl := List.mem_filter.mpr ⟨List.mem_of_getElem? (i := 605) (by decide +kernel), by decide +kernel⟩
theorem lm_X7_181 : zj_vl RX7 181 0 yX0_spreadOfPairs cX0_spreadOfPairs 6 (some .int) 0 := ⟨zw_yX0_spreadOfPairs, zl_X7_181, zn_yX0_spreadOfPairs, _, rfl, zv_yX0_spreadOfPairs⟩
theorem zl_X0_108 : Cond.methodLink RX0 108 yJ9_max_7cf53 ∈ zj_tbl := List.mem_filter.mpr ⟨List.mem_of_getElem? (i := 607) (by decide +kernel), by decide +kernel⟩
theorem zs_yJ9_max_7cf53 : Cond.static yJ9_max_7cf53 ∈ zj_tbl := List.mem_filter.mpr ⟨List.mem_of_getElem? (i := 608) (by decide +kernel), by decide +kernel⟩
theorem lm_X0_108 : zj_sl RX0 108 yJ9_max_7cf53 cJ9_max_7cf53 2 (some .int) 2 := ⟨zw_yJ9_max_7cf53, zl_X0_108, zs_yJ9_max_7cf53⟩
theorem zl_X7_184 : Cond.methodLink RX7 184 yX0_spreadOfLoads ∈ zj_tbl := List.mem_filter.mpr ⟨List.mem_of_getElem? (i := 610) (by decide +kernel), by decide +kernel⟩
theorem zn_yX0_spreadOfLoads : Cond.instanceMethod yX0_spreadOfLoads ∈ zj_tbl := List.mem_filter.mpr ⟨List.mem_of_getElem? (i := 611) (by decide +kernel), by decide +kernel⟩
theorem zv_yX0_spreadOfLoads : Cond.selects RX0 yX0_spreadOfLoads yX0_spreadOfLoads ∈ zj_tbl := List.mem_filter.mpr ⟨List.mem_of_getElem? (i := 612) (by decide +kernel), by decide +kernel⟩
theorem lm_X7_184 : zj_vl RX7 184 0 yX0_spreadOfLoads cX0_spreadOfLoads 4 (some .int) 0 := ⟨zw_yX0_spreadOfLoads, zl_X7_184, zn_yX0_spreadOfLoads, _, rfl, zv_yX0_spreadOfLoads⟩
theorem zl_L_66 : Cond.methodLink RL 66 yX7_lawful ∈ zj_tbl := List.mem_filter.mpr ⟨List.mem_of_getElem? (i := 614) (by decide +kernel), by decide +kernel⟩
theorem zn_yX7_lawful : Cond.instanceMethod yX7_lawful ∈ zj_tbl := List.mem_filter.mpr ⟨List.mem_of_getElem? (i := 615) (by decide +kernel), by decide +kernel⟩
theorem zv_yX7_lawful : Cond.selects RX7 yX7_lawful yX7_lawful ∈ zj_tbl := List.mem_filter.mpr ⟨List.mem_of_getElem? (i := 616) (by decide +kernel), by decide +kernel⟩
theorem lm_L_66 : zj_vl RL 66 7 yX7_lawful cX7_lawful 2 (some .int) 1 := ⟨zw_yX7_lawful, zl_L_66, zn_yX7_lawful, _, rfl, zv_yX7_lawful⟩
theorem zl_X7_152 : Cond.methodLink RX7 152 yX6_hasCase ∈ zj_tbl := List.mem_filter.mpr ⟨List.mem_of_getElem? (i := 618) (by decide +kernel), by decide +kernel⟩
theorem zn_yX6_hasCase : Cond.instanceMethod yX6_hasCase ∈ zj_tbl := List.mem_filter.mpr ⟨List.mem_of_getElem? (i := 619) (by decide +kernel), by decide +kernel⟩
theorem zv_yX6_hasCase : Cond.selects RX6 yX6_hasCase yX6_hasCase ∈ zj_tbl := List.mem_filter.mpr ⟨List.mem_of_getElem? (i := 620) (by decide +kernel), by decide +kernel⟩
theorem lm_X7_152 : zj_vl RX7 152 6 yX6_hasCase cX6_hasCase 2 (some .boolean) 1 := ⟨zw_yX6_hasCase, zl_X7_152, zn_yX6_hasCase, _, rfl, zv_yX6_hasCase⟩
theorem zl_X7_187 : Cond.methodLink RX7 187 yX0_listLawful ∈ zj_tbl := List.mem_filter.mpr ⟨List.mem_of_getElem? (i := 622) (by decide +kernel), by decide +kernel⟩
theorem lm_X7_187 : zj_vl RX7 187 0 yX0_listLawful cX0_listLawful 4 none 1 := ⟨zw_yX0_listLawful, zl_X7_187, zn_yX0_listLawful, _, rfl, zv_yX0_listLawful⟩
theorem zl_L_70 : Cond.methodLink RL 70 yX7_bench ∈ zj_tbl := List.mem_filter.mpr ⟨List.mem_of_getElem? (i := 623) (by decide +kernel), by decide +kernel⟩
theorem zn_yX7_bench : Cond.instanceMethod yX7_bench ∈ zj_tbl := List.mem_filter.mpr ⟨List.mem_of_getElem? (i := 624) (by decide +kernel), by decide +kernel⟩
theorem zv_yX7_bench : Cond.selects RX7 yX7_bench yX7_bench ∈ zj_tbl := List.mem_filter.mpr ⟨List.mem_of_getElem? (i := 625) (by decide +kernel), by decide +kernel⟩
theorem lm_L_70 : zj_vl RL 70 7 yX7_bench cX7_bench 3 (some .int) 2 := ⟨zw_yX7_bench, zl_L_70, zn_yX7_bench, _, rfl, zv_yX7_bench⟩
theorem zl_L_74 : Cond.methodLink RL 74 yX7_rank ∈ zj_tbl := List.mem_filter.mpr ⟨List.mem_of_getElem? (i := 627) (by decide +kernel), by decide +kernel⟩
theorem zn_yX7_rank : Cond.instanceMethod yX7_rank ∈ zj_tbl := List.mem_filter.mpr ⟨List.mem_of_getElem? (i := 628) (by decide +kernel), by decide +kernel⟩
theorem zv_yX7_rank : Cond.selects RX7 yX7_rank yX7_rank ∈ zj_tbl := List.mem_filter.mpr ⟨List.mem_of_getElem? (i := 629) (by decide +kernel), by decide +kernel⟩
theorem lm_L_74 : zj_vl RL 74 7 yX7_rank cX7_rank 3 (some .int) 2 := ⟨zw_yX7_rank, zl_L_74, zn_yX7_rank, _, rfl, zv_yX7_rank⟩
theorem zl_X7_196 : Cond.methodLink RX7 196 yX0_placeListed ∈ zj_tbl := List.mem_filter.mpr ⟨List.mem_of_getElem? (i := 631) (by decide +kernel), by decide +kernel⟩
theorem zn_yX0_placeListed : Cond.instanceMethod yX0_placeListed ∈ zj_tbl := List.mem_filter.mpr ⟨List.mem_of_getElem? (i := 632) (by decide +kernel), by decide +kernel⟩
theorem zv_yX0_placeListed : Cond.selects RX0 yX0_placeListed yX0_placeListed ∈ zj_tbl := List.mem_filter.mpr ⟨List.mem_of_getElem? (i := 633) (by decide +kernel), by decide +kernel⟩
theorem lm_X7_196 : zj_vl RX7 196 0 yX0_placeListed cX0_placeListed 3 (some .int) 1 := ⟨zw_yX0_placeListed, zl_X7_196, zn_yX0_placeListed, _, rfl, zv_yX0_placeListed⟩
theorem zl_L_78 : Cond.methodLink RL 78 yX7_tension ∈ zj_tbl := List.mem_filter.mpr ⟨List.mem_of_getElem? (i := 635) (by decide +kernel), by decide +kernel⟩
theorem zn_yX7_tension : Cond.instanceMethod yX7_tension ∈ zj_tbl := List.mem_filter.mpr ⟨List.mem_of_getElem? (i := 636) (by decide +kernel), by decide +kernel⟩
theorem zv_yX7_tension : Cond.selects RX7 yX7_tension yX7_tension ∈ zj_tbl := List.mem_filter.mpr ⟨List.mem_of_getElem? (i := 637) (by decide +kernel), by decide +kernel⟩
theorem lm_L_78 : zj_vl RL 78 7 yX7_tension cX7_tension 3 (some .int) 2 := ⟨zw_yX7_tension, zl_L_78, zn_yX7_tension, _, rfl, zv_yX7_tension⟩
theorem zl_X7_199 : Cond.methodLink RX7 199 yX6_isBench ∈ zj_tbl := List.mem_filter.mpr ⟨List.mem_of_getElem? (i := 639) (by decide +kernel), by decide +kernel⟩
theorem zn_yX6_isBench : Cond.instanceMethod yX6_isBench ∈ zj_tbl := List.mem_filter.mpr ⟨List.mem_of_getElem? (i := 640) (by decide +kernel), by decide +kernel⟩
theorem zv_yX6_isBench : Cond.selects RX6 yX6_isBench yX6_isBench ∈ zj_tbl := List.mem_filter.mpr ⟨List.mem_of_getElem? (i := 641) (by decide +kernel), by decide +kernel⟩
theorem lm_X7_199 : zj_vl RX7 199 6 yX6_isBench cX6_isBench 2 (some .boolean) 1 := ⟨zw_yX6_isBench, zl_X7_199, zn_yX6_isBench, _, rfl, zv_yX6_isBench⟩
theorem zl_X6_58 : Cond.methodLink RX6 58 yJ6_bitCount_0f7a4 ∈ zj_tbl := List.mem_filter.mpr ⟨List.mem_of_getElem? (i := 643) (by decide +kernel), by decide +kernel⟩
theorem zs_yJ6_bitCount_0f7a4 : Cond.static yJ6_bitCount_0f7a4 ∈ zj_tbl := List.mem_filter.mpr ⟨List.mem_of_getElem? (i := 644) (by decide +kernel), by decide +kernel⟩
theorem lm_X6_58 : zj_sl RX6 58 yJ6_bitCount_0f7a4 cJ6_bitCount_0f7a4 1 (some .int) 1 := ⟨zw_yJ6_bitCount_0f7a4, zl_X6_58, zs_yJ6_bitCount_0f7a4⟩
theorem zl_X7_202 : Cond.methodLink RX7 202 yX0_tensionOf ∈ zj_tbl := List.mem_filter.mpr ⟨List.mem_of_getElem? (i := 649) (by decide +kernel), by decide +kernel⟩
theorem lm_X7_202 : zj_vl RX7 202 0 yX0_tensionOf cX0_tensionOf 5 (some .int) 1 := ⟨zw_yX0_tensionOf, zl_X7_202, zn_yX0_tensionOf, _, rfl, zv_yX0_tensionOf⟩
theorem zl_L_82 : Cond.methodLink RL 82 yX7_pool ∈ zj_tbl := List.mem_filter.mpr ⟨List.mem_of_getElem? (i := 650) (by decide +kernel), by decide +kernel⟩
theorem zn_yX7_pool : Cond.instanceMethod yX7_pool ∈ zj_tbl := List.mem_filter.mpr ⟨List.mem_of_getElem? (i := 651) (by decide +kernel), by decide +kernel⟩
theorem zv_yX7_pool : Cond.selects RX7 yX7_pool yX7_pool ∈ zj_tbl := List.mem_filter.mpr ⟨List.mem_of_getElem? (i := 652) (by decide +kernel), by decide +kernel⟩
theorem lm_L_82 : zj_vl RL 82 7 yX7_pool cX7_pool 2 (some .int) 1 := ⟨zw_yX7_pool, zl_L_82, zn_yX7_pool, _, rfl, zv_yX7_pool⟩
theorem zl_X7_205 : Cond.methodLink RX7 205 yX0_gatherPool ∈ zj_tbl := List.mem_filter.mpr ⟨List.mem_of_getElem? (i := 654) (by decide +kernel), by decide +kernel⟩
theorem lm_X7_205 : zj_vl RX7 205 0 yX0_gatherPool cX0_gatherPool 3 none 1 := ⟨zw_yX0_gatherPool, zl_X7_205, zn_yX0_gatherPool, _, rfl, zv_yX0_gatherPool⟩
theorem zl_L_86 : Cond.methodLink RL 86 yX7_chances ∈ zj_tbl := List.mem_filter.mpr ⟨List.mem_of_getElem? (i := 655) (by decide +kernel), by decide +kernel⟩
theorem zn_yX7_chances : Cond.instanceMethod yX7_chances ∈ zj_tbl := List.mem_filter.mpr ⟨List.mem_of_getElem? (i := 656) (by decide +kernel), by decide +kernel⟩
theorem zv_yX7_chances : Cond.selects RX7 yX7_chances yX7_chances ∈ zj_tbl := List.mem_filter.mpr ⟨List.mem_of_getElem? (i := 657) (by decide +kernel), by decide +kernel⟩
theorem lm_L_86 : zj_vl RL 86 7 yX7_chances cX7_chances 3 (some .int) 2 := ⟨zw_yX7_chances, zl_L_86, zn_yX7_chances, _, rfl, zv_yX7_chances⟩
theorem zl_X7_211 : Cond.methodLink RX7 211 yX0_pooledWith ∈ zj_tbl := List.mem_filter.mpr ⟨List.mem_of_getElem? (i := 659) (by decide +kernel), by decide +kernel⟩
theorem zn_yX0_pooledWith : Cond.instanceMethod yX0_pooledWith ∈ zj_tbl := List.mem_filter.mpr ⟨List.mem_of_getElem? (i := 660) (by decide +kernel), by decide +kernel⟩
theorem zv_yX0_pooledWith : Cond.selects RX0 yX0_pooledWith yX0_pooledWith ∈ zj_tbl := List.mem_filter.mpr ⟨List.mem_of_getElem? (i := 661) (by decide +kernel), by decide +kernel⟩
theorem lm_X7_211 : zj_vl RX7 211 0 yX0_pooledWith cX0_pooledWith 4 (some .int) 1 := ⟨zw_yX0_pooledWith, zl_X7_211, zn_yX0_pooledWith, _, rfl, zv_yX0_pooledWith⟩
theorem zl_L_90 : Cond.methodLink RL 90 yX7_worst ∈ zj_tbl := List.mem_filter.mpr ⟨List.mem_of_getElem? (i := 663) (by decide +kernel), by decide +kernel⟩
theorem zn_yX7_worst : Cond.instanceMethod yX7_worst ∈ zj_tbl := List.mem_filter.mpr ⟨List.mem_of_getElem? (i := 664) (by decide +kernel), by decide +kernel⟩
theorem zv_yX7_worst : Cond.selects RX7 yX7_worst yX7_worst ∈ zj_tbl := List.mem_filter.mpr ⟨List.mem_of_getElem? (i := 665) (by decide +kernel), by decide +kernel⟩
theorem lm_L_90 : zj_vl RL 90 7 yX7_worst cX7_worst 2 (some .int) 1 := ⟨zw_yX7_worst, zl_L_90, zn_yX7_worst, _, rfl, zv_yX7_worst⟩
theorem zl_L_94 : Cond.methodLink RL 94 yX7_draw ∈ zj_tbl := List.mem_filter.mpr ⟨List.mem_of_getElem? (i := 667) (by decide +kernel), by decide +kernel⟩
theorem zn_yX7_draw : Cond.instanceMethod yX7_draw ∈ zj_tbl := List.mem_filter.mpr ⟨List.mem_of_getElem? (i := 668) (by decide +kernel), by decide +kernel⟩
theorem zv_yX7_draw : Cond.selects RX7 yX7_draw yX7_draw ∈ zj_tbl := List.mem_filter.mpr ⟨List.mem_of_getElem? (i := 669) (by decide +kernel), by decide +kernel⟩
theorem lm_L_94 : zj_vl RL 94 7 yX7_draw cX7_draw 3 (some .int) 1 := ⟨zw_yX7_draw, zl_L_94, zn_yX7_draw, _, rfl, zv_yX7_draw⟩
theorem zl_X7_217 : Cond.methodLink RX7 217 yX3_prepare ∈ zj_tbl := List.mem_filter.mpr ⟨List.mem_of_getElem? (i := 671) (by decide +kernel), by decide +kernel⟩
theorem zn_yX3_prepare : Cond.instanceMethod yX3_prepare ∈ zj_tbl := List.mem_filter.mpr ⟨List.mem_of_getElem? (i := 672) (by decide +kernel), by decide +kernel⟩
theorem zv_yX3_prepare : Cond.selects RX3 yX3_prepare yX3_prepare ∈ zj_tbl := List.mem_filter.mpr ⟨List.mem_of_getElem? (i := 673) (by decide +kernel), by decide +kernel⟩
theorem lm_X7_217 : zj_vl RX7 217 3 yX3_prepare cX3_prepare 2 none 1 := ⟨zw_yX3_prepare, zl_X7_217, zn_yX3_prepare, _, rfl, zv_yX3_prepare⟩
theorem zl_X3_25 : Cond.methodLink RX3 25 yX1_become ∈ zj_tbl := List.mem_filter.mpr ⟨List.mem_of_getElem? (i := 675) (by decide +kernel), by decide +kernel⟩
theorem zn_yX1_become : Cond.instanceMethod yX1_become ∈ zj_tbl := List.mem_filter.mpr ⟨List.mem_of_getElem? (i := 676) (by decide +kernel), by decide +kernel⟩
theorem zv_yX1_become : Cond.selects RX1 yX1_become yX1_become ∈ zj_tbl := List.mem_filter.mpr ⟨List.mem_of_getElem? (i := 677) (by decide +kernel), by decide +kernel⟩
theorem lm_X3_25 : zj_vl RX3 25 1 yX1_become cX1_become 2 none 1 := ⟨zw_yX1_become, zl_X3_25, zn_yX1_become, _, rfl, zv_yX1_become⟩
theorem zl_X7_221 : Cond.methodLink RX7 221 yX0_drawOne ∈ zj_tbl := List.mem_filter.mpr ⟨List.mem_of_getElem? (i := 679) (by decide +kernel), by decide +kernel⟩
theorem lm_X7_221 : zj_vl RX7 221 0 yX0_drawOne cX0_drawOne 3 (some .int) 1 := ⟨zw_yX0_drawOne, zl_X7_221, zn_yX0_drawOne, _, rfl, zv_yX0_drawOne⟩
theorem zl_X7_224 : Cond.methodLink RX7 224 yX3_keepPrepared ∈ zj_tbl := List.mem_filter.mpr ⟨List.mem_of_getElem? (i := 680) (by decide +kernel), by decide +kernel⟩
theorem zn_yX3_keepPrepared : Cond.instanceMethod yX3_keepPrepared ∈ zj_tbl := List.mem_filter.mpr ⟨List.mem_of_getElem? (i := 681) (by decide +kernel), by decide +kernel⟩
theorem zv_yX3_keepPrepared : Cond.selects RX3 yX3_keepPrepared yX3_keepPrepared ∈ zj_tbl := List.mem_filter.mpr ⟨List.mem_of_getElem? (i := 682) (by decide +kernel), by decide +kernel⟩
theorem lm_X7_224 : zj_vl RX7 224 3 yX3_keepPrepared cX3_keepPrepared 1 none 0 := ⟨zw_yX3_keepPrepared, zl_X7_224, zn_yX3_keepPrepared, _, rfl, zv_yX3_keepPrepared⟩
theorem zl_X3_29 : Cond.methodLink RX3 29 yJ9_min_7cf53 ∈ zj_tbl := List.mem_filter.mpr ⟨List.mem_of_getElem? (i := 684) (by decide +kernel), by decide +kernel⟩
theorem lm_X3_29 : zj_sl RX3 29 yJ9_min_7cf53 cJ9_min_7cf53 2 (some .int) 2 := ⟨zw_yJ9_min_7cf53, zl_X3_29, zs_yJ9_min_7cf53⟩
theorem zl_L_98 : Cond.methodLink RL 98 yX7_drawAll ∈ zj_tbl := List.mem_filter.mpr ⟨List.mem_of_getElem? (i := 685) (by decide +kernel), by decide +kernel⟩
theorem zn_yX7_drawAll : Cond.instanceMethod yX7_drawAll ∈ zj_tbl := List.mem_filter.mpr ⟨List.mem_of_getElem? (i := 686) (by decide +kernel), by decide +kernel⟩
theorem zv_yX7_drawAll : Cond.selects RX7 yX7_drawAll yX7_drawAll ∈ zj_tbl := List.mem_filter.mpr ⟨List.mem_of_getElem? (i := 687) (by decide +kernel), by decide +kernel⟩
theorem lm_L_98 : zj_vl RL 98 7 yX7_drawAll cX7_drawAll 2 (some .int) 0 := ⟨zw_yX7_drawAll, zl_L_98, zn_yX7_drawAll, _, rfl, zv_yX7_drawAll⟩
theorem zl_L_102 : Cond.methodLink RL 102 yX7_recuse ∈ zj_tbl := List.mem_filter.mpr ⟨List.mem_of_getElem? (i := 689) (by decide +kernel), by decide +kernel⟩
theorem zn_yX7_recuse : Cond.instanceMethod yX7_recuse ∈ zj_tbl := List.mem_filter.mpr ⟨List.mem_of_getElem? (i := 690) (by decide +kernel), by decide +kernel⟩
theorem zv_yX7_recuse : Cond.selects RX7 yX7_recuse yX7_recuse ∈ zj_tbl := List.mem_filter.mpr ⟨List.mem_of_getElem? (i := 691) (by decide +kernel), by decide +kernel⟩
theorem lm_L_102 : zj_vl RL 102 7 yX7_recuse cX7_recuse 4 (some .int) 2 := ⟨zw_yX7_recuse, zl_L_102, zn_yX7_recuse, _, rfl, zv_yX7_recuse⟩
theorem zl_X7_227 : Cond.methodLink RX7 227 yX0_isSet ∈ zj_tbl := List.mem_filter.mpr ⟨List.mem_of_getElem? (i := 693) (by decide +kernel), by decide +kernel⟩
theorem zn_yX0_isSet : Cond.instanceMethod yX0_isSet ∈ zj_tbl := List.mem_filter.mpr ⟨List.mem_of_getElem? (i := 694) (by decide +kernel), by decide +kernel⟩
theorem zv_yX0_isSet : Cond.selects RX0 yX0_isSet yX0_isSet ∈ zj_tbl := List.mem_filter.mpr ⟨List.mem_of_getElem? (i := 695) (by decide +kernel), by decide +kernel⟩
theorem lm_X7_227 : zj_vl RX7 227 0 yX0_isSet cX0_isSet 2 (some .boolean) 1 := ⟨zw_yX0_isSet, zl_X7_227, zn_yX0_isSet, _, rfl, zv_yX0_isSet⟩
theorem zl_X0_46 : Cond.methodLink RX0 46 yX6_hasCase ∈ zj_tbl := List.mem_filter.mpr ⟨List.mem_of_getElem? (i := 697) (by decide +kernel), by decide +kernel⟩
theorem lm_X0_46 : zj_vl RX0 46 6 yX6_hasCase cX6_hasCase 2 (some .boolean) 1 := ⟨zw_yX6_hasCase, zl_X0_46, zn_yX6_hasCase, _, rfl, zv_yX6_hasCase⟩
theorem zl_X7_131 : Cond.methodLink RX7 131 yX7_has ∈ zj_tbl := List.mem_filter.mpr ⟨List.mem_of_getElem? (i := 698) (by decide +kernel), by decide +kernel⟩
theorem lm_X7_131 : zj_sl RX7 131 yX7_has cX7_has 2 (some .boolean) 2 := ⟨zw_yX7_has, zl_X7_131, zs_yX7_has⟩
theorem zl_X7_230 : Cond.methodLink RX7 230 yX0_repair ∈ zj_tbl := List.mem_filter.mpr ⟨List.mem_of_getElem? (i := 699) (by decide +kernel), by decide +kernel⟩
theorem zn_yX0_repair : Cond.instanceMethod yX0_repair ∈ zj_tbl := List.mem_filter.mpr ⟨List.mem_of_getElem? (i := 700) (by decide +kernel), by decide +kernel⟩
theorem zv_yX0_repair : Cond.selects RX0 yX0_repair yX0_repair ∈ zj_tbl := List.mem_filter.mpr ⟨List.mem_of_getElem? (i := 701) (by decide +kernel), by decide +kernel⟩
theorem lm_X7_230 : zj_vl RX7 230 0 yX0_repair cX0_repair 9 (some .int) 2 := ⟨zw_yX0_repair, zl_X7_230, zn_yX0_repair, _, rfl, zv_yX0_repair⟩
theorem zl_L_106 : Cond.methodLink RL 106 yX7_leave ∈ zj_tbl := List.mem_filter.mpr ⟨List.mem_of_getElem? (i := 703) (by decide +kernel), by decide +kernel⟩
theorem zn_yX7_leave : Cond.instanceMethod yX7_leave ∈ zj_tbl := List.mem_filter.mpr ⟨List.mem_of_getElem? (i := 704) (by decide +kernel), by decide +kernel⟩
theorem zv_yX7_leave : Cond.selects RX7 yX7_leave yX7_leave ∈ zj_tbl := List.mem_filter.mpr ⟨List.mem_of_getElem? (i := 705) (by decide +kernel), by decide +kernel⟩
theorem lm_L_106 : zj_vl RL 106 7 yX7_leave cX7_leave 2 (some .int) 1 := ⟨zw_yX7_leave, zl_L_106, zn_yX7_leave, _, rfl, zv_yX7_leave⟩
theorem zl_X7_233 : Cond.methodLink RX7 233 yX0_repairAllOf ∈ zj_tbl := List.mem_filter.mpr ⟨List.mem_of_getElem? (i := 707) (by decide +kernel), by decide +kernel⟩
theorem zn_yX0_repairAllOf : Cond.instanceMethod yX0_repairAllOf ∈ zj_tbl := List.mem_filter.mpr ⟨List.mem_of_getElem? (i := 708) (by decide +kernel), by decide +kernel⟩
theorem zv_yX0_repairAllOf : Cond.selects RX0 yX0_repairAllOf yX0_repairAllOf ∈ zj_tbl := List.mem_filter.mpr ⟨List.mem_of_getElem? (i := 709) (by decide +kernel), by decide +kernel⟩
theorem lm_X7_233 : zj_vl RX7 233 0 yX0_repairAllOf cX0_repairAllOf 4 (some .int) 1 := ⟨zw_yX0_repairAllOf, zl_X7_233, zn_yX0_repairAllOf, _, rfl, zv_yX0_repairAllOf⟩
theorem zl_X0_169 : Cond.methodLink RX0 169 yX0_repair ∈ zj_tbl := List.mem_filter.mpr ⟨List.mem_of_getElem? (i := 711) (by decide +kernel), by decide +kernel⟩
theorem lm_X0_169 : zj_vl RX0 169 0 yX0_repair cX0_repair 9 (some .int) 2 := ⟨zw_yX0_repair, zl_X0_169, zn_yX0_repair, _, rfl, zv_yX0_repair⟩
theorem zl_L_110 : Cond.methodLink RL 110 yX7_come ∈ zj_tbl := List.mem_filter.mpr ⟨List.mem_of_getElem? (i := 712) (by decide +kernel), by decide +kernel⟩
theorem zn_yX7_come : Cond.instanceMethod yX7_come ∈ zj_tbl := List.mem_filter.mpr ⟨List.mem_of_getElem? (i := 713) (by decide +kernel), by decide +kernel⟩
theorem zv_yX7_come : Cond.selects RX7 yX7_come yX7_come ∈ zj_tbl := List.mem_filter.mpr ⟨List.mem_of_getElem? (i := 714) (by decide +kernel), by decide +kernel⟩
theorem lm_L_110 : zj_vl RL 110 7 yX7_come cX7_come 2 (some .int) 1 := ⟨zw_yX7_come, zl_L_110, zn_yX7_come, _, rfl, zv_yX7_come⟩
theorem zl_X7_236 : Cond.methodLink RX7 236 yJ6_bitCount_0f7a4 ∈ zj_tbl := List.mem_filter.mpr ⟨List.mem_of_getElem? (i := 716) (by decide +kernel), by decide +kernel⟩
theorem lm_X7_236 : zj_sl RX7 236 yJ6_bitCount_0f7a4 cJ6_bitCount_0f7a4 1 (some .int) 1 := ⟨zw_yJ6_bitCount_0f7a4, zl_X7_236, zs_yJ6_bitCount_0f7a4⟩
theorem zl_L_114 : Cond.methodLink RL 114 yX7_hear ∈ zj_tbl := List.mem_filter.mpr ⟨List.mem_of_getElem? (i := 717) (by decide +kernel), by decide +kernel⟩
theorem zn_yX7_hear : Cond.instanceMethod yX7_hear ∈ zj_tbl := List.mem_filter.mpr ⟨List.mem_of_getElem? (i := 718) (by decide +kernel), by decide +kernel⟩
theorem zv_yX7_hear : Cond.selects RX7 yX7_hear yX7_hear ∈ zj_tbl := List.mem_filter.mpr ⟨List.mem_of_getElem? (i := 719) (by decide +kernel), by decide +kernel⟩
theorem lm_L_114 : zj_vl RL 114 7 yX7_hear cX7_hear 2 (some .int) 1 := ⟨zw_yX7_hear, zl_L_114, zn_yX7_hear, _, rfl, zv_yX7_hear⟩
theorem zl_L_118 : Cond.methodLink RL 118 yX7_evenness ∈ zj_tbl := List.mem_filter.mpr ⟨List.mem_of_getElem? (i := 721) (by decide +kernel), by decide +kernel⟩
theorem zn_yX7_evenness : Cond.instanceMethod yX7_evenness ∈ zj_tbl := List.mem_filter.mpr ⟨List.mem_of_getElem? (i := 722) (by decide +kernel), by decide +kernel⟩
theorem zv_yX7_evenness : Cond.selects RX7 yX7_evenness yX7_evenness ∈ zj_tbl := List.mem_filter.mpr ⟨List.mem_of_getElem? (i := 723) (by decide +kernel), by decide +kernel⟩
theorem lm_L_118 : zj_vl RL 118 7 yX7_evenness cX7_evenness 1 (some .int) 0 := ⟨zw_yX7_evenness, zl_L_118, zn_yX7_evenness, _, rfl, zv_yX7_evenness⟩
theorem zl_X7_241 : Cond.methodLink RX7 241 yX0_evennessCounted ∈ zj_tbl := List.mem_filter.mpr ⟨List.mem_of_getElem? (i := 725) (by decide +kernel), by decide +kernel⟩
theorem zn_yX0_evennessCounted : Cond.instanceMethod yX0_evennessCounted ∈ zj_tbl := List.mem_filter.mpr ⟨List.mem_of_getElem? (i := 726) (by decide +kernel), by decide +kernel⟩
theorem zv_yX0_evennessCounted : Cond.selects RX0 yX0_evennessCounted yX0_evennessCounted ∈ zj_tbl := List.mem_filter.mpr ⟨List.mem_of_getElem? (i := 727) (by decide +kernel), by decide +kernel⟩
theorem lm_X7_241 : zj_vl RX7 241 0 yX0_evennessCounted cX0_evennessCounted 5 (some .int) 0 := ⟨zw_yX0_evennessCounted, zl_X7_241, zn_yX0_evennessCounted, _, rfl, zv_yX0_evennessCounted⟩
theorem zl_L_122 : Cond.methodLink RL 122 yX7_better ∈ zj_tbl := List.mem_filter.mpr ⟨List.mem_of_getElem? (i := 729) (by decide +kernel), by decide +kernel⟩
theorem zn_yX7_better : Cond.instanceMethod yX7_better ∈ zj_tbl := List.mem_filter.mpr ⟨List.mem_of_getElem? (i := 730) (by decide +kernel), by decide +kernel⟩
theorem zv_yX7_better : Cond.selects RX7 yX7_better yX7_better ∈ zj_tbl := List.mem_filter.mpr ⟨List.mem_of_getElem? (i := 731) (by decide +kernel), by decide +kernel⟩
theorem lm_L_122 : zj_vl RL 122 7 yX7_better cX7_better 2 (some .int) 1 := ⟨zw_yX7_better, zl_L_122, zn_yX7_better, _, rfl, zv_yX7_better⟩
theorem zl_X7_244 : Cond.methodLink RX7 244 yX0_findBetter ∈ zj_tbl := List.mem_filter.mpr ⟨List.mem_of_getElem? (i := 733) (by decide +kernel), by decide +kernel⟩
theorem zn_yX0_findBetter : Cond.instanceMethod yX0_findBetter ∈ zj_tbl := List.mem_filter.mpr ⟨List.mem_of_getElem? (i := 734) (by decide +kernel), by decide +kernel⟩
theorem zv_yX0_findBetter : Cond.selects RX0 yX0_findBetter yX0_findBetter ∈ zj_tbl := List.mem_filter.mpr ⟨List.mem_of_getElem? (i := 735) (by decide +kernel), by decide +kernel⟩
theorem lm_X7_244 : zj_vl RX7 244 0 yX0_findBetter cX0_findBetter 3 (some .boolean) 0 := ⟨zw_yX0_findBetter, zl_X7_244, zn_yX0_findBetter, _, rfl, zv_yX0_findBetter⟩
theorem zl_X0_182 : Cond.methodLink RX0 182 yX0_findBetterFor ∈ zj_tbl := List.mem_filter.mpr ⟨List.mem_of_getElem? (i := 737) (by decide +kernel), by decide +kernel⟩
theorem zn_yX0_findBetterFor : Cond.instanceMethod yX0_findBetterFor ∈ zj_tbl := List.mem_filter.mpr ⟨List.mem_of_getElem? (i := 739) (by decide +kernel), by decide +kernel⟩
theorem zv_yX0_findBetterFor : Cond.selects RX0 yX0_findBetterFor yX0_findBetterFor ∈ zj_tbl := List.mem_filter.mpr ⟨List.mem_of_getElem? (i := 18) (by decide +kernel), by decide +kernel⟩
theorem lm_X0_182 : zj_vl RX0 182 0 yX0_findBetterFor cX0_findBetterFor 6 (some .boolean) 2 := ⟨zw_yX0_findBetterFor, zl_X0_182, zn_yX0_findBetterFor, _, rfl, zv_yX0_findBetterFor⟩
theorem zl_X0_185 : Cond.methodLink RX0 185 yX0_mayExchange ∈ zj_tbl := List.mem_filter.mpr ⟨List.mem_of_getElem? (i := 741) (by decide +kernel), by decide +kernel⟩
theorem zn_yX0_mayExchange : Cond.instanceMethod yX0_mayExchange ∈ zj_tbl := List.mem_filter.mpr ⟨List.mem_of_getElem? (i := 742) (by decide +kernel), by decide +kernel⟩
theorem zv_yX0_mayExchange : Cond.selects RX0 yX0_mayExchange yX0_mayExchange ∈ zj_tbl := List.mem_filter.mpr ⟨List.mem_of_getElem? (i := 743) (by decide +kernel), by decide +kernel⟩
theorem lm_X0_185 : zj_vl RX0 185 0 yX0_mayExchange cX0_mayExchange 7 (some .boolean) 4 := ⟨zw_yX0_mayExchange, zl_X0_185, zn_yX0_mayExchange, _, rfl, zv_yX0_mayExchange⟩
theorem zl_X0_172 : Cond.methodLink RX0 172 yX0_isSet ∈ zj_tbl := List.mem_filter.mpr ⟨List.mem_of_getElem? (i := 745) (by decide +kernel), by decide +kernel⟩
theorem lm_X0_172 : zj_vl RX0 172 0 yX0_isSet cX0_isSet 2 (some .boolean) 1 := ⟨zw_yX0_isSet, zl_X0_172, zn_yX0_isSet, _, rfl, zv_yX0_isSet⟩
theorem zl_X0_175 : Cond.methodLink RX0 175 yX6_hasJudge ∈ zj_tbl := List.mem_filter.mpr ⟨List.mem_of_getElem? (i := 746) (by decide +kernel), by decide +kernel⟩
theorem lm_X0_175 : zj_vl RX0 175 6 yX6_hasJudge cX6_hasJudge 2 (some .boolean) 1 := ⟨zw_yX6_hasJudge, zl_X0_175, zn_yX6_hasJudge, _, rfl, zv_yX6_hasJudge⟩
theorem zl_X0_178 : Cond.methodLink RX0 178 yX0_swapped ∈ zj_tbl := List.mem_filter.mpr ⟨List.mem_of_getElem? (i := 747) (by decide +kernel), by decide +kernel⟩
theorem zs_yX0_swapped : Cond.static yX0_swapped ∈ zj_tbl := List.mem_filter.mpr ⟨List.mem_of_getElem? (i := 748) (by decide +kernel), by decide +kernel⟩
theorem lm_X0_178 : zj_sl RX0 178 yX0_swapped cX0_swapped 3 (some .int) 3 := ⟨zw_yX0_swapped, zl_X0_178, zs_yX0_swapped⟩
theorem zl_X0_189 : Cond.methodLink RX0 189 yX0_gainOf ∈ zj_tbl := List.mem_filter.mpr ⟨List.mem_of_getElem? (i := 750) (by decide +kernel), by decide +kernel⟩
theorem zn_yX0_gainOf : Cond.instanceMethod yX0_gainOf ∈ zj_tbl := List.mem_filter.mpr ⟨List.mem_of_getElem? (i := 752) (by decide +kernel), by decide +kernel⟩
theorem zv_yX0_gainOf : Cond.selects RX0 yX0_gainOf yX0_gainOf ∈ zj_tbl := List.mem_filter.mpr ⟨List.mem_of_getElem? (i := 19) (by decide +kernel), by decide +kernel⟩
theorem lm_X0_189 : zj_vl RX0 189 0 yX0_gainOf cX0_gainOf 8 (some .int) 4 := ⟨zw_yX0_gainOf, zl_X0_189, zn_yX0_gainOf, _, rfl, zv_yX0_gainOf⟩
theorem zl_X0_212 : Cond.methodLink RX0 212 yX0_movePairs ∈ zj_tbl := List.mem_filter.mpr ⟨List.mem_of_getElem? (i := 754) (by decide +kernel), by decide +kernel⟩
theorem zn_yX0_movePairs : Cond.instanceMethod yX0_movePairs ∈ zj_tbl := List.mem_filter.mpr ⟨List.mem_of_getElem? (i := 756) (by decide +kernel), by decide +kernel⟩
theorem zv_yX0_movePairs : Cond.selects RX0 yX0_movePairs yX0_movePairs ∈ zj_tbl := List.mem_filter.mpr ⟨List.mem_of_getElem? (i := 20) (by decide +kernel), by decide +kernel⟩
theorem lm_X0_212 : zj_vl RX0 212 0 yX0_movePairs cX0_movePairs 8 (some .int) 3 := ⟨zw_yX0_movePairs, zl_X0_212, zn_yX0_movePairs, _, rfl, zv_yX0_movePairs⟩
theorem zl_X0_193 : Cond.methodLink RX0 193 yX0_keepFound ∈ zj_tbl := List.mem_filter.mpr ⟨List.mem_of_getElem? (i := 758) (by decide +kernel), by decide +kernel⟩
theorem zn_yX0_keepFound : Cond.instanceMethod yX0_keepFound ∈ zj_tbl := List.mem_filter.mpr ⟨List.mem_of_getElem? (i := 760) (by decide +kernel), by decide +kernel⟩
theorem zv_yX0_keepFound : Cond.selects RX0 yX0_keepFound yX0_keepFound ∈ zj_tbl := List.mem_filter.mpr ⟨List.mem_of_getElem? (i := 21) (by decide +kernel), by decide +kernel⟩
theorem lm_X0_193 : zj_vl RX0 193 0 yX0_keepFound cX0_keepFound 6 none 5 := ⟨zw_yX0_keepFound, zl_X0_193, zn_yX0_keepFound, _, rfl, zv_yX0_keepFound⟩
theorem zl_L_126 : Cond.methodLink RL 126 yX7_exchange ∈ zj_tbl := List.mem_filter.mpr ⟨List.mem_of_getElem? (i := 762) (by decide +kernel), by decide +kernel⟩
theorem zn_yX7_exchange : Cond.instanceMethod yX7_exchange ∈ zj_tbl := List.mem_filter.mpr ⟨List.mem_of_getElem? (i := 763) (by decide +kernel), by decide +kernel⟩
theorem zv_yX7_exchange : Cond.selects RX7 yX7_exchange yX7_exchange ∈ zj_tbl := List.mem_filter.mpr ⟨List.mem_of_getElem? (i := 764) (by decide +kernel), by decide +kernel⟩
theorem lm_L_126 : zj_vl RL 126 7 yX7_exchange cX7_exchange 5 (some .int) 4 := ⟨zw_yX7_exchange, zl_L_126, zn_yX7_exchange, _, rfl, zv_yX7_exchange⟩
theorem zl_X7_268 : Cond.methodLink RX7 268 yX0_mayExchange ∈ zj_tbl := List.mem_filter.mpr ⟨List.mem_of_getElem? (i := 766) (by decide +kernel), by decide +kernel⟩
theorem lm_X7_268 : zj_vl RX7 268 0 yX0_mayExchange cX0_mayExchange 7 (some .boolean) 4 := ⟨zw_yX0_mayExchange, zl_X7_268, zn_yX0_mayExchange, _, rfl, zv_yX0_mayExchange⟩
theorem zl_X7_272 : Cond.methodLink RX7 272 yX0_changePlaces ∈ zj_tbl := List.mem_filter.mpr ⟨List.mem_of_getElem? (i := 767) (by decide +kernel), by decide +kernel⟩
theorem zn_yX0_changePlaces : Cond.instanceMethod yX0_changePlaces ∈ zj_tbl := List.mem_filter.mpr ⟨List.mem_of_getElem? (i := 768) (by decide +kernel), by decide +kernel⟩
theorem zv_yX0_changePlaces : Cond.selects RX0 yX0_changePlaces yX0_changePlaces ∈ zj_tbl := List.mem_filter.mpr ⟨List.mem_of_getElem? (i := 769) (by decide +kernel), by decide +kernel⟩
theorem lm_X7_272 : zj_vl RX7 272 0 yX0_changePlaces cX0_changePlaces 5 none 4 := ⟨zw_yX0_changePlaces, zl_X7_272, zn_yX0_changePlaces, _, rfl, zv_yX0_changePlaces⟩
theorem zl_L_131 : Cond.methodLink RL 131 yX7_smooth ∈ zj_tbl := List.mem_filter.mpr ⟨List.mem_of_getElem? (i := 771) (by decide +kernel), by decide +kernel⟩
theorem zn_yX7_smooth : Cond.instanceMethod yX7_smooth ∈ zj_tbl := List.mem_filter.mpr ⟨List.mem_of_getElem? (i := 772) (by decide +kernel), by decide +kernel⟩
theorem zv_yX7_smooth : Cond.selects RX7 yX7_smooth yX7_smooth ∈ zj_tbl := List.mem_filter.mpr ⟨List.mem_of_getElem? (i := 773) (by decide +kernel), by decide +kernel⟩
theorem lm_L_131 : zj_vl RL 131 7 yX7_smooth cX7_smooth 2 (some .int) 0 := ⟨zw_yX7_smooth, zl_L_131, zn_yX7_smooth, _, rfl, zv_yX7_smooth⟩
theorem zl_L_135 : Cond.methodLink RL 135 yX7_same ∈ zj_tbl := List.mem_filter.mpr ⟨List.mem_of_getElem? (i := 775) (by decide +kernel), by decide +kernel⟩
theorem zn_yX7_same : Cond.instanceMethod yX7_same ∈ zj_tbl := List.mem_filter.mpr ⟨List.mem_of_getElem? (i := 776) (by decide +kernel), by decide +kernel⟩
theorem zv_yX7_same : Cond.selects RX7 yX7_same yX7_same ∈ zj_tbl := List.mem_filter.mpr ⟨List.mem_of_getElem? (i := 777) (by decide +kernel), by decide +kernel⟩
theorem lm_L_135 : zj_vl RL 135 7 yX7_same cX7_same 3 (some .int) 0 := ⟨zw_yX7_same, zl_L_135, zn_yX7_same, _, rfl, zv_yX7_same⟩
theorem zl_L_139 : Cond.methodLink RL 139 yX7_anew ∈ zj_tbl := List.mem_filter.mpr ⟨List.mem_of_getElem? (i := 779) (by decide +kernel), by decide +kernel⟩
theorem zn_yX7_anew : Cond.instanceMethod yX7_anew ∈ zj_tbl := List.mem_filter.mpr ⟨List.mem_of_getElem? (i := 780) (by decide +kernel), by decide +kernel⟩
theorem zv_yX7_anew : Cond.selects RX7 yX7_anew yX7_anew ∈ zj_tbl := List.mem_filter.mpr ⟨List.mem_of_getElem? (i := 781) (by decide +kernel), by decide +kernel⟩
theorem lm_L_139 : zj_vl RL 139 7 yX7_anew cX7_anew 2 (some .int) 1 := ⟨zw_yX7_anew, zl_L_139, zn_yX7_anew, _, rfl, zv_yX7_anew⟩
theorem zl_L_143 : Cond.methodLink RL 143 yX7_undo ∈ zj_tbl := List.mem_filter.mpr ⟨List.mem_of_getElem? (i := 783) (by decide +kernel), by decide +kernel⟩
theorem zn_yX7_undo : Cond.instanceMethod yX7_undo ∈ zj_tbl := List.mem_filter.mpr ⟨List.mem_of_getElem? (i := 784) (by decide +kernel), by decide +kernel⟩
theorem zv_yX7_undo : Cond.selects RX7 yX7_undo yX7_undo ∈ zj_tbl := List.mem_filter.mpr ⟨List.mem_of_getElem? (i := 785) (by decide +kernel), by decide +kernel⟩
theorem lm_L_143 : zj_vl RL 143 7 yX7_undo cX7_undo 1 (some .int) 0 := ⟨zw_yX7_undo, zl_L_143, zn_yX7_undo, _, rfl, zv_yX7_undo⟩
theorem zl_X7_276 : Cond.methodLink RX7 276 yX3_giveBack ∈ zj_tbl := List.mem_filter.mpr ⟨List.mem_of_getElem? (i := 787) (by decide +kernel), by decide +kernel⟩
theorem zn_yX3_giveBack : Cond.instanceMethod yX3_giveBack ∈ zj_tbl := List.mem_filter.mpr ⟨List.mem_of_getElem? (i := 788) (by decide +kernel), by decide +kernel⟩
theorem zv_yX3_giveBack : Cond.selects RX3 yX3_giveBack yX3_giveBack ∈ zj_tbl := List.mem_filter.mpr ⟨List.mem_of_getElem? (i := 789) (by decide +kernel), by decide +kernel⟩
theorem lm_X7_276 : zj_vl RX7 276 3 yX3_giveBack cX3_giveBack 2 none 1 := ⟨zw_yX3_giveBack, zl_X7_276, zn_yX3_giveBack, _, rfl, zv_yX3_giveBack⟩
theorem zl_L_7 : Cond.methodLink RL 7 yX7_judge ∈ zj_tbl := List.mem_filter.mpr ⟨List.mem_of_getElem? (i := 795) (by decide +kernel), by decide +kernel⟩
theorem zn_yX7_judge : Cond.instanceMethod yX7_judge ∈ zj_tbl := List.mem_filter.mpr ⟨List.mem_of_getElem? (i := 796) (by decide +kernel), by decide +kernel⟩
theorem zv_yX7_judge : Cond.selects RX7 yX7_judge yX7_judge ∈ zj_tbl := List.mem_filter.mpr ⟨List.mem_of_getElem? (i := 797) (by decide +kernel), by decide +kernel⟩
theorem lm_L_7 : zj_vl RL 7 7 yX7_judge cX7_judge 3 (some .int) 2 := ⟨zw_yX7_judge, zl_L_7, zn_yX7_judge, _, rfl, zv_yX7_judge⟩
theorem zl_X7_141 : Cond.methodLink RX7 141 yX0_benchesOf ∈ zj_tbl := List.mem_filter.mpr ⟨List.mem_of_getElem? (i := 864) (by decide +kernel), by decide +kernel⟩
theorem zn_yX0_benchesOf : Cond.instanceMethod yX0_benchesOf ∈ zj_tbl := List.mem_filter.mpr ⟨List.mem_of_getElem? (i := 865) (by decide +kernel), by decide +kernel⟩
theorem zv_yX0_benchesOf : Cond.selects RX0 yX0_benchesOf yX0_benchesOf ∈ zj_tbl := List.mem_filter.mpr ⟨List.mem_of_getElem? (i := 866) (by decide +kernel), by decide +kernel⟩
theorem lm_X7_141 : zj_vl RX7 141 0 yX0_benchesOf cX0_benchesOf 4 (some .int) 1 := ⟨zw_yX0_benchesOf, zl_X7_141, zn_yX0_benchesOf, _, rfl, zv_yX0_benchesOf⟩
theorem zl_X7_144 : Cond.methodLink RX7 144 yX0_benchesLedBy ∈ zj_tbl := List.mem_filter.mpr ⟨List.mem_of_getElem? (i := 868) (by decide +kernel), by decide +kernel⟩
theorem zn_yX0_benchesLedBy : Cond.instanceMethod yX0_benchesLedBy ∈ zj_tbl := List.mem_filter.mpr ⟨List.mem_of_getElem? (i := 869) (by decide +kernel), by decide +kernel⟩
theorem zv_yX0_benchesLedBy : Cond.selects RX0 yX0_benchesLedBy yX0_benchesLedBy ∈ zj_tbl := List.mem_filter.mpr ⟨List.mem_of_getElem? (i := 870) (by decide +kernel), by decide +kernel⟩
theorem lm_X7_144 : zj_vl RX7 144 0 yX0_benchesLedBy cX0_benchesLedBy 4 (some .int) 1 := ⟨zw_yX0_benchesLedBy, zl_X7_144, zn_yX0_benchesLedBy, _, rfl, zv_yX0_benchesLedBy⟩
theorem zl_X7_147 : Cond.methodLink RX7 147 yX0_casesBarredTo ∈ zj_tbl := List.mem_filter.mpr ⟨List.mem_of_getElem? (i := 872) (by decide +kernel), by decide +kernel⟩
theorem zn_yX0_casesBarredTo : Cond.instanceMethod yX0_casesBarredTo ∈ zj_tbl := List.mem_filter.mpr ⟨List.mem_of_getElem? (i := 873) (by decide +kernel), by decide +kernel⟩
theorem zv_yX0_casesBarredTo : Cond.selects RX0 yX0_casesBarredTo yX0_casesBarredTo ∈ zj_tbl := List.mem_filter.mpr ⟨List.mem_of_getElem? (i := 874) (by decide +kernel), by decide +kernel⟩
theorem lm_X7_147 : zj_vl RX7 147 0 yX0_casesBarredTo cX0_casesBarredTo 4 (some .int) 1 := ⟨zw_yX0_casesBarredTo, zl_X7_147, zn_yX0_casesBarredTo, _, rfl, zv_yX0_casesBarredTo⟩
theorem zl_L_15 : Cond.methodLink RL 15 yX7_of ∈ zj_tbl := List.mem_filter.mpr ⟨List.mem_of_getElem? (i := 880) (by decide +kernel), by decide +kernel⟩
theorem zn_yX7_of : Cond.instanceMethod yX7_of ∈ zj_tbl := List.mem_filter.mpr ⟨List.mem_of_getElem? (i := 881) (by decide +kernel), by decide +kernel⟩
theorem zv_yX7_of : Cond.selects RX7 yX7_of yX7_of ∈ zj_tbl := List.mem_filter.mpr ⟨List.mem_of_getElem? (i := 882) (by decide +kernel), by decide +kernel⟩
theorem lm_L_15 : zj_vl RL 15 7 yX7_of cX7_of 3 (some .int) 2 := ⟨zw_yX7_of, zl_L_15, zn_yX7_of, _, rfl, zv_yX7_of⟩
theorem zl_X7_169 : Cond.methodLink RX7 169 yX6_presiding ∈ zj_tbl := List.mem_filter.mpr ⟨List.mem_of_getElem? (i := 885) (by decide +kernel), by decide +kernel⟩
theorem lm_X7_169 : zj_vl RX7 169 6 yX6_presiding cX6_presiding 4 (some .int) 1 := ⟨zw_yX6_presiding, zl_X7_169, zn_yX6_presiding, _, rfl, zv_yX6_presiding⟩
theorem zl_L_52 : Cond.methodLink RL 52 yX8_thrown ∈ zj_tbl := List.mem_filter.mpr ⟨List.mem_of_getElem? (i := 887) (by decide +kernel), by decide +kernel⟩
theorem zn_yX8_thrown : Cond.instanceMethod yX8_thrown ∈ zj_tbl := List.mem_filter.mpr ⟨List.mem_of_getElem? (i := 888) (by decide +kernel), by decide +kernel⟩
theorem zv_yX8_thrown : Cond.selects RX8 yX8_thrown yX8_thrown ∈ zj_tbl := List.mem_filter.mpr ⟨List.mem_of_getElem? (i := 889) (by decide +kernel), by decide +kernel⟩
theorem lm_L_52 : zj_vl RL 52 8 yX8_thrown cX8_thrown 1 (some .int) 0 := ⟨zw_yX8_thrown, zl_L_52, zn_yX8_thrown, _, rfl, zv_yX8_thrown⟩
theorem zl_L_26 : Cond.methodLink RL 26 yX8_feed ∈ zj_tbl := List.mem_filter.mpr ⟨List.mem_of_getElem? (i := 891) (by decide +kernel), by decide +kernel⟩
theorem zn_yX8_feed : Cond.instanceMethod yX8_feed ∈ zj_tbl := List.mem_filter.mpr ⟨List.mem_of_getElem? (i := 892) (by decide +kernel), by decide +kernel⟩
theorem zv_yX8_feed : Cond.selects RX8 yX8_feed yX8_feed ∈ zj_tbl := List.mem_filter.mpr ⟨List.mem_of_getElem? (i := 893) (by decide +kernel), by decide +kernel⟩
theorem lm_L_26 : zj_vl RL 26 8 yX8_feed cX8_feed 6 (some .int) 5 := ⟨zw_yX8_feed, zl_L_26, zn_yX8_feed, _, rfl, zv_yX8_feed⟩
theorem zl_X8_14 : Cond.methodLink RX8 14 yX8_lays ∈ zj_tbl := List.mem_filter.mpr ⟨List.mem_of_getElem? (i := 895) (by decide +kernel), by decide +kernel⟩
theorem zn_yX8_lays : Cond.instanceMethod yX8_lays ∈ zj_tbl := List.mem_filter.mpr ⟨List.mem_of_getElem? (i := 897) (by decide +kernel), by decide +kernel⟩
theorem zv_yX8_lays : Cond.selects RX8 yX8_lays yX8_lays ∈ zj_tbl := List.mem_filter.mpr ⟨List.mem_of_getElem? (i := 23) (by decide +kernel), by decide +kernel⟩
theorem lm_X8_14 : zj_vl RX8 14 8 yX8_lays cX8_lays 3 none 1 := ⟨zw_yX8_lays, zl_X8_14, zn_yX8_lays, _, rfl, zv_yX8_lays⟩
theorem zl_L_31 : Cond.methodLink RL 31 yX8_end ∈ zj_tbl := List.mem_filter.mpr ⟨List.mem_of_getElem? (i := 900) (by decide +kernel), by decide +kernel⟩
theorem zn_yX8_end : Cond.instanceMethod yX8_end ∈ zj_tbl := List.mem_filter.mpr ⟨List.mem_of_getElem? (i := 901) (by decide +kernel), by decide +kernel⟩
theorem zv_yX8_end : Cond.selects RX8 yX8_end yX8_end ∈ zj_tbl := List.mem_filter.mpr ⟨List.mem_of_getElem? (i := 902) (by decide +kernel), by decide +kernel⟩
theorem lm_L_31 : zj_vl RL 31 8 yX8_end cX8_end 2 (some .boolean) 1 := ⟨zw_yX8_end, zl_L_31, zn_yX8_end, _, rfl, zv_yX8_end⟩
theorem zl_L_36 : Cond.methodLink RL 36 yX8_text ∈ zj_tbl := List.mem_filter.mpr ⟨List.mem_of_getElem? (i := 994) (by decide +kernel), by decide +kernel⟩
theorem zn_yX8_text : Cond.instanceMethod yX8_text ∈ zj_tbl := List.mem_filter.mpr ⟨List.mem_of_getElem? (i := 995) (by decide +kernel), by decide +kernel⟩
theorem zv_yX8_text : Cond.selects RX8 yX8_text yX8_text ∈ zj_tbl := List.mem_filter.mpr ⟨List.mem_of_getElem? (i := 996) (by decide +kernel), by decide +kernel⟩
theorem lm_L_36 : zj_vl RL 36 8 yX8_text cX8_text 3 (some .int) 0 := ⟨zw_yX8_text, zl_L_36, zn_yX8_text, _, rfl, zv_yX8_text⟩
theorem zl_X8_95 : Cond.methodLink RX8 95 yX8_go ∈ zj_tbl := List.mem_filter.mpr ⟨List.mem_of_getElem? (i := 998) (by decide +kernel), by decide +kernel⟩
theorem zn_yX8_go : Cond.instanceMethod yX8_go ∈ zj_tbl := List.mem_filter.mpr ⟨List.mem_of_getElem? (i := 1000) (by decide +kernel), by decide +kernel⟩
theorem zv_yX8_go : Cond.selects RX8 yX8_go yX8_go ∈ zj_tbl := List.mem_filter.mpr ⟨List.mem_of_getElem? (i := 24) (by decide +kernel), by decide +kernel⟩
theorem lm_X8_95 : zj_vl RX8 95 8 yX8_go cX8_go 5 none 0 := ⟨zw_yX8_go, zl_X8_95, zn_yX8_go, _, rfl, zv_yX8_go⟩
theorem zl_X8_30 : Cond.methodLink RX8 30 yX8_isLetter ∈ zj_tbl := List.mem_filter.mpr ⟨List.mem_of_getElem? (i := 1002) (by decide +kernel), by decide +kernel⟩
theorem zs_yX8_isLetter : Cond.static yX8_isLetter ∈ zj_tbl := List.mem_filter.mpr ⟨List.mem_of_getElem? (i := 1003) (by decide +kernel), by decide +kernel⟩
theorem lm_X8_30 : zj_sl RX8 30 yX8_isLetter cX8_isLetter 1 (some .boolean) 1 := ⟨zw_yX8_isLetter, zl_X8_30, zs_yX8_isLetter⟩
theorem zl_X8_34 : Cond.methodLink RX8 34 yX8_isDigit ∈ zj_tbl := List.mem_filter.mpr ⟨List.mem_of_getElem? (i := 1005) (by decide +kernel), by decide +kernel⟩
theorem zs_yX8_isDigit : Cond.static yX8_isDigit ∈ zj_tbl := List.mem_filter.mpr ⟨List.mem_of_getElem? (i := 1006) (by decide +kernel), by decide +kernel⟩
theorem lm_X8_34 : zj_sl RX8 34 yX8_isDigit cX8_isDigit 1 (some .boolean) 1 := ⟨zw_yX8_isDigit, zl_X8_34, zs_yX8_isDigit⟩
theorem zl_X8_44 : Cond.methodLink RX8 44 yX8_tapeAt ∈ zj_tbl := List.mem_filter.mpr ⟨List.mem_of_getElem? (i := 1008) (by decide +kernel), by decide +kernel⟩
theorem zn_yX8_tapeAt : Cond.instanceMethod yX8_tapeAt ∈ zj_tbl := List.mem_filter.mpr ⟨List.mem_of_getElem? (i := 1010) (by decide +kernel), by decide +kernel⟩
theorem zv_yX8_tapeAt : Cond.selects RX8 yX8_tapeAt yX8_tapeAt ∈ zj_tbl := List.mem_filter.mpr ⟨List.mem_of_getElem? (i := 25) (by decide +kernel), by decide +kernel⟩
theorem lm_X8_44 : zj_vl RX8 44 8 yX8_tapeAt cX8_tapeAt 2 (some .int) 1 := ⟨zw_yX8_tapeAt, zl_X8_44, zn_yX8_tapeAt, _, rfl, zv_yX8_tapeAt⟩
theorem zl_X8_119 : Cond.methodLink RX8 119 yX8_readLine ∈ zj_tbl := List.mem_filter.mpr ⟨List.mem_of_getElem? (i := 1014) (by decide +kernel), by decide +kernel⟩
theorem zn_yX8_readLine : Cond.instanceMethod yX8_readLine ∈ zj_tbl := List.mem_filter.mpr ⟨List.mem_of_getElem? (i := 1016) (by decide +kernel), by decide +kernel⟩
theorem zv_yX8_readLine : Cond.selects RX8 yX8_readLine yX8_readLine ∈ zj_tbl := List.mem_filter.mpr ⟨List.mem_of_getElem? (i := 26) (by decide +kernel), by decide +kernel⟩
theorem lm_X8_119 : zj_vl RX8 119 8 yX8_readLine cX8_readLine 1 (some .boolean) 0 := ⟨zw_yX8_readLine, zl_X8_119, zn_yX8_readLine, _, rfl, zv_yX8_readLine⟩
theorem zl_X8_101 : Cond.methodLink RX8 101 yX8_is ∈ zj_tbl := List.mem_filter.mpr ⟨List.mem_of_getElem? (i := 1018) (by decide +kernel), by decide +kernel⟩
theorem zn_yX8_is : Cond.instanceMethod yX8_is ∈ zj_tbl := List.mem_filter.mpr ⟨List.mem_of_getElem? (i := 1020) (by decide +kernel), by decide +kernel⟩
theorem zv_yX8_is : Cond.selects RX8 yX8_is yX8_is ∈ zj_tbl := List.mem_filter.mpr ⟨List.mem_of_getElem? (i := 27) (by decide +kernel), by decide +kernel⟩
theorem lm_X8_101 : zj_vl RX8 101 8 yX8_is cX8_is 9 (some .boolean) 6 := ⟨zw_yX8_is, zl_X8_101, zn_yX8_is, _, rfl, zv_yX8_is⟩
theorem zl_X8_109 : Cond.methodLink RX8 109 yX8_readCourt ∈ zj_tbl := List.mem_filter.mpr ⟨List.mem_of_getElem? (i := 1022) (by decide +kernel), by decide +kernel⟩
theorem zn_yX8_readCourt : Cond.instanceMethod yX8_readCourt ∈ zj_tbl := List.mem_filter.mpr ⟨List.mem_of_getElem? (i := 1024) (by decide +kernel), by decide +kernel⟩
theorem zv_yX8_readCourt : Cond.selects RX8 yX8_readCourt yX8_readCourt ∈ zj_tbl := List.mem_filter.mpr ⟨List.mem_of_getElem? (i := 28) (by decide +kernel), by decide +kernel⟩
theorem lm_X8_109 : zj_vl RX8 109 8 yX8_readCourt cX8_readCourt 1 (some .boolean) 0 := ⟨zw_yX8_readCourt, zl_X8_109, zn_yX8_readCourt, _, rfl, zv_yX8_readCourt⟩
theorem zl_X8_98 : Cond.methodLink RX8 98 yX8_told ∈ zj_tbl := List.mem_filter.mpr ⟨List.mem_of_getElem? (i := 1026) (by decide +kernel), by decide +kernel⟩
theorem zn_yX8_told : Cond.instanceMethod yX8_told ∈ zj_tbl := List.mem_filter.mpr ⟨List.mem_of_getElem? (i := 1028) (by decide +kernel), by decide +kernel⟩
theorem zv_yX8_told : Cond.selects RX8 yX8_told yX8_told ∈ zj_tbl := List.mem_filter.mpr ⟨List.mem_of_getElem? (i := 29) (by decide +kernel), by decide +kernel⟩
theorem lm_X8_98 : zj_vl RX8 98 8 yX8_told cX8_told 4 (some .boolean) 3 := ⟨zw_yX8_told, zl_X8_98, zn_yX8_told, _, rfl, zv_yX8_told⟩
theorem zl_X8_88 : Cond.methodLink RX8 88 yX8_bad ∈ zj_tbl := List.mem_filter.mpr ⟨List.mem_of_getElem? (i := 1030) (by decide +kernel), by decide +kernel⟩
theorem zn_yX8_bad : Cond.instanceMethod yX8_bad ∈ zj_tbl := List.mem_filter.mpr ⟨List.mem_of_getElem? (i := 1032) (by decide +kernel), by decide +kernel⟩
theorem zv_yX8_bad : Cond.selects RX8 yX8_bad yX8_bad ∈ zj_tbl := List.mem_filter.mpr ⟨List.mem_of_getElem? (i := 30) (by decide +kernel), by decide +kernel⟩
theorem lm_X8_88 : zj_vl RX8 88 8 yX8_bad cX8_bad 2 (some .boolean) 1 := ⟨zw_yX8_bad, zl_X8_88, zn_yX8_bad, _, rfl, zv_yX8_bad⟩
theorem zl_X8_91 : Cond.methodLink RX8 91 yX8_isIn ∈ zj_tbl := List.mem_filter.mpr ⟨List.mem_of_getElem? (i := 1034) (by decide +kernel), by decide +kernel⟩
theorem zs_yX8_isIn : Cond.static yX8_isIn ∈ zj_tbl := List.mem_filter.mpr ⟨List.mem_of_getElem? (i := 1035) (by decide +kernel), by decide +kernel⟩
theorem lm_X8_91 : zj_sl RX8 91 yX8_isIn cX8_isIn 3 (some .boolean) 3 := ⟨zw_yX8_isIn, zl_X8_91, zs_yX8_isIn⟩
theorem zl_X8_113 : Cond.methodLink RX8 113 yX8_readJudge ∈ zj_tbl := List.mem_filter.mpr ⟨List.mem_of_getElem? (i := 1037) (by decide +kernel), by decide +kernel⟩
theorem zn_yX8_readJudge : Cond.instanceMethod yX8_readJudge ∈ zj_tbl := List.mem_filter.mpr ⟨List.mem_of_getElem? (i := 1039) (by decide +kernel), by decide +kernel⟩
theorem zv_yX8_readJudge : Cond.selects RX8 yX8_readJudge yX8_readJudge ∈ zj_tbl := List.mem_filter.mpr ⟨List.mem_of_getElem? (i := 31) (by decide +kernel), by decide +kernel⟩
theorem lm_X8_113 : zj_vl RX8 113 8 yX8_readJudge cX8_readJudge 1 (some .boolean) 0 := ⟨zw_yX8_readJudge, zl_X8_113, zn_yX8_readJudge, _, rfl, zv_yX8_readJudge⟩
theorem zl_X8_116 : Cond.methodLink RX8 116 yX8_readCase ∈ zj_tbl := List.mem_filter.mpr ⟨List.mem_of_getElem? (i := 1041) (by decide +kernel), by decide +kernel⟩
theorem zn_yX8_readCase : Cond.instanceMethod yX8_readCase ∈ zj_tbl := List.mem_filter.mpr ⟨List.mem_of_getElem? (i := 1043) (by decide +kernel), by decide +kernel⟩
theorem zv_yX8_readCase : Cond.selects RX8 yX8_readCase yX8_readCase ∈ zj_tbl := List.mem_filter.mpr ⟨List.mem_of_getElem? (i := 32) (by decide +kernel), by decide +kernel⟩
theorem lm_X8_116 : zj_vl RX8 116 8 yX8_readCase cX8_readCase 2 (some .boolean) 0 := ⟨zw_yX8_readCase, zl_X8_116, zn_yX8_readCase, _, rfl, zv_yX8_readCase⟩
theorem zl_X8_105 : Cond.methodLink RX8 105 yX8_has ∈ zj_tbl := List.mem_filter.mpr ⟨List.mem_of_getElem? (i := 1045) (by decide +kernel), by decide +kernel⟩
theorem zs_yX8_has : Cond.static yX8_has ∈ zj_tbl := List.mem_filter.mpr ⟨List.mem_of_getElem? (i := 1046) (by decide +kernel), by decide +kernel⟩
theorem lm_X8_105 : zj_sl RX8 105 yX8_has cX8_has 2 (some .boolean) 2 := ⟨zw_yX8_has, zl_X8_105, zs_yX8_has⟩
theorem zl_X8_122 : Cond.methodLink RX8 122 yX8_readEnd ∈ zj_tbl := List.mem_filter.mpr ⟨List.mem_of_getElem? (i := 1048) (by decide +kernel), by decide +kernel⟩
theorem zn_yX8_readEnd : Cond.instanceMethod yX8_readEnd ∈ zj_tbl := List.mem_filter.mpr ⟨List.mem_of_getElem? (i := 1050) (by decide +kernel), by decide +kernel⟩
theorem zv_yX8_readEnd : Cond.selects RX8 yX8_readEnd yX8_readEnd ∈ zj_tbl := List.mem_filter.mpr ⟨List.mem_of_getElem? (i := 33) (by decide +kernel), by decide +kernel⟩
theorem lm_X8_122 : zj_vl RX8 122 8 yX8_readEnd cX8_readEnd 1 (some .boolean) 0 := ⟨zw_yX8_readEnd, zl_X8_122, zn_yX8_readEnd, _, rfl, zv_yX8_readEnd⟩
theorem zl_X8_125 : Cond.methodLink RX8 125 yX8_copy ∈ zj_tbl := List.mem_filter.mpr ⟨List.mem_of_getElem? (i := 1052) (by decide +kernel), by decide +kernel⟩
theorem zs_yX8_copy : Cond.static yX8_copy ∈ zj_tbl := List.mem_filter.mpr ⟨List.mem_of_getElem? (i := 1053) (by decide +kernel), by decide +kernel⟩
theorem lm_X8_125 : zj_sl RX8 125 yX8_copy cX8_copy 5 none 4 := ⟨zw_yX8_copy, zl_X8_125, zs_yX8_copy⟩
theorem zl_L_40 : Cond.methodLink RL 40 yX8_fault ∈ zj_tbl := List.mem_filter.mpr ⟨List.mem_of_getElem? (i := 1055) (by decide +kernel), by decide +kernel⟩
theorem zn_yX8_fault : Cond.instanceMethod yX8_fault ∈ zj_tbl := List.mem_filter.mpr ⟨List.mem_of_getElem? (i := 1056) (by decide +kernel), by decide +kernel⟩
theorem zv_yX8_fault : Cond.selects RX8 yX8_fault yX8_fault ∈ zj_tbl := List.mem_filter.mpr ⟨List.mem_of_getElem? (i := 1057) (by decide +kernel), by decide +kernel⟩
theorem lm_L_40 : zj_vl RL 40 8 yX8_fault cX8_fault 1 (some .int) 0 := ⟨zw_yX8_fault, zl_L_40, zn_yX8_fault, _, rfl, zv_yX8_fault⟩
theorem zl_L_45 : Cond.methodLink RL 45 yX8_now ∈ zj_tbl := List.mem_filter.mpr ⟨List.mem_of_getElem? (i := 1059) (by decide +kernel), by decide +kernel⟩
theorem zn_yX8_now : Cond.instanceMethod yX8_now ∈ zj_tbl := List.mem_filter.mpr ⟨List.mem_of_getElem? (i := 1060) (by decide +kernel), by decide +kernel⟩
theorem zv_yX8_now : Cond.selects RX8 yX8_now yX8_now ∈ zj_tbl := List.mem_filter.mpr ⟨List.mem_of_getElem? (i := 1061) (by decide +kernel), by decide +kernel⟩
theorem lm_L_45 : zj_vl RL 45 8 yX8_now cX8_now 2 (some .int) 1 := ⟨zw_yX8_now, zl_L_45, zn_yX8_now, _, rfl, zv_yX8_now⟩
theorem zl_X8_132 : Cond.methodLink RX8 132 yX8_judges ∈ zj_tbl := List.mem_filter.mpr ⟨List.mem_of_getElem? (i := 1063) (by decide +kernel), by decide +kernel⟩
theorem zn_yX8_judges : Cond.instanceMethod yX8_judges ∈ zj_tbl := List.mem_filter.mpr ⟨List.mem_of_getElem? (i := 1065) (by decide +kernel), by decide +kernel⟩
theorem zv_yX8_judges : Cond.selects RX8 yX8_judges yX8_judges ∈ zj_tbl := List.mem_filter.mpr ⟨List.mem_of_getElem? (i := 34) (by decide +kernel), by decide +kernel⟩
theorem lm_X8_132 : zj_vl RX8 132 8 yX8_judges cX8_judges 1 (some .int) 0 := ⟨zw_yX8_judges, zl_X8_132, zn_yX8_judges, _, rfl, zv_yX8_judges⟩
theorem zl_X8_136 : Cond.methodLink RX8 136 yX8_cases ∈ zj_tbl := List.mem_filter.mpr ⟨List.mem_of_getElem? (i := 1067) (by decide +kernel), by decide +kernel⟩
theorem zn_yX8_cases : Cond.instanceMethod yX8_cases ∈ zj_tbl := List.mem_filter.mpr ⟨List.mem_of_getElem? (i := 1069) (by decide +kernel), by decide +kernel⟩
theorem zv_yX8_cases : Cond.selects RX8 yX8_cases yX8_cases ∈ zj_tbl := List.mem_filter.mpr ⟨List.mem_of_getElem? (i := 35) (by decide +kernel), by decide +kernel⟩
theorem lm_X8_136 : zj_vl RX8 136 8 yX8_cases cX8_cases 1 (some .int) 0 := ⟨zw_yX8_cases, zl_X8_136, zn_yX8_cases, _, rfl, zv_yX8_cases⟩
theorem zl_X8_151 : Cond.methodLink RX8 151 yX8_having ∈ zj_tbl := List.mem_filter.mpr ⟨List.mem_of_getElem? (i := 1071) (by decide +kernel), by decide +kernel⟩
theorem zn_yX8_having : Cond.instanceMethod yX8_having ∈ zj_tbl := List.mem_filter.mpr ⟨List.mem_of_getElem? (i := 1073) (by decide +kernel), by decide +kernel⟩
theorem zv_yX8_having : Cond.selects RX8 yX8_having yX8_having ∈ zj_tbl := List.mem_filter.mpr ⟨List.mem_of_getElem? (i := 36) (by decide +kernel), by decide +kernel⟩
theorem lm_X8_151 : zj_vl RX8 151 8 yX8_having cX8_having 4 (some .int) 1 := ⟨zw_yX8_having, zl_X8_151, zn_yX8_having, _, rfl, zv_yX8_having⟩
theorem zl_L_51 : Cond.methodLink RL 51 yX8_judge ∈ zj_tbl := List.mem_filter.mpr ⟨List.mem_of_getElem? (i := 1075) (by decide +kernel), by decide +kernel⟩
theorem zn_yX8_judge : Cond.instanceMethod yX8_judge ∈ zj_tbl := List.mem_filter.mpr ⟨List.mem_of_getElem? (i := 1076) (by decide +kernel), by decide +kernel⟩
theorem zv_yX8_judge : Cond.selects RX8 yX8_judge yX8_judge ∈ zj_tbl := List.mem_filter.mpr ⟨List.mem_of_getElem? (i := 1077) (by decide +kernel), by decide +kernel⟩
theorem lm_L_51 : zj_vl RL 51 8 yX8_judge cX8_judge 3 (some .int) 2 := ⟨zw_yX8_judge, zl_L_51, zn_yX8_judge, _, rfl, zv_yX8_judge⟩
theorem zl_X8_154 : Cond.methodLink RX8 154 yX8_isJudge ∈ zj_tbl := List.mem_filter.mpr ⟨List.mem_of_getElem? (i := 1079) (by decide +kernel), by decide +kernel⟩
theorem zn_yX8_isJudge : Cond.instanceMethod yX8_isJudge ∈ zj_tbl := List.mem_filter.mpr ⟨List.mem_of_getElem? (i := 1081) (by decide +kernel), by decide +kernel⟩
theorem zv_yX8_isJudge : Cond.selects RX8 yX8_isJudge yX8_isJudge ∈ zj_tbl := List.mem_filter.mpr ⟨List.mem_of_getElem? (i := 37) (by decide +kernel), by decide +kernel⟩
theorem lm_X8_154 : zj_vl RX8 154 8 yX8_isJudge cX8_isJudge 2 (some .boolean) 1 := ⟨zw_yX8_isJudge, zl_X8_154, zn_yX8_isJudge, _, rfl, zv_yX8_isJudge⟩
theorem zl_X8_157 : Cond.methodLink RX8 157 yX8_refuse ∈ zj_tbl := List.mem_filter.mpr ⟨List.mem_of_getElem? (i := 1083) (by decide +kernel), by decide +kernel⟩
theorem zn_yX8_refuse : Cond.instanceMethod yX8_refuse ∈ zj_tbl := List.mem_filter.mpr ⟨List.mem_of_getElem? (i := 1085) (by decide +kernel), by decide +kernel⟩
theorem zv_yX8_refuse : Cond.selects RX8 yX8_refuse yX8_refuse ∈ zj_tbl := List.mem_filter.mpr ⟨List.mem_of_getElem? (i := 38) (by decide +kernel), by decide +kernel⟩
theorem lm_X8_157 : zj_vl RX8 157 8 yX8_refuse cX8_refuse 1 (some .int) 0 := ⟨zw_yX8_refuse, zl_X8_157, zn_yX8_refuse, _, rfl, zv_yX8_refuse⟩
theorem zl_X8_143 : Cond.methodLink RX8 143 yX8_loadOf ∈ zj_tbl := List.mem_filter.mpr ⟨List.mem_of_getElem? (i := 1087) (by decide +kernel), by decide +kernel⟩
theorem zs_yX8_loadOf : Cond.static yX8_loadOf ∈ zj_tbl := List.mem_filter.mpr ⟨List.mem_of_getElem? (i := 1088) (by decide +kernel), by decide +kernel⟩
theorem lm_X8_143 : zj_sl RX8 143 yX8_loadOf cX8_loadOf 5 (some .int) 3 := ⟨zw_yX8_loadOf, zl_X8_143, zs_yX8_loadOf⟩
theorem zl_X8_139 : Cond.methodLink RX8 139 yX8_presides ∈ zj_tbl := List.mem_filter.mpr ⟨List.mem_of_getElem? (i := 1090) (by decide +kernel), by decide +kernel⟩
theorem zs_yX8_presides : Cond.static yX8_presides ∈ zj_tbl := List.mem_filter.mpr ⟨List.mem_of_getElem? (i := 1091) (by decide +kernel), by decide +kernel⟩
theorem lm_X8_139 : zj_sl RX8 139 yX8_presides cX8_presides 4 (some .int) 2 := ⟨zw_yX8_presides, zl_X8_139, zs_yX8_presides⟩
theorem zl_X8_160 : Cond.methodLink RX8 160 yX8_countsOf ∈ zj_tbl := List.mem_filter.mpr ⟨List.mem_of_getElem? (i := 1093) (by decide +kernel), by decide +kernel⟩
theorem zn_yX8_countsOf : Cond.instanceMethod yX8_countsOf ∈ zj_tbl := List.mem_filter.mpr ⟨List.mem_of_getElem? (i := 1095) (by decide +kernel), by decide +kernel⟩
theorem zv_yX8_countsOf : Cond.selects RX8 yX8_countsOf yX8_countsOf ∈ zj_tbl := List.mem_filter.mpr ⟨List.mem_of_getElem? (i := 39) (by decide +kernel), by decide +kernel⟩
theorem lm_X8_160 : zj_vl RX8 160 8 yX8_countsOf cX8_countsOf 5 (some .int) 2 := ⟨zw_yX8_countsOf, zl_X8_160, zn_yX8_countsOf, _, rfl, zv_yX8_countsOf⟩
theorem zl_L_57 : Cond.methodLink RL 57 yX8_of ∈ zj_tbl := List.mem_filter.mpr ⟨List.mem_of_getElem? (i := 1097) (by decide +kernel), by decide +kernel⟩
theorem zn_yX8_of : Cond.instanceMethod yX8_of ∈ zj_tbl := List.mem_filter.mpr ⟨List.mem_of_getElem? (i := 1098) (by decide +kernel), by decide +kernel⟩
theorem zv_yX8_of : Cond.selects RX8 yX8_of yX8_of ∈ zj_tbl := List.mem_filter.mpr ⟨List.mem_of_getElem? (i := 1099) (by decide +kernel), by decide +kernel⟩
theorem lm_L_57 : zj_vl RL 57 8 yX8_of cX8_of 3 (some .int) 2 := ⟨zw_yX8_of, zl_L_57, zn_yX8_of, _, rfl, zv_yX8_of⟩
theorem zl_X8_164 : Cond.methodLink RX8 164 yX8_isCase ∈ zj_tbl := List.mem_filter.mpr ⟨List.mem_of_getElem? (i := 1101) (by decide +kernel), by decide +kernel⟩
theorem zn_yX8_isCase : Cond.instanceMethod yX8_isCase ∈ zj_tbl := List.mem_filter.mpr ⟨List.mem_of_getElem? (i := 1103) (by decide +kernel), by decide +kernel⟩
theorem zv_yX8_isCase : Cond.selects RX8 yX8_isCase yX8_isCase ∈ zj_tbl := List.mem_filter.mpr ⟨List.mem_of_getElem? (i := 40) (by decide +kernel), by decide +kernel⟩
theorem lm_X8_164 : zj_vl RX8 164 8 yX8_isCase cX8_isCase 2 (some .boolean) 1 := ⟨zw_yX8_isCase, zl_X8_164, zn_yX8_isCase, _, rfl, zv_yX8_isCase⟩
theorem zl_L_61 : Cond.methodLink RL 61 yX8_pair ∈ zj_tbl := List.mem_filter.mpr ⟨List.mem_of_getElem? (i := 1105) (by decide +kernel), by decide +kernel⟩
theorem zn_yX8_pair : Cond.instanceMethod yX8_pair ∈ zj_tbl := List.mem_filter.mpr ⟨List.mem_of_getElem? (i := 1106) (by decide +kernel), by decide +kernel⟩
theorem zv_yX8_pair : Cond.selects RX8 yX8_pair yX8_pair ∈ zj_tbl := List.mem_filter.mpr ⟨List.mem_of_getElem? (i := 1107) (by decide +kernel), by decide +kernel⟩
theorem lm_L_61 : zj_vl RL 61 8 yX8_pair cX8_pair 3 (some .int) 2 := ⟨zw_yX8_pair, zl_L_61, zn_yX8_pair, _, rfl, zv_yX8_pair⟩
theorem zl_X8_147 : Cond.methodLink RX8 147 yX8_pairOf ∈ zj_tbl := List.mem_filter.mpr ⟨List.mem_of_getElem? (i := 1109) (by decide +kernel), by decide +kernel⟩
theorem zs_yX8_pairOf : Cond.static yX8_pairOf ∈ zj_tbl := List.mem_filter.mpr ⟨List.mem_of_getElem? (i := 1110) (by decide +kernel), by decide +kernel⟩
theorem lm_X8_147 : zj_sl RX8 147 yX8_pairOf cX8_pairOf 6 (some .int) 4 := ⟨zw_yX8_pairOf, zl_X8_147, zs_yX8_pairOf⟩
theorem zl_L_65 : Cond.methodLink RL 65 yX8_spread ∈ zj_tbl := List.mem_filter.mpr ⟨List.mem_of_getElem? (i := 1112) (by decide +kernel), by decide +kernel⟩
theorem zn_yX8_spread : Cond.instanceMethod yX8_spread ∈ zj_tbl := List.mem_filter.mpr ⟨List.mem_of_getElem? (i := 1113) (by decide +kernel), by decide +kernel⟩
theorem zv_yX8_spread : Cond.selects RX8 yX8_spread yX8_spread ∈ zj_tbl := List.mem_filter.mpr ⟨List.mem_of_getElem? (i := 1114) (by decide +kernel), by decide +kernel⟩
theorem lm_L_65 : zj_vl RL 65 8 yX8_spread cX8_spread 7 (some .int) 1 := ⟨zw_yX8_spread, zl_L_65, zn_yX8_spread, _, rfl, zv_yX8_spread⟩
theorem zl_L_69 : Cond.methodLink RL 69 yX8_lawful ∈ zj_tbl := List.mem_filter.mpr ⟨List.mem_of_getElem? (i := 1116) (by decide +kernel), by decide +kernel⟩
theorem zn_yX8_lawful : Cond.instanceMethod yX8_lawful ∈ zj_tbl := List.mem_filter.mpr ⟨List.mem_of_getElem? (i := 1117) (by decide +kernel), by decide +kernel⟩
theorem zv_yX8_lawful : Cond.selects RX8 yX8_lawful yX8_lawful ∈ zj_tbl := List.mem_filter.mpr ⟨List.mem_of_getElem? (i := 1118) (by decide +kernel), by decide +kernel⟩
theorem lm_L_69 : zj_vl RL 69 8 yX8_lawful cX8_lawful 2 (some .int) 1 := ⟨zw_yX8_lawful, zl_L_69, zn_yX8_lawful, _, rfl, zv_yX8_lawful⟩
theorem zl_X8_174 : Cond.methodLink RX8 174 yX8_laysBenches ∈ zj_tbl := List.mem_filter.mpr ⟨List.mem_of_getElem? (i := 1120) (by decide +kernel), by decide +kernel⟩
theorem zn_yX8_laysBenches : Cond.instanceMethod yX8_laysBenches ∈ zj_tbl := List.mem_filter.mpr ⟨List.mem_of_getElem? (i := 1122) (by decide +kernel), by decide +kernel⟩
theorem zv_yX8_laysBenches : Cond.selects RX8 yX8_laysBenches yX8_laysBenches ∈ zj_tbl := List.mem_filter.mpr ⟨List.mem_of_getElem? (i := 41) (by decide +kernel), by decide +kernel⟩
theorem lm_X8_174 : zj_vl RX8 174 8 yX8_laysBenches cX8_laysBenches 7 none 2 := ⟨zw_yX8_laysBenches, zl_X8_174, zn_yX8_laysBenches, _, rfl, zv_yX8_laysBenches⟩
theorem zl_X8_170 : Cond.methodLink RX8 170 yX8_isLawful ∈ zj_tbl := List.mem_filter.mpr ⟨List.mem_of_getElem? (i := 1124) (by decide +kernel), by decide +kernel⟩
theorem zs_yX8_isLawful : Cond.static yX8_isLawful ∈ zj_tbl := List.mem_filter.mpr ⟨List.mem_of_getElem? (i := 1125) (by decide +kernel), by decide +kernel⟩
theorem lm_X8_170 : zj_sl RX8 170 yX8_isLawful cX8_isLawful 4 (some .boolean) 3 := ⟨zw_yX8_isLawful, zl_X8_170, zs_yX8_isLawful⟩
theorem zl_L_73 : Cond.methodLink RL 73 yX8_bench ∈ zj_tbl := List.mem_filter.mpr ⟨List.mem_of_getElem? (i := 1127) (by decide +kernel), by decide +kernel⟩
theorem zn_yX8_bench : Cond.instanceMethod yX8_bench ∈ zj_tbl := List.mem_filter.mpr ⟨List.mem_of_getElem? (i := 1128) (by decide +kernel), by decide +kernel⟩
theorem zv_yX8_bench : Cond.selects RX8 yX8_bench yX8_bench ∈ zj_tbl := List.mem_filter.mpr ⟨List.mem_of_getElem? (i := 1129) (by decide +kernel), by decide +kernel⟩
theorem lm_L_73 : zj_vl RL 73 8 yX8_bench cX8_bench 3 (some .int) 2 := ⟨zw_yX8_bench, zl_L_73, zn_yX8_bench, _, rfl, zv_yX8_bench⟩
theorem zl_L_77 : Cond.methodLink RL 77 yX8_rank ∈ zj_tbl := List.mem_filter.mpr ⟨List.mem_of_getElem? (i := 1131) (by decide +kernel), by decide +kernel⟩
theorem zn_yX8_rank : Cond.instanceMethod yX8_rank ∈ zj_tbl := List.mem_filter.mpr ⟨List.mem_of_getElem? (i := 1132) (by decide +kernel), by decide +kernel⟩
theorem zv_yX8_rank : Cond.selects RX8 yX8_rank yX8_rank ∈ zj_tbl := List.mem_filter.mpr ⟨List.mem_of_getElem? (i := 1133) (by decide +kernel), by decide +kernel⟩
theorem lm_L_77 : zj_vl RL 77 8 yX8_rank cX8_rank 4 (some .int) 2 := ⟨zw_yX8_rank, zl_L_77, zn_yX8_rank, _, rfl, zv_yX8_rank⟩
theorem zl_L_81 : Cond.methodLink RL 81 yX8_tension ∈ zj_tbl := List.mem_filter.mpr ⟨List.mem_of_getElem? (i := 1135) (by decide +kernel), by decide +kernel⟩
theorem zn_yX8_tension : Cond.instanceMethod yX8_tension ∈ zj_tbl := List.mem_filter.mpr ⟨List.mem_of_getElem? (i := 1136) (by decide +kernel), by decide +kernel⟩
theorem zv_yX8_tension : Cond.selects RX8 yX8_tension yX8_tension ∈ zj_tbl := List.mem_filter.mpr ⟨List.mem_of_getElem? (i := 1137) (by decide +kernel), by decide +kernel⟩
theorem lm_L_81 : zj_vl RL 81 8 yX8_tension cX8_tension 3 (some .int) 2 := ⟨zw_yX8_tension, zl_L_81, zn_yX8_tension, _, rfl, zv_yX8_tension⟩
theorem zl_X8_187 : Cond.methodLink RX8 187 yX8_bits ∈ zj_tbl := List.mem_filter.mpr ⟨List.mem_of_getElem? (i := 1139) (by decide +kernel), by decide +kernel⟩
theorem zs_yX8_bits : Cond.static yX8_bits ∈ zj_tbl := List.mem_filter.mpr ⟨List.mem_of_getElem? (i := 1140) (by decide +kernel), by decide +kernel⟩
theorem lm_X8_187 : zj_sl RX8 187 yX8_bits cX8_bits 3 (some .int) 1 := ⟨zw_yX8_bits, zl_X8_187, zs_yX8_bits⟩
theorem zl_X8_184 : Cond.methodLink RX8 184 yX8_tensionOf ∈ zj_tbl := List.mem_filter.mpr ⟨List.mem_of_getElem? (i := 1142) (by decide +kernel), by decide +kernel⟩
theorem zs_yX8_tensionOf : Cond.static yX8_tensionOf ∈ zj_tbl := List.mem_filter.mpr ⟨List.mem_of_getElem? (i := 1143) (by decide +kernel), by decide +kernel⟩
theorem lm_X8_184 : zj_sl RX8 184 yX8_tensionOf cX8_tensionOf 7 (some .int) 3 := ⟨zw_yX8_tensionOf, zl_X8_184, zs_yX8_tensionOf⟩
theorem zl_L_85 : Cond.methodLink RL 85 yX8_pool ∈ zj_tbl := List.mem_filter.mpr ⟨List.mem_of_getElem? (i := 1145) (by decide +kernel), by decide +kernel⟩
theorem zn_yX8_pool : Cond.instanceMethod yX8_pool ∈ zj_tbl := List.mem_filter.mpr ⟨List.mem_of_getElem? (i := 1146) (by decide +kernel), by decide +kernel⟩
theorem zv_yX8_pool : Cond.selects RX8 yX8_pool yX8_pool ∈ zj_tbl := List.mem_filter.mpr ⟨List.mem_of_getElem? (i := 1147) (by decide +kernel), by decide +kernel⟩
theorem lm_L_85 : zj_vl RL 85 8 yX8_pool cX8_pool 2 (some .int) 1 := ⟨zw_yX8_pool, zl_L_85, zn_yX8_pool, _, rfl, zv_yX8_pool⟩
theorem zl_X8_190 : Cond.methodLink RX8 190 yX8_laysPool ∈ zj_tbl := List.mem_filter.mpr ⟨List.mem_of_getElem? (i := 1149) (by decide +kernel), by decide +kernel⟩
theorem zn_yX8_laysPool : Cond.instanceMethod yX8_laysPool ∈ zj_tbl := List.mem_filter.mpr ⟨List.mem_of_getElem? (i := 1151) (by decide +kernel), by decide +kernel⟩
theorem zv_yX8_laysPool : Cond.selects RX8 yX8_laysPool yX8_laysPool ∈ zj_tbl := List.mem_filter.mpr ⟨List.mem_of_getElem? (i := 42) (by decide +kernel), by decide +kernel⟩
theorem lm_X8_190 : zj_vl RX8 190 8 yX8_laysPool cX8_laysPool 6 none 2 := ⟨zw_yX8_laysPool, zl_X8_190, zn_yX8_laysPool, _, rfl, zv_yX8_laysPool⟩
theorem zl_L_89 : Cond.methodLink RL 89 yX8_chances ∈ zj_tbl := List.mem_filter.mpr ⟨List.mem_of_getElem? (i := 1153) (by decide +kernel), by decide +kernel⟩
theorem zn_yX8_chances : Cond.instanceMethod yX8_chances ∈ zj_tbl := List.mem_filter.mpr ⟨List.mem_of_getElem? (i := 1154) (by decide +kernel), by decide +kernel⟩
theorem zv_yX8_chances : Cond.selects RX8 yX8_chances yX8_chances ∈ zj_tbl := List.mem_filter.mpr ⟨List.mem_of_getElem? (i := 1155) (by decide +kernel), by decide +kernel⟩
theorem lm_L_89 : zj_vl RL 89 8 yX8_chances cX8_chances 5 (some .int) 2 := ⟨zw_yX8_chances, zl_L_89, zn_yX8_chances, _, rfl, zv_yX8_chances⟩
theorem zl_L_93 : Cond.methodLink RL 93 yX8_worst ∈ zj_tbl := List.mem_filter.mpr ⟨List.mem_of_getElem? (i := 1157) (by decide +kernel), by decide +kernel⟩
theorem zn_yX8_worst : Cond.instanceMethod yX8_worst ∈ zj_tbl := List.mem_filter.mpr ⟨List.mem_of_getElem? (i := 1158) (by decide +kernel), by decide +kernel⟩
theorem zv_yX8_worst : Cond.selects RX8 yX8_worst yX8_worst ∈ zj_tbl := List.mem_filter.mpr ⟨List.mem_of_getElem? (i := 1159) (by decide +kernel), by decide +kernel⟩
theorem lm_L_93 : zj_vl RL 93 8 yX8_worst cX8_worst 2 (some .int) 1 := ⟨zw_yX8_worst, zl_L_93, zn_yX8_worst, _, rfl, zv_yX8_worst⟩
theorem zl_L_97 : Cond.methodLink RL 97 yX8_draw ∈ zj_tbl := List.mem_filter.mpr ⟨List.mem_of_getElem? (i := 1161) (by decide +kernel), by decide +kernel⟩
theorem zn_yX8_draw : Cond.instanceMethod yX8_draw ∈ zj_tbl := List.mem_filter.mpr ⟨List.mem_of_getElem? (i := 1162) (by decide +kernel), by decide +kernel⟩
theorem zv_yX8_draw : Cond.selects RX8 yX8_draw yX8_draw ∈ zj_tbl := List.mem_filter.mpr ⟨List.mem_of_getElem? (i := 1163) (by decide +kernel), by decide +kernel⟩
theorem lm_L_97 : zj_vl RL 97 8 yX8_draw cX8_draw 2 (some .int) 1 := ⟨zw_yX8_draw, zl_L_97, zn_yX8_draw, _, rfl, zv_yX8_draw⟩
theorem zl_X8_197 : Cond.methodLink RX8 197 yX8_draws ∈ zj_tbl := List.mem_filter.mpr ⟨List.mem_of_getElem? (i := 1165) (by decide +kernel), by decide +kernel⟩
theorem zn_yX8_draws : Cond.instanceMethod yX8_draws ∈ zj_tbl := List.mem_filter.mpr ⟨List.mem_of_getElem? (i := 1167) (by decide +kernel), by decide +kernel⟩
theorem zv_yX8_draws : Cond.selects RX8 yX8_draws yX8_draws ∈ zj_tbl := List.mem_filter.mpr ⟨List.mem_of_getElem? (i := 43) (by decide +kernel), by decide +kernel⟩
theorem lm_X8_197 : zj_vl RX8 197 8 yX8_draws cX8_draws 3 (some .boolean) 2 := ⟨zw_yX8_draws, zl_X8_197, zn_yX8_draws, _, rfl, zv_yX8_draws⟩
theorem zl_X8_201 : Cond.methodLink RX8 201 yX8_stay ∈ zj_tbl := List.mem_filter.mpr ⟨List.mem_of_getElem? (i := 1170) (by decide +kernel), by decide +kernel⟩
theorem zn_yX8_stay : Cond.instanceMethod yX8_stay ∈ zj_tbl := List.mem_filter.mpr ⟨List.mem_of_getElem? (i := 1172) (by decide +kernel), by decide +kernel⟩
theorem zv_yX8_stay : Cond.selects RX8 yX8_stay yX8_stay ∈ zj_tbl := List.mem_filter.mpr ⟨List.mem_of_getElem? (i := 44) (by decide +kernel), by decide +kernel⟩
theorem lm_X8_201 : zj_vl RX8 201 8 yX8_stay cX8_stay 1 none 0 := ⟨zw_yX8_stay, zl_X8_201, zn_yX8_stay, _, rfl, zv_yX8_stay⟩
theorem zl_X8_193 : Cond.methodLink RX8 193 yX8_snap ∈ zj_tbl := List.mem_filter.mpr ⟨List.mem_of_getElem? (i := 1174) (by decide +kernel), by decide +kernel⟩
theorem zn_yX8_snap : Cond.instanceMethod yX8_snap ∈ zj_tbl := List.mem_filter.mpr ⟨List.mem_of_getElem? (i := 1176) (by decide +kernel), by decide +kernel⟩
theorem zv_yX8_snap : Cond.selects RX8 yX8_snap yX8_snap ∈ zj_tbl := List.mem_filter.mpr ⟨List.mem_of_getElem? (i := 45) (by decide +kernel), by decide +kernel⟩
theorem lm_X8_193 : zj_vl RX8 193 8 yX8_snap cX8_snap 2 none 0 := ⟨zw_yX8_snap, zl_X8_193, zn_yX8_snap, _, rfl, zv_yX8_snap⟩
theorem zl_L_101 : Cond.methodLink RL 101 yX8_drawAll ∈ zj_tbl := List.mem_filter.mpr ⟨List.mem_of_getElem? (i := 1178) (by decide +kernel), by decide +kernel⟩
theorem zn_yX8_drawAll : Cond.instanceMethod yX8_drawAll ∈ zj_tbl := List.mem_filter.mpr ⟨List.mem_of_getElem? (i := 1179) (by decide +kernel), by decide +kernel⟩
theorem zv_yX8_drawAll : Cond.selects RX8 yX8_drawAll yX8_drawAll ∈ zj_tbl := List.mem_filter.mpr ⟨List.mem_of_getElem? (i := 1180) (by decide +kernel), by decide +kernel⟩
theorem lm_L_101 : zj_vl RL 101 8 yX8_drawAll cX8_drawAll 2 (some .int) 0 := ⟨zw_yX8_drawAll, zl_L_101, zn_yX8_drawAll, _, rfl, zv_yX8_drawAll⟩
theorem zl_X8_204 : Cond.methodLink RX8 204 yX8_drawsAll ∈ zj_tbl := List.mem_filter.mpr ⟨List.mem_of_getElem? (i := 1182) (by decide +kernel), by decide +kernel⟩
theorem zn_yX8_drawsAll : Cond.instanceMethod yX8_drawsAll ∈ zj_tbl := List.mem_filter.mpr ⟨List.mem_of_getElem? (i := 1184) (by decide +kernel), by decide +kernel⟩
theorem zv_yX8_drawsAll : Cond.selects RX8 yX8_drawsAll yX8_drawsAll ∈ zj_tbl := List.mem_filter.mpr ⟨List.mem_of_getElem? (i := 46) (by decide +kernel), by decide +kernel⟩
theorem lm_X8_204 : zj_vl RX8 204 8 yX8_drawsAll cX8_drawsAll 4 (some .int) 1 := ⟨zw_yX8_drawsAll, zl_X8_204, zn_yX8_drawsAll, _, rfl, zv_yX8_drawsAll⟩
theorem zl_L_105 : Cond.methodLink RL 105 yX8_recuse ∈ zj_tbl := List.mem_filter.mpr ⟨List.mem_of_getElem? (i := 1186) (by decide +kernel), by decide +kernel⟩
theorem zn_yX8_recuse : Cond.instanceMethod yX8_recuse ∈ zj_tbl := List.mem_filter.mpr ⟨List.mem_of_getElem? (i := 1187) (by decide +kernel), by decide +kernel⟩
theorem zv_yX8_recuse : Cond.selects RX8 yX8_recuse yX8_recuse ∈ zj_tbl := List.mem_filter.mpr ⟨List.mem_of_getElem? (i := 1188) (by decide +kernel), by decide +kernel⟩
theorem lm_L_105 : zj_vl RL 105 8 yX8_recuse cX8_recuse 3 (some .int) 2 := ⟨zw_yX8_recuse, zl_L_105, zn_yX8_recuse, _, rfl, zv_yX8_recuse⟩
theorem zl_X8_208 : Cond.methodLink RX8 208 yX8_repairs ∈ zj_tbl := List.mem_filter.mpr ⟨List.mem_of_getElem? (i := 1190) (by decide +kernel), by decide +kernel⟩
theorem zn_yX8_repairs : Cond.instanceMethod yX8_repairs ∈ zj_tbl := List.mem_filter.mpr ⟨List.mem_of_getElem? (i := 1192) (by decide +kernel), by decide +kernel⟩
theorem zv_yX8_repairs : Cond.selects RX8 yX8_repairs yX8_repairs ∈ zj_tbl := List.mem_filter.mpr ⟨List.mem_of_getElem? (i := 47) (by decide +kernel), by decide +kernel⟩
theorem lm_X8_208 : zj_vl RX8 208 8 yX8_repairs cX8_repairs 9 (some .int) 2 := ⟨zw_yX8_repairs, zl_X8_208, zn_yX8_repairs, _, rfl, zv_yX8_repairs⟩
theorem zl_L_109 : Cond.methodLink RL 109 yX8_leave ∈ zj_tbl := List.mem_filter.mpr ⟨List.mem_of_getElem? (i := 1194) (by decide +kernel), by decide +kernel⟩
theorem zn_yX8_leave : Cond.instanceMethod yX8_leave ∈ zj_tbl := List.mem_filter.mpr ⟨List.mem_of_getElem? (i := 1195) (by decide +kernel), by decide +kernel⟩
theorem zv_yX8_leave : Cond.selects RX8 yX8_leave yX8_leave ∈ zj_tbl := List.mem_filter.mpr ⟨List.mem_of_getElem? (i := 1196) (by decide +kernel), by decide +kernel⟩
theorem lm_L_109 : zj_vl RL 109 8 yX8_leave cX8_leave 4 (some .int) 1 := ⟨zw_yX8_leave, zl_L_109, zn_yX8_leave, _, rfl, zv_yX8_leave⟩
theorem zl_L_113 : Cond.methodLink RL 113 yX8_come ∈ zj_tbl := List.mem_filter.mpr ⟨List.mem_of_getElem? (i := 1198) (by decide +kernel), by decide +kernel⟩
theorem zn_yX8_come : Cond.instanceMethod yX8_come ∈ zj_tbl := List.mem_filter.mpr ⟨List.mem_of_getElem? (i := 1199) (by decide +kernel), by decide +kernel⟩
theorem zv_yX8_come : Cond.selects RX8 yX8_come yX8_come ∈ zj_tbl := List.mem_filter.mpr ⟨List.mem_of_getElem? (i := 1200) (by decide +kernel), by decide +kernel⟩
theorem lm_L_113 : zj_vl RL 113 8 yX8_come cX8_come 2 (some .int) 1 := ⟨zw_yX8_come, zl_L_113, zn_yX8_come, _, rfl, zv_yX8_come⟩
theorem zl_L_117 : Cond.methodLink RL 117 yX8_hear ∈ zj_tbl := List.mem_filter.mpr ⟨List.mem_of_getElem? (i := 1202) (by decide +kernel), by decide +kernel⟩
theorem zn_yX8_hear : Cond.instanceMethod yX8_hear ∈ zj_tbl := List.mem_filter.mpr ⟨List.mem_of_getElem? (i := 1203) (by decide +kernel), by decide +kernel⟩
theorem zv_yX8_hear : Cond.selects RX8 yX8_hear yX8_hear ∈ zj_tbl := List.mem_filter.mpr ⟨List.mem_of_getElem? (i := 1204) (by decide +kernel), by decide +kernel⟩
theorem lm_L_117 : zj_vl RL 117 8 yX8_hear cX8_hear 2 (some .int) 1 := ⟨zw_yX8_hear, zl_L_117, zn_yX8_hear, _, rfl, zv_yX8_hear⟩
theorem zl_L_121 : Cond.methodLink RL 121 yX8_evenness ∈ zj_tbl := List.mem_filter.mpr ⟨List.mem_of_getElem? (i := 1206) (by decide +kernel), by decide +kernel⟩
theorem zn_yX8_evenness : Cond.instanceMethod yX8_evenness ∈ zj_tbl := List.mem_filter.mpr ⟨List.mem_of_getElem? (i := 1207) (by decide +kernel), by decide +kernel⟩
theorem zv_yX8_evenness : Cond.selects RX8 yX8_evenness yX8_evenness ∈ zj_tbl := List.mem_filter.mpr ⟨List.mem_of_getElem? (i := 1208) (by decide +kernel), by decide +kernel⟩
theorem lm_L_121 : zj_vl RL 121 8 yX8_evenness cX8_evenness 1 (some .int) 0 := ⟨zw_yX8_evenness, zl_L_121, zn_yX8_evenness, _, rfl, zv_yX8_evenness⟩
theorem zl_X8_211 : Cond.methodLink RX8 211 yX8_evennessNow ∈ zj_tbl := List.mem_filter.mpr ⟨List.mem_of_getElem? (i := 1210) (by decide +kernel), by decide +kernel⟩
theorem zn_yX8_evennessNow : Cond.instanceMethod yX8_evennessNow ∈ zj_tbl := List.mem_filter.mpr ⟨List.mem_of_getElem? (i := 1212) (by decide +kernel), by decide +kernel⟩
theorem zv_yX8_evennessNow : Cond.selects RX8 yX8_evennessNow yX8_evennessNow ∈ zj_tbl := List.mem_filter.mpr ⟨List.mem_of_getElem? (i := 48) (by decide +kernel), by decide +kernel⟩
theorem lm_X8_211 : zj_vl RX8 211 8 yX8_evennessNow cX8_evennessNow 4 (some .int) 0 := ⟨zw_yX8_evennessNow, zl_X8_211, zn_yX8_evennessNow, _, rfl, zv_yX8_evennessNow⟩
theorem zl_L_125 : Cond.methodLink RL 125 yX8_better ∈ zj_tbl := List.mem_filter.mpr ⟨List.mem_of_getElem? (i := 1214) (by decide +kernel), by decide +kernel⟩
theorem zn_yX8_better : Cond.instanceMethod yX8_better ∈ zj_tbl := List.mem_filter.mpr ⟨List.mem_of_getElem? (i := 1215) (by decide +kernel), by decide +kernel⟩
theorem zv_yX8_better : Cond.selects RX8 yX8_better yX8_better ∈ zj_tbl := List.mem_filter.mpr ⟨List.mem_of_getElem? (i := 1216) (by decide +kernel), by decide +kernel⟩
theorem lm_L_125 : zj_vl RL 125 8 yX8_better cX8_better 2 (some .int) 1 := ⟨zw_yX8_better, zl_L_125, zn_yX8_better, _, rfl, zv_yX8_better⟩
theorem zl_X8_237 : Cond.methodLink RX8 237 yX8_laysBetter ∈ zj_tbl := List.mem_filter.mpr ⟨List.mem_of_getElem? (i := 1218) (by decide +kernel), by decide +kernel⟩
theorem zn_yX8_laysBetter : Cond.instanceMethod yX8_laysBetter ∈ zj_tbl := List.mem_filter.mpr ⟨List.mem_of_getElem? (i := 1220) (by decide +kernel), by decide +kernel⟩
theorem zv_yX8_laysBetter : Cond.selects RX8 yX8_laysBetter yX8_laysBetter ∈ zj_tbl := List.mem_filter.mpr ⟨List.mem_of_getElem? (i := 49) (by decide +kernel), by decide +kernel⟩
theorem lm_X8_237 : zj_vl RX8 237 8 yX8_laysBetter cX8_laysBetter 6 (some .boolean) 0 := ⟨zw_yX8_laysBetter, zl_X8_237, zn_yX8_laysBetter, _, rfl, zv_yX8_laysBetter⟩
theorem zl_X8_218 : Cond.methodLink RX8 218 yX8_exchanges ∈ zj_tbl := List.mem_filter.mpr ⟨List.mem_of_getElem? (i := 1222) (by decide +kernel), by decide +kernel⟩
theorem zn_yX8_exchanges : Cond.instanceMethod yX8_exchanges ∈ zj_tbl := List.mem_filter.mpr ⟨List.mem_of_getElem? (i := 1224) (by decide +kernel), by decide +kernel⟩
theorem zv_yX8_exchanges : Cond.selects RX8 yX8_exchanges yX8_exchanges ∈ zj_tbl := List.mem_filter.mpr ⟨List.mem_of_getElem? (i := 50) (by decide +kernel), by decide +kernel⟩
theorem lm_X8_218 : zj_vl RX8 218 8 yX8_exchanges cX8_exchanges 8 (some .boolean) 4 := ⟨zw_yX8_exchanges, zl_X8_218, zn_yX8_exchanges, _, rfl, zv_yX8_exchanges⟩
theorem zl_X8_214 : Cond.methodLink RX8 214 yX8_changes ∈ zj_tbl := List.mem_filter.mpr ⟨List.mem_of_getElem? (i := 1226) (by decide +kernel), by decide +kernel⟩
theorem zn_yX8_changes : Cond.instanceMethod yX8_changes ∈ zj_tbl := List.mem_filter.mpr ⟨List.mem_of_getElem? (i := 1228) (by decide +kernel), by decide +kernel⟩
theorem zv_yX8_changes : Cond.selects RX8 yX8_changes yX8_changes ∈ zj_tbl := List.mem_filter.mpr ⟨List.mem_of_getElem? (i := 51) (by decide +kernel), by decide +kernel⟩
theorem lm_X8_214 : zj_vl RX8 214 8 yX8_changes cX8_changes 4 none 3 := ⟨zw_yX8_changes, zl_X8_214, zn_yX8_changes, _, rfl, zv_yX8_changes⟩
theorem zl_L_130 : Cond.methodLink RL 130 yX8_exchange ∈ zj_tbl := List.mem_filter.mpr ⟨List.mem_of_getElem? (i := 1230) (by decide +kernel), by decide +kernel⟩
theorem zn_yX8_exchange : Cond.instanceMethod yX8_exchange ∈ zj_tbl := List.mem_filter.mpr ⟨List.mem_of_getElem? (i := 1231) (by decide +kernel), by decide +kernel⟩
theorem zv_yX8_exchange : Cond.selects RX8 yX8_exchange yX8_exchange ∈ zj_tbl := List.mem_filter.mpr ⟨List.mem_of_getElem? (i := 1232) (by decide +kernel), by decide +kernel⟩
theorem lm_L_130 : zj_vl RL 130 8 yX8_exchange cX8_exchange 5 (some .int) 4 := ⟨zw_yX8_exchange, zl_L_130, zn_yX8_exchange, _, rfl, zv_yX8_exchange⟩
theorem zl_L_134 : Cond.methodLink RL 134 yX8_smooth ∈ zj_tbl := List.mem_filter.mpr ⟨List.mem_of_getElem? (i := 1234) (by decide +kernel), by decide +kernel⟩
theorem zn_yX8_smooth : Cond.instanceMethod yX8_smooth ∈ zj_tbl := List.mem_filter.mpr ⟨List.mem_of_getElem? (i := 1235) (by decide +kernel), by decide +kernel⟩
theorem zv_yX8_smooth : Cond.selects RX8 yX8_smooth yX8_smooth ∈ zj_tbl := List.mem_filter.mpr ⟨List.mem_of_getElem? (i := 1236) (by decide +kernel), by decide +kernel⟩
theorem lm_L_134 : zj_vl RL 134 8 yX8_smooth cX8_smooth 2 (some .int) 0 := ⟨zw_yX8_smooth, zl_L_134, zn_yX8_smooth, _, rfl, zv_yX8_smooth⟩
theorem zl_L_138 : Cond.methodLink RL 138 yX8_same ∈ zj_tbl := List.mem_filter.mpr ⟨List.mem_of_getElem? (i := 1238) (by decide +kernel), by decide +kernel⟩
theorem zn_yX8_same : Cond.instanceMethod yX8_same ∈ zj_tbl := List.mem_filter.mpr ⟨List.mem_of_getElem? (i := 1239) (by decide +kernel), by decide +kernel⟩
theorem zv_yX8_same : Cond.selects RX8 yX8_same yX8_same ∈ zj_tbl := List.mem_filter.mpr ⟨List.mem_of_getElem? (i := 1240) (by decide +kernel), by decide +kernel⟩
theorem lm_L_138 : zj_vl RL 138 8 yX8_same cX8_same 3 (some .int) 0 := ⟨zw_yX8_same, zl_L_138, zn_yX8_same, _, rfl, zv_yX8_same⟩
theorem zl_X8_240 : Cond.methodLink RX8 240 yX8_laysAnew ∈ zj_tbl := List.mem_filter.mpr ⟨List.mem_of_getElem? (i := 1242) (by decide +kernel), by decide +kernel⟩
theorem zn_yX8_laysAnew : Cond.instanceMethod yX8_laysAnew ∈ zj_tbl := List.mem_filter.mpr ⟨List.mem_of_getElem? (i := 1244) (by decide +kernel), by decide +kernel⟩
theorem zv_yX8_laysAnew : Cond.selects RX8 yX8_laysAnew yX8_laysAnew ∈ zj_tbl := List.mem_filter.mpr ⟨List.mem_of_getElem? (i := 52) (by decide +kernel), by decide +kernel⟩
theorem lm_X8_240 : zj_vl RX8 240 8 yX8_laysAnew cX8_laysAnew 2 none 0 := ⟨zw_yX8_laysAnew, zl_X8_240, zn_yX8_laysAnew, _, rfl, zv_yX8_laysAnew⟩
theorem zl_L_142 : Cond.methodLink RL 142 yX8_anew ∈ zj_tbl := List.mem_filter.mpr ⟨List.mem_of_getElem? (i := 1246) (by decide +kernel), by decide +kernel⟩
theorem zn_yX8_anew : Cond.instanceMethod yX8_anew ∈ zj_tbl := List.mem_filter.mpr ⟨List.mem_of_getElem? (i := 1247) (by decide +kernel), by decide +kernel⟩
theorem zv_yX8_anew : Cond.selects RX8 yX8_anew yX8_anew ∈ zj_tbl := List.mem_filter.mpr ⟨List.mem_of_getElem? (i := 1248) (by decide +kernel), by decide +kernel⟩
theorem lm_L_142 : zj_vl RL 142 8 yX8_anew cX8_anew 2 (some .int) 1 := ⟨zw_yX8_anew, zl_L_142, zn_yX8_anew, _, rfl, zv_yX8_anew⟩
theorem zl_L_146 : Cond.methodLink RL 146 yX8_undo ∈ zj_tbl := List.mem_filter.mpr ⟨List.mem_of_getElem? (i := 1250) (by decide +kernel), by decide +kernel⟩
theorem zn_yX8_undo : Cond.instanceMethod yX8_undo ∈ zj_tbl := List.mem_filter.mpr ⟨List.mem_of_getElem? (i := 1251) (by decide +kernel), by decide +kernel⟩
theorem zv_yX8_undo : Cond.selects RX8 yX8_undo yX8_undo ∈ zj_tbl := List.mem_filter.mpr ⟨List.mem_of_getElem? (i := 1252) (by decide +kernel), by decide +kernel⟩
theorem lm_L_146 : zj_vl RL 146 8 yX8_undo cX8_undo 1 (some .int) 0 := ⟨zw_yX8_undo, zl_L_146, zn_yX8_undo, _, rfl, zv_yX8_undo⟩
theorem lk_X0_107 : Jvm.Cond.constant RX0 107 2147483647 ∈ zj_tbl := List.mem_filter.mpr ⟨List.mem_of_getElem? (i := 569) (by decide +kernel), by decide +kernel⟩
theorem lk_X0_162 : Jvm.Cond.constant RX0 162 1103515245 ∈ zj_tbl := List.mem_filter.mpr ⟨List.mem_of_getElem? (i := 575) (by decide +kernel), by decide +kernel⟩
theorem lk_J6_265 : Jvm.Cond.constant RJ6 265 1431655765 ∈ zj_tbl := List.mem_filter.mpr ⟨List.mem_of_getElem? (i := 646) (by decide +kernel), by decide +kernel⟩
theorem lk_J6_266 : Jvm.Cond.constant RJ6 266 858993459 ∈ zj_tbl := List.mem_filter.mpr ⟨List.mem_of_getElem? (i := 647) (by decide +kernel), by decide +kernel⟩
theorem lk_J6_267 : Jvm.Cond.constant RJ6 267 252645135 ∈ zj_tbl := List.mem_filter.mpr ⟨List.mem_of_getElem? (i := 648) (by decide +kernel), by decide +kernel⟩
theorem lk_X8_48 : Jvm.Cond.constantLong RX8 48 27 ∈ zj_tbl := List.mem_filter.mpr ⟨List.mem_of_getElem? (i := 1012) (by decide +kernel), by decide +kernel⟩
theorem lk_X8_50 : Jvm.Cond.constantLong RX8 50 96 ∈ zj_tbl := List.mem_filter.mpr ⟨List.mem_of_getElem? (i := 1013) (by decide +kernel), by decide +kernel⟩
theorem lk_X8_196 : Jvm.Cond.constant RX8 196 1103515245 ∈ zj_tbl := List.mem_filter.mpr ⟨List.mem_of_getElem? (i := 1169) (by decide +kernel), by decide +kernel⟩
theorem zz_acn : Cond.native arraycopyName ∈ zj_tbl := List.mem_filter.mpr ⟨List.mem_of_getElem? (i := 494) (by decide +kernel), by decide +kernel⟩
theorem zz_acs : Cond.static arraycopyName ∈ zj_tbl := List.mem_filter.mpr ⟨List.mem_of_getElem? (i := 493) (by decide +kernel), by decide +kernel⟩
theorem zz_aci : Cond.initialized "java/lang/System" ∈ zj_tbl := List.mem_filter.mpr ⟨List.mem_of_getElem? (i := 68) (by decide +kernel), by decide +kernel⟩
theorem zl_X6_46 : Cond.methodLink RX6 46 arraycopyName ∈ zj_tbl := List.mem_filter.mpr ⟨List.mem_of_getElem? (i := 492) (by decide +kernel), by decide +kernel⟩
theorem zl_X1_38 : Cond.methodLink RX1 38 arraycopyName ∈ zj_tbl := List.mem_filter.mpr ⟨List.mem_of_getElem? (i := 510) (by decide +kernel), by decide +kernel⟩

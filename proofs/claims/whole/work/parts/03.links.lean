-- links: fields, methods, classes, constants, by own class and index
theorem fl_X0_9 : mFL RX0 9 0 0 := ⟨RX0, TX0, 7, rfl, rfl, by decide, muX0, mg_in (i := 84) (by decide +kernel) (by decide +kernel), tyX0_ok, nmX0, rfl⟩
theorem fl_X5_30 : mFL RX5 30 0 0 := ⟨RX0, TX0, 7, rfl, rfl, by decide, muX0, mg_in (i := 85) (by decide +kernel) (by decide +kernel), tyX0_ok, nmX0, rfl⟩
theorem fl_X0_15 : mFL RX0 15 0 1 := ⟨RX0, TX0, 7, rfl, rfl, by decide, muX0, mg_in (i := 86) (by decide +kernel) (by decide +kernel), tyX0_ok, nmX0, rfl⟩
theorem fl_X4_74 : mFL RX4 74 0 1 := ⟨RX0, TX0, 7, rfl, rfl, by decide, muX0, mg_in (i := 87) (by decide +kernel) (by decide +kernel), tyX0_ok, nmX0, rfl⟩
theorem fl_X6_83 : mFL RX6 83 0 1 := ⟨RX0, TX0, 7, rfl, rfl, by decide, muX0, mg_in (i := 88) (by decide +kernel) (by decide +kernel), tyX0_ok, nmX0, rfl⟩
theorem fl_X0_19 : mFL RX0 19 0 2 := ⟨RX0, TX0, 7, rfl, rfl, by decide, muX0, mg_in (i := 89) (by decide +kernel) (by decide +kernel), tyX0_ok, nmX0, rfl⟩
theorem fl_X6_87 : mFL RX6 87 0 2 := ⟨RX0, TX0, 7, rfl, rfl, by decide, muX0, mg_in (i := 90) (by decide +kernel) (by decide +kernel), tyX0_ok, nmX0, rfl⟩
theorem fl_X0_22 : mFL RX0 22 0 3 := ⟨RX0, TX0, 7, rfl, rfl, by decide, muX0, mg_in (i := 91) (by decide +kernel) (by decide +kernel), tyX0_ok, nmX0, rfl⟩
theorem fl_X4_111 : mFL RX4 111 0 3 := ⟨RX0, TX0, 7, rfl, rfl, by decide, muX0, mg_in (i := 92) (by decide +kernel) (by decide +kernel), tyX0_ok, nmX0, rfl⟩
theorem fl_X6_90 : mFL RX6 90 0 3 := ⟨RX0, TX0, 7, rfl, rfl, by decide, muX0, mg_in (i := 93) (by decide +kernel) (by decide +kernel), tyX0_ok, nmX0, rfl⟩
theorem fl_X0_25 : mFL RX0 25 0 4 := ⟨RX0, TX0, 7, rfl, rfl, by decide, muX0, mg_in (i := 94) (by decide +kernel) (by decide +kernel), tyX0_ok, nmX0, rfl⟩
theorem fl_X4_120 : mFL RX4 120 0 4 := ⟨RX0, TX0, 7, rfl, rfl, by decide, muX0, mg_in (i := 95) (by decide +kernel) (by decide +kernel), tyX0_ok, nmX0, rfl⟩
theorem fl_X6_93 : mFL RX6 93 0 4 := ⟨RX0, TX0, 7, rfl, rfl, by decide, muX0, mg_in (i := 96) (by decide +kernel) (by decide +kernel), tyX0_ok, nmX0, rfl⟩
theorem fl_X0_28 : mFL RX0 28 0 5 := ⟨RX0, TX0, 7, rfl, rfl, by decide, muX0, mg_in (i := 97) (by decide +kernel) (by decide +kernel), tyX0_ok, nmX0, rfl⟩
theorem fl_X4_114 : mFL RX4 114 0 5 := ⟨RX0, TX0, 7, rfl, rfl, by decide, muX0, mg_in (i := 98) (by decide +kernel) (by decide +kernel), tyX0_ok, nmX0, rfl⟩
theorem fl_X6_99 : mFL RX6 99 0 5 := ⟨RX0, TX0, 7, rfl, rfl, by decide, muX0, mg_in (i := 99) (by decide +kernel) (by decide +kernel), tyX0_ok, nmX0, rfl⟩
theorem fl_X0_31 : mFL RX0 31 0 6 := ⟨RX0, TX0, 7, rfl, rfl, by decide, muX0, mg_in (i := 100) (by decide +kernel) (by decide +kernel), tyX0_ok, nmX0, rfl⟩
theorem fl_X4_123 : mFL RX4 123 0 6 := ⟨RX0, TX0, 7, rfl, rfl, by decide, muX0, mg_in (i := 101) (by decide +kernel) (by decide +kernel), tyX0_ok, nmX0, rfl⟩
theorem fl_X6_102 : mFL RX6 102 0 6 := ⟨RX0, TX0, 7, rfl, rfl, by decide, muX0, mg_in (i := 102) (by decide +kernel) (by decide +kernel), tyX0_ok, nmX0, rfl⟩
theorem fl_X2_9 : mFL RX2 9 2 0 := ⟨RX2, TX2, 5, rfl, rfl, by decide, muX2, mg_in (i := 125) (by decide +kernel) (by decide +kernel), tyX2_ok, nmX2, rfl⟩
theorem fl_X6_130 : mFL RX6 130 2 0 := ⟨RX2, TX2, 5, rfl, rfl, by decide, muX2, mg_in (i := 126) (by decide +kernel) (by decide +kernel), tyX2_ok, nmX2, rfl⟩
theorem fl_X2_15 : mFL RX2 15 2 1 := ⟨RX2, TX2, 5, rfl, rfl, by decide, muX2, mg_in (i := 127) (by decide +kernel) (by decide +kernel), tyX2_ok, nmX2, rfl⟩
theorem fl_X6_135 : mFL RX6 135 2 1 := ⟨RX2, TX2, 5, rfl, rfl, by decide, muX2, mg_in (i := 128) (by decide +kernel) (by decide +kernel), tyX2_ok, nmX2, rfl⟩
theorem fl_X2_18 : mFL RX2 18 2 2 := ⟨RX2, TX2, 5, rfl, rfl, by decide, muX2, mg_in (i := 129) (by decide +kernel) (by decide +kernel), tyX2_ok, nmX2, rfl⟩
theorem fl_X6_155 : mFL RX6 155 2 2 := ⟨RX2, TX2, 5, rfl, rfl, by decide, muX2, mg_in (i := 130) (by decide +kernel) (by decide +kernel), tyX2_ok, nmX2, rfl⟩
theorem fl_X2_21 : mFL RX2 21 2 3 := ⟨RX2, TX2, 5, rfl, rfl, by decide, muX2, mg_in (i := 131) (by decide +kernel) (by decide +kernel), tyX2_ok, nmX2, rfl⟩
theorem fl_X6_142 : mFL RX6 142 2 3 := ⟨RX2, TX2, 5, rfl, rfl, by decide, muX2, mg_in (i := 132) (by decide +kernel) (by decide +kernel), tyX2_ok, nmX2, rfl⟩
theorem fl_X2_24 : mFL RX2 24 2 4 := ⟨RX2, TX2, 5, rfl, rfl, by decide, muX2, mg_in (i := 133) (by decide +kernel) (by decide +kernel), tyX2_ok, nmX2, rfl⟩
theorem fl_X6_138 : mFL RX6 138 2 4 := ⟨RX2, TX2, 5, rfl, rfl, by decide, muX2, mg_in (i := 134) (by decide +kernel) (by decide +kernel), tyX2_ok, nmX2, rfl⟩
theorem fl_X4_9 : mFL RX4 9 4 0 := ⟨RX4, TX4, 6, rfl, rfl, by decide, muX4, mg_in (i := 146) (by decide +kernel) (by decide +kernel), tyX4_ok, nmX4, rfl⟩
theorem fl_X6_145 : mFL RX6 145 4 0 := ⟨RX4, TX4, 6, rfl, rfl, by decide, muX4, mg_in (i := 147) (by decide +kernel) (by decide +kernel), tyX4_ok, nmX4, rfl⟩
theorem fl_X4_24 : mFL RX4 24 4 1 := ⟨RX4, TX4, 6, rfl, rfl, by decide, muX4, mg_in (i := 148) (by decide +kernel) (by decide +kernel), tyX4_ok, nmX4, rfl⟩
theorem fl_X6_167 : mFL RX6 167 4 1 := ⟨RX4, TX4, 6, rfl, rfl, by decide, muX4, mg_in (i := 149) (by decide +kernel) (by decide +kernel), tyX4_ok, nmX4, rfl⟩
theorem fl_X4_30 : mFL RX4 30 4 2 := ⟨RX4, TX4, 6, rfl, rfl, by decide, muX4, mg_in (i := 150) (by decide +kernel) (by decide +kernel), tyX4_ok, nmX4, rfl⟩
theorem fl_X5_26 : mFL RX5 26 4 2 := ⟨RX4, TX4, 6, rfl, rfl, by decide, muX4, mg_in (i := 151) (by decide +kernel) (by decide +kernel), tyX4_ok, nmX4, rfl⟩
theorem fl_X6_73 : mFL RX6 73 4 2 := ⟨RX4, TX4, 6, rfl, rfl, by decide, muX4, mg_in (i := 152) (by decide +kernel) (by decide +kernel), tyX4_ok, nmX4, rfl⟩
theorem fl_X4_37 : mFL RX4 37 4 3 := ⟨RX4, TX4, 6, rfl, rfl, by decide, muX4, mg_in (i := 153) (by decide +kernel) (by decide +kernel), tyX4_ok, nmX4, rfl⟩
theorem fl_X6_126 : mFL RX6 126 4 3 := ⟨RX4, TX4, 6, rfl, rfl, by decide, muX4, mg_in (i := 154) (by decide +kernel) (by decide +kernel), tyX4_ok, nmX4, rfl⟩
theorem fl_X4_41 : mFL RX4 41 4 4 := ⟨RX4, TX4, 6, rfl, rfl, by decide, muX4, mg_in (i := 155) (by decide +kernel) (by decide +kernel), tyX4_ok, nmX4, rfl⟩
theorem fl_X6_117 : mFL RX6 117 4 4 := ⟨RX4, TX4, 6, rfl, rfl, by decide, muX4, mg_in (i := 156) (by decide +kernel) (by decide +kernel), tyX4_ok, nmX4, rfl⟩
theorem fl_X4_44 : mFL RX4 44 4 5 := ⟨RX4, TX4, 6, rfl, rfl, by decide, muX4, mg_in (i := 157) (by decide +kernel) (by decide +kernel), tyX4_ok, nmX4, rfl⟩
theorem fl_X6_123 : mFL RX6 123 4 5 := ⟨RX4, TX4, 6, rfl, rfl, by decide, muX4, mg_in (i := 158) (by decide +kernel) (by decide +kernel), tyX4_ok, nmX4, rfl⟩
theorem fl_X1_11 : mFL RX1 11 1 0 := ⟨RX1, TX1, 2, rfl, rfl, by decide, muX1, mg_in (i := 181) (by decide +kernel) (by decide +kernel), tyX1_ok, nmX1, rfl⟩
theorem fl_X1_17 : mFL RX1 17 1 1 := ⟨RX1, TX1, 2, rfl, rfl, by decide, muX1, mg_in (i := 182) (by decide +kernel) (by decide +kernel), tyX1_ok, nmX1, rfl⟩
theorem fl_X6_173 : mFL RX6 173 1 1 := ⟨RX1, TX1, 2, rfl, rfl, by decide, muX1, mg_in (i := 183) (by decide +kernel) (by decide +kernel), tyX1_ok, nmX1, rfl⟩
theorem fl_X5_12 : mFL RX5 12 5 0 := ⟨RX5, TX5, 2, rfl, rfl, by decide, muX5, mg_in (i := 197) (by decide +kernel) (by decide +kernel), tyX5_ok, nmX5, rfl⟩
theorem fl_X5_18 : mFL RX5 18 5 1 := ⟨RX5, TX5, 2, rfl, rfl, by decide, muX5, mg_in (i := 198) (by decide +kernel) (by decide +kernel), tyX5_ok, nmX5, rfl⟩
theorem fl_X3_9 : mFL RX3 9 3 0 := ⟨RX3, TX3, 2, rfl, rfl, by decide, muX3, mg_in (i := 211) (by decide +kernel) (by decide +kernel), tyX3_ok, nmX3, rfl⟩
theorem fl_X6_230 : mFL RX6 230 3 0 := ⟨RX3, TX3, 2, rfl, rfl, by decide, muX3, mg_in (i := 212) (by decide +kernel) (by decide +kernel), tyX3_ok, nmX3, rfl⟩
theorem fl_X3_15 : mFL RX3 15 3 1 := ⟨RX3, TX3, 2, rfl, rfl, by decide, muX3, mg_in (i := 213) (by decide +kernel) (by decide +kernel), tyX3_ok, nmX3, rfl⟩
theorem fl_X6_170 : mFL RX6 170 3 1 := ⟨RX3, TX3, 2, rfl, rfl, by decide, muX3, mg_in (i := 214) (by decide +kernel) (by decide +kernel), tyX3_ok, nmX3, rfl⟩
theorem fl_X6_10 : mFL RX6 10 6 0 := ⟨RX6, TX6, 4, rfl, rfl, by decide, muX6, mg_in (i := 220) (by decide +kernel) (by decide +kernel), tyX6_ok, nmX6, rfl⟩
theorem fl_X6_19 : mFL RX6 19 6 1 := ⟨RX6, TX6, 4, rfl, rfl, by decide, muX6, mg_in (i := 221) (by decide +kernel) (by decide +kernel), tyX6_ok, nmX6, rfl⟩
theorem fl_X6_26 : mFL RX6 26 6 2 := ⟨RX6, TX6, 4, rfl, rfl, by decide, muX6, mg_in (i := 222) (by decide +kernel) (by decide +kernel), tyX6_ok, nmX6, rfl⟩
theorem fl_X6_33 : mFL RX6 33 6 3 := ⟨RX6, TX6, 4, rfl, rfl, by decide, muX6, mg_in (i := 223) (by decide +kernel) (by decide +kernel), tyX6_ok, nmX6, rfl⟩
theorem fl_X7_29 : mFL RX7 29 7 0 := ⟨RX7, TX7, 12, rfl, rfl, by decide, muX7, mg_in (i := 589) (by decide +kernel) (by decide +kernel), tyX7_ok, nmX7, rfl⟩
theorem fl_X7_7 : mFL RX7 7 7 1 := ⟨RX7, TX7, 12, rfl, rfl, by decide, muX7, mg_in (i := 590) (by decide +kernel) (by decide +kernel), tyX7_ok, nmX7, rfl⟩
theorem fl_X7_13 : mFL RX7 13 7 2 := ⟨RX7, TX7, 12, rfl, rfl, by decide, muX7, mg_in (i := 591) (by decide +kernel) (by decide +kernel), tyX7_ok, nmX7, rfl⟩
theorem fl_X7_37 : mFL RX7 37 7 3 := ⟨RX7, TX7, 12, rfl, rfl, by decide, muX7, mg_in (i := 592) (by decide +kernel) (by decide +kernel), tyX7_ok, nmX7, rfl⟩
theorem fl_X7_16 : mFL RX7 16 7 4 := ⟨RX7, TX7, 12, rfl, rfl, by decide, muX7, mg_in (i := 593) (by decide +kernel) (by decide +kernel), tyX7_ok, nmX7, rfl⟩
theorem fl_X7_19 : mFL RX7 19 7 5 := ⟨RX7, TX7, 12, rfl, rfl, by decide, muX7, mg_in (i := 594) (by decide +kernel) (by decide +kernel), tyX7_ok, nmX7, rfl⟩
theorem fl_X7_23 : mFL RX7 23 7 6 := ⟨RX7, TX7, 12, rfl, rfl, by decide, muX7, mg_in (i := 595) (by decide +kernel) (by decide +kernel), tyX7_ok, nmX7, rfl⟩
theorem fl_X7_146 : mFL RX7 146 7 7 := ⟨RX7, TX7, 12, rfl, rfl, by decide, muX7, mg_in (i := 596) (by decide +kernel) (by decide +kernel), tyX7_ok, nmX7, rfl⟩
theorem fl_X7_151 : mFL RX7 151 7 8 := ⟨RX7, TX7, 12, rfl, rfl, by decide, muX7, mg_in (i := 597) (by decide +kernel) (by decide +kernel), tyX7_ok, nmX7, rfl⟩
theorem fl_X7_154 : mFL RX7 154 7 9 := ⟨RX7, TX7, 12, rfl, rfl, by decide, muX7, mg_in (i := 598) (by decide +kernel) (by decide +kernel), tyX7_ok, nmX7, rfl⟩
theorem fl_X7_26 : mFL RX7 26 7 10 := ⟨RX7, TX7, 12, rfl, rfl, by decide, muX7, mg_in (i := 599) (by decide +kernel) (by decide +kernel), tyX7_ok, nmX7, rfl⟩
theorem fl_X7_164 : mFL RX7 164 7 11 := ⟨RX7, TX7, 12, rfl, rfl, by decide, muX7, mg_in (i := 600) (by decide +kernel) (by decide +kernel), tyX7_ok, nmX7, rfl⟩
theorem sl_X4_15 : Cond.fieldLinkNest RX4 15 "PauseLexicons" "FIRST_SETTINGS" "[I" "PauseLexicons" ∈ mNW := mn_in (i := 69) (by decide +kernel) (by decide +kernel)
theorem sl_X4_60 : Cond.fieldLinkNest RX4 60 "PauseLexicons" "HIGHEST_SETTINGS" "[I" "PauseLexicons" ∈ mNW := mn_in (i := 262) (by decide +kernel) (by decide +kernel)
theorem sl_X4_136 : Cond.fieldLinkNest RX4 136 "PauseLexicons" "MEANING_BY_COMPANY" "[I" "PauseLexicons" ∈ mNW := mn_in (i := 356) (by decide +kernel) (by decide +kernel)
theorem cl_L_7 : Cond.classLink RL 7 RX6 ∈ mGW := mg_in (i := 55) (by decide +kernel) (by decide +kernel)
theorem cl_X6_7 : Cond.classLink RX6 7 RX4 ∈ mGW := mg_in (i := 63) (by decide +kernel) (by decide +kernel)
theorem cl_X4_20 : Cond.classLink RX4 20 "[I" ∈ mGW := mg_in (i := 77) (by decide +kernel) (by decide +kernel)
theorem cl_X4_27 : Cond.classLink RX4 27 RX0 ∈ mGW := mg_in (i := 78) (by decide +kernel) (by decide +kernel)
theorem cl_X4_34 : Cond.classLink RX4 34 RX2 ∈ mGW := mg_in (i := 119) (by decide +kernel) (by decide +kernel)
theorem cl_X6_16 : Cond.classLink RX6 16 RX1 ∈ mGW := mg_in (i := 172) (by decide +kernel) (by decide +kernel)
theorem cl_X1_9 : Cond.classLink RX1 9 RX4 ∈ mGW := mg_in (i := 178) (by decide +kernel) (by decide +kernel)
theorem cl_X6_23 : Cond.classLink RX6 23 RX5 ∈ mGW := mg_in (i := 189) (by decide +kernel) (by decide +kernel)
theorem cl_X5_9 : Cond.classLink RX5 9 RX4 ∈ mGW := mg_in (i := 195) (by decide +kernel) (by decide +kernel)
theorem cl_X6_30 : Cond.classLink RX6 30 RX3 ∈ mGW := mg_in (i := 205) (by decide +kernel) (by decide +kernel)
theorem cl_L_10 : Cond.classLink RL 10 RX7 ∈ mGW := mg_in (i := 583) (by decide +kernel) (by decide +kernel)
theorem kc_J6_265 : Cond.constant RJ6 265 (1431655765 : Int32) ∈ mGW := mg_in (i := 313) (by decide +kernel) (by decide +kernel)
theorem kc_J6_266 : Cond.constant RJ6 266 (858993459 : Int32) ∈ mGW := mg_in (i := 314) (by decide +kernel) (by decide +kernel)
theorem kc_J6_267 : Cond.constant RJ6 267 (252645135 : Int32) ∈ mGW := mg_in (i := 315) (by decide +kernel) (by decide +kernel)
theorem kl_X7_149 : Cond.constantLong RX7 149 (255 : Int64) ∈ mGW := mg_in (i := 838) (by decide +kernel) (by decide +kernel)
theorem kl_L_92 : Cond.constantLong RL 92 (4294967295 : Int64) ∈ mGW := mg_in (i := 891) (by decide +kernel) (by decide +kernel)
abbrev MX0_init : mM := (RX0, cX0_init, 1, none, true)
theorem sX0_init : mMethI yX0_init MX0_init 0 := ⟨⟨by decide +kernel, rfl, by decide +kernel, mg_in (i := 82) (by decide +kernel) (by decide +kernel), mg_in (i := 46) (by decide +kernel) (by decide +kernel), by decide +kernel, by decide⟩, mg_in (i := 81) (by decide +kernel) (by decide +kernel)⟩
abbrev MX0_copyFrom : mM := (RX0, cX0_copyFrom, 2, none, false)
theorem sX0_copyFrom : mMethV yX0_copyFrom MX0_copyFrom 0 1 := ⟨⟨by decide +kernel, rfl, by decide +kernel, mg_in (i := 251) (by decide +kernel) (by decide +kernel), mg_in (i := 46) (by decide +kernel) (by decide +kernel), by decide +kernel, by decide⟩, mg_in (i := 249) (by decide +kernel) (by decide +kernel), mg_in (i := 250) (by decide +kernel) (by decide +kernel), rfl⟩
abbrev MX0_add : mM := (RX0, cX0_add, 4, (some .int), false)
theorem sX0_add : mMethV yX0_add MX0_add 0 3 := ⟨⟨by decide +kernel, rfl, by decide +kernel, mg_in (i := 289) (by decide +kernel) (by decide +kernel), mg_in (i := 46) (by decide +kernel) (by decide +kernel), by decide +kernel, by decide⟩, mg_in (i := 287) (by decide +kernel) (by decide +kernel), mg_in (i := 288) (by decide +kernel) (by decide +kernel), rfl⟩
abbrev MX0_isKnown : mM := (RX0, cX0_isKnown, 2, (some .boolean), false)
theorem sX0_isKnown : mMethV yX0_isKnown MX0_isKnown 0 1 := ⟨⟨by decide +kernel, rfl, by decide +kernel, mg_in (i := 301) (by decide +kernel) (by decide +kernel), mg_in (i := 46) (by decide +kernel) (by decide +kernel), by decide +kernel, by decide⟩, mg_in (i := 299) (by decide +kernel) (by decide +kernel), mg_in (i := 300) (by decide +kernel) (by decide +kernel), rfl⟩
abbrev MX0_isHost : mM := (RX0, cX0_isHost, 2, (some .boolean), false)
theorem sX0_isHost : mMethV yX0_isHost MX0_isHost 0 1 := ⟨⟨by decide +kernel, rfl, by decide +kernel, mg_in (i := 420) (by decide +kernel) (by decide +kernel), mg_in (i := 46) (by decide +kernel) (by decide +kernel), by decide +kernel, by decide⟩, mg_in (i := 418) (by decide +kernel) (by decide +kernel), mg_in (i := 419) (by decide +kernel) (by decide +kernel), rfl⟩
abbrev MX0_setAt : mM := (RX0, cX0_setAt, 4, (some .int), false)
theorem sX0_setAt : mMethV yX0_setAt MX0_setAt 0 1 := ⟨⟨by decide +kernel, rfl, by decide +kernel, mg_in (i := 309) (by decide +kernel) (by decide +kernel), mg_in (i := 46) (by decide +kernel) (by decide +kernel), by decide +kernel, by decide⟩, mg_in (i := 307) (by decide +kernel) (by decide +kernel), mg_in (i := 308) (by decide +kernel) (by decide +kernel), rfl⟩
abbrev MX0_setOfThoseHere : mM := (RX0, cX0_setOfThoseHere, 3, (some .int), false)
theorem sX0_setOfThoseHere : mMethV yX0_setOfThoseHere MX0_setOfThoseHere 0 0 := ⟨⟨by decide +kernel, rfl, by decide +kernel, mg_in (i := 446) (by decide +kernel) (by decide +kernel), mg_in (i := 46) (by decide +kernel) (by decide +kernel), by decide +kernel, by decide⟩, mg_in (i := 444) (by decide +kernel) (by decide +kernel), mg_in (i := 445) (by decide +kernel) (by decide +kernel), rfl⟩
abbrev MX0_hostOf : mM := (RX0, cX0_hostOf, 5, (some .int), false)
theorem sX0_hostOf : mMethV yX0_hostOf MX0_hostOf 0 1 := ⟨⟨by decide +kernel, rfl, by decide +kernel, mg_in (i := 391) (by decide +kernel) (by decide +kernel), mg_in (i := 46) (by decide +kernel) (by decide +kernel), by decide +kernel, by decide⟩, mg_in (i := 389) (by decide +kernel) (by decide +kernel), mg_in (i := 390) (by decide +kernel) (by decide +kernel), rfl⟩
abbrev MX0_companyOf : mM := (RX0, cX0_companyOf, 7, (some .int), false)
theorem sX0_companyOf : mMethV yX0_companyOf MX0_companyOf 0 2 := ⟨⟨by decide +kernel, rfl, by decide +kernel, mg_in (i := 335) (by decide +kernel) (by decide +kernel), mg_in (i := 46) (by decide +kernel) (by decide +kernel), by decide +kernel, by decide⟩, mg_in (i := 333) (by decide +kernel) (by decide +kernel), mg_in (i := 334) (by decide +kernel) (by decide +kernel), rfl⟩
abbrev MX0_lenderTo : mM := (RX0, cX0_lenderTo, 6, (some .int), false)
theorem sX0_lenderTo : mMethV yX0_lenderTo MX0_lenderTo 0 2 := ⟨⟨by decide +kernel, rfl, by decide +kernel, mg_in (i := 403) (by decide +kernel) (by decide +kernel), mg_in (i := 46) (by decide +kernel) (by decide +kernel), by decide +kernel, by decide⟩, mg_in (i := 401) (by decide +kernel) (by decide +kernel), mg_in (i := 402) (by decide +kernel) (by decide +kernel), rfl⟩
abbrev MX0_faultsOfAll : mM := (RX0, cX0_faultsOfAll, 3, (some .int), false)
theorem sX0_faultsOfAll : mMethV yX0_faultsOfAll MX0_faultsOfAll 0 0 := ⟨⟨by decide +kernel, rfl, by decide +kernel, mg_in (i := 455) (by decide +kernel) (by decide +kernel), mg_in (i := 46) (by decide +kernel) (by decide +kernel), by decide +kernel, by decide⟩, mg_in (i := 453) (by decide +kernel) (by decide +kernel), mg_in (i := 454) (by decide +kernel) (by decide +kernel), rfl⟩
abbrev MX0_coughsOfThoseHere : mM := (RX0, cX0_coughsOfThoseHere, 3, (some .int), false)
theorem sX0_coughsOfThoseHere : mMethV yX0_coughsOfThoseHere MX0_coughsOfThoseHere 0 0 := ⟨⟨by decide +kernel, rfl, by decide +kernel, mg_in (i := 463) (by decide +kernel) (by decide +kernel), mg_in (i := 46) (by decide +kernel) (by decide +kernel), by decide +kernel, by decide⟩, mg_in (i := 461) (by decide +kernel) (by decide +kernel), mg_in (i := 462) (by decide +kernel) (by decide +kernel), rfl⟩
abbrev MX1_init : mM := (RX1, cX1_init, 2, none, true)
theorem sX1_init : mMethI yX1_init MX1_init 0 := ⟨⟨by decide +kernel, rfl, by decide +kernel, mg_in (i := 176) (by decide +kernel) (by decide +kernel), mg_in (i := 48) (by decide +kernel) (by decide +kernel), by decide +kernel, by decide⟩, mg_in (i := 175) (by decide +kernel) (by decide +kernel)⟩
abbrev MX1_noteBefore : mM := (RX1, cX1_noteBefore, 2, none, false)
theorem sX1_noteBefore : mMethV yX1_noteBefore MX1_noteBefore 1 1 := ⟨⟨by decide +kernel, rfl, by decide +kernel, mg_in (i := 240) (by decide +kernel) (by decide +kernel), mg_in (i := 48) (by decide +kernel) (by decide +kernel), by decide +kernel, by decide⟩, mg_in (i := 238) (by decide +kernel) (by decide +kernel), mg_in (i := 239) (by decide +kernel) (by decide +kernel), rfl⟩
abbrev MX1_keepNoted : mM := (RX1, cX1_keepNoted, 3, none, false)
theorem sX1_keepNoted : mMethV yX1_keepNoted MX1_keepNoted 1 0 := ⟨⟨by decide +kernel, rfl, by decide +kernel, mg_in (i := 274) (by decide +kernel) (by decide +kernel), mg_in (i := 48) (by decide +kernel) (by decide +kernel), by decide +kernel, by decide⟩, mg_in (i := 272) (by decide +kernel) (by decide +kernel), mg_in (i := 273) (by decide +kernel) (by decide +kernel), rfl⟩
abbrev MX1_takeBack : mM := (RX1, cX1_takeBack, 2, (some .int), false)
theorem sX1_takeBack : mMethV yX1_takeBack MX1_takeBack 1 1 := ⟨⟨by decide +kernel, rfl, by decide +kernel, mg_in (i := 565) (by decide +kernel) (by decide +kernel), mg_in (i := 48) (by decide +kernel) (by decide +kernel), by decide +kernel, by decide⟩, mg_in (i := 563) (by decide +kernel) (by decide +kernel), mg_in (i := 564) (by decide +kernel) (by decide +kernel), rfl⟩
abbrev MX2_init : mM := (RX2, cX2_init, 1, none, true)
theorem sX2_init : mMethI yX2_init MX2_init 0 := ⟨⟨by decide +kernel, rfl, by decide +kernel, mg_in (i := 123) (by decide +kernel) (by decide +kernel), mg_in (i := 47) (by decide +kernel) (by decide +kernel), by decide +kernel, by decide⟩, mg_in (i := 122) (by decide +kernel) (by decide +kernel)⟩
abbrev MX2_copyFrom : mM := (RX2, cX2_copyFrom, 2, none, false)
theorem sX2_copyFrom : mMethV yX2_copyFrom MX2_copyFrom 2 1 := ⟨⟨by decide +kernel, rfl, by decide +kernel, mg_in (i := 256) (by decide +kernel) (by decide +kernel), mg_in (i := 47) (by decide +kernel) (by decide +kernel), by decide +kernel, by decide⟩, mg_in (i := 254) (by decide +kernel) (by decide +kernel), mg_in (i := 255) (by decide +kernel) (by decide +kernel), rfl⟩
abbrev MX2_enterMeaning : mM := (RX2, cX2_enterMeaning, 3, none, false)
theorem sX2_enterMeaning : mMethV yX2_enterMeaning MX2_enterMeaning 2 2 := ⟨⟨by decide +kernel, rfl, by decide +kernel, mg_in (i := 361) (by decide +kernel) (by decide +kernel), mg_in (i := 47) (by decide +kernel) (by decide +kernel), by decide +kernel, by decide⟩, mg_in (i := 359) (by decide +kernel) (by decide +kernel), mg_in (i := 360) (by decide +kernel) (by decide +kernel), rfl⟩
abbrev MX2_tellEnd : mM := (RX2, cX2_tellEnd, 6, none, false)
theorem sX2_tellEnd : mMethV yX2_tellEnd MX2_tellEnd 2 5 := ⟨⟨by decide +kernel, rfl, by decide +kernel, mg_in (i := 372) (by decide +kernel) (by decide +kernel), mg_in (i := 47) (by decide +kernel) (by decide +kernel), by decide +kernel, by decide⟩, mg_in (i := 370) (by decide +kernel) (by decide +kernel), mg_in (i := 371) (by decide +kernel) (by decide +kernel), rfl⟩
abbrev MX2_setOfMeant : mM := (RX2, cX2_setOfMeant, 3, (some .int), false)
theorem sX2_setOfMeant : mMethV yX2_setOfMeant MX2_setOfMeant 2 0 := ⟨⟨by decide +kernel, rfl, by decide +kernel, mg_in (i := 459) (by decide +kernel) (by decide +kernel), mg_in (i := 47) (by decide +kernel) (by decide +kernel), by decide +kernel, by decide⟩, mg_in (i := 457) (by decide +kernel) (by decide +kernel), mg_in (i := 458) (by decide +kernel) (by decide +kernel), rfl⟩
abbrev MX2_mostMeant : mM := (RX2, cX2_mostMeant, 4, (some .int), false)
theorem sX2_mostMeant : mMethV yX2_mostMeant MX2_mostMeant 2 0 := ⟨⟨by decide +kernel, rfl, by decide +kernel, mg_in (i := 494) (by decide +kernel) (by decide +kernel), mg_in (i := 47) (by decide +kernel) (by decide +kernel), by decide +kernel, by decide⟩, mg_in (i := 492) (by decide +kernel) (by decide +kernel), mg_in (i := 493) (by decide +kernel) (by decide +kernel), rfl⟩
abbrev MX3_init : mM := (RX3, cX3_init, 1, none, true)
theorem sX3_init : mMethI yX3_init MX3_init 0 := ⟨⟨by decide +kernel, rfl, by decide +kernel, mg_in (i := 209) (by decide +kernel) (by decide +kernel), mg_in (i := 50) (by decide +kernel) (by decide +kernel), by decide +kernel, by decide⟩, mg_in (i := 208) (by decide +kernel) (by decide +kernel)⟩
abbrev MX3_append : mM := (RX3, cX3_append, 5, (some .int), false)
theorem sX3_append : mMethV yX3_append MX3_append 3 1 := ⟨⟨by decide +kernel, rfl, by decide +kernel, mg_in (i := 502) (by decide +kernel) (by decide +kernel), mg_in (i := 50) (by decide +kernel) (by decide +kernel), by decide +kernel, by decide⟩, mg_in (i := 500) (by decide +kernel) (by decide +kernel), mg_in (i := 501) (by decide +kernel) (by decide +kernel), rfl⟩
abbrev MX3_charactersIn : mM := (RX3, cX3_charactersIn, 4, (some .int), false)
theorem sX3_charactersIn : mMethS yX3_charactersIn MX3_charactersIn 1 := ⟨⟨by decide +kernel, rfl, by decide +kernel, mg_in (i := 505) (by decide +kernel) (by decide +kernel), mg_in (i := 50) (by decide +kernel) (by decide +kernel), by decide +kernel, by decide⟩, mg_in (i := 504) (by decide +kernel) (by decide +kernel)⟩
abbrev MX3_codeOf : mM := (RX3, cX3_codeOf, 3, (some .int), false)
theorem sX3_codeOf : mMethS yX3_codeOf MX3_codeOf 2 := ⟨⟨by decide +kernel, rfl, by decide +kernel, mg_in (i := 508) (by decide +kernel) (by decide +kernel), mg_in (i := 50) (by decide +kernel) (by decide +kernel), by decide +kernel, by decide⟩, mg_in (i := 507) (by decide +kernel) (by decide +kernel)⟩
abbrev MX3_clear : mM := (RX3, cX3_clear, 2, (some .int), false)
theorem sX3_clear : mMethV yX3_clear MX3_clear 3 0 := ⟨⟨by decide +kernel, rfl, by decide +kernel, mg_in (i := 516) (by decide +kernel) (by decide +kernel), mg_in (i := 50) (by decide +kernel) (by decide +kernel), by decide +kernel, by decide⟩, mg_in (i := 514) (by decide +kernel) (by decide +kernel), mg_in (i := 515) (by decide +kernel) (by decide +kernel), rfl⟩
abbrev MX3_firstFault : mM := (RX3, cX3_firstFault, 3, (some .int), false)
theorem sX3_firstFault : mMethV yX3_firstFault MX3_firstFault 3 0 := ⟨⟨by decide +kernel, rfl, by decide +kernel, mg_in (i := 524) (by decide +kernel) (by decide +kernel), mg_in (i := 50) (by decide +kernel) (by decide +kernel), by decide +kernel, by decide⟩, mg_in (i := 522) (by decide +kernel) (by decide +kernel), mg_in (i := 523) (by decide +kernel) (by decide +kernel), rfl⟩
abbrev MX3_expectedAfter : mM := (RX3, cX3_expectedAfter, 2, (some .int), false)
theorem sX3_expectedAfter : mMethS yX3_expectedAfter MX3_expectedAfter 2 := ⟨⟨by decide +kernel, rfl, by decide +kernel, mg_in (i := 527) (by decide +kernel) (by decide +kernel), mg_in (i := 50) (by decide +kernel) (by decide +kernel), by decide +kernel, by decide⟩, mg_in (i := 526) (by decide +kernel) (by decide +kernel)⟩
abbrev MX3_expectedAfterLetter : mM := (RX3, cX3_expectedAfterLetter, 1, (some .int), false)
theorem sX3_expectedAfterLetter : mMethS yX3_expectedAfterLetter MX3_expectedAfterLetter 1 := ⟨⟨by decide +kernel, rfl, by decide +kernel, mg_in (i := 530) (by decide +kernel) (by decide +kernel), mg_in (i := 50) (by decide +kernel) (by decide +kernel), by decide +kernel, by decide⟩, mg_in (i := 529) (by decide +kernel) (by decide +kernel)⟩
abbrev MX3_isDigit : mM := (RX3, cX3_isDigit, 1, (some .boolean), false)
theorem sX3_isDigit : mMethS yX3_isDigit MX3_isDigit 1 := ⟨⟨by decide +kernel, rfl, by decide +kernel, mg_in (i := 533) (by decide +kernel) (by decide +kernel), mg_in (i := 50) (by decide +kernel) (by decide +kernel), by decide +kernel, by decide⟩, mg_in (i := 532) (by decide +kernel) (by decide +kernel)⟩
abbrev MX3_isEndOfOrder : mM := (RX3, cX3_isEndOfOrder, 2, (some .boolean), false)
theorem sX3_isEndOfOrder : mMethV yX3_isEndOfOrder MX3_isEndOfOrder 3 1 := ⟨⟨by decide +kernel, rfl, by decide +kernel, mg_in (i := 545) (by decide +kernel) (by decide +kernel), mg_in (i := 50) (by decide +kernel) (by decide +kernel), by decide +kernel, by decide⟩, mg_in (i := 543) (by decide +kernel) (by decide +kernel), mg_in (i := 544) (by decide +kernel) (by decide +kernel), rfl⟩
abbrev MX3_firstDigit : mM := (RX3, cX3_firstDigit, 3, (some .int), false)
theorem sX3_firstDigit : mMethV yX3_firstDigit MX3_firstDigit 3 2 := ⟨⟨by decide +kernel, rfl, by decide +kernel, mg_in (i := 557) (by decide +kernel) (by decide +kernel), mg_in (i := 50) (by decide +kernel) (by decide +kernel), by decide +kernel, by decide⟩, mg_in (i := 555) (by decide +kernel) (by decide +kernel), mg_in (i := 556) (by decide +kernel) (by decide +kernel), rfl⟩
abbrev MX3_lastNumber : mM := (RX3, cX3_lastNumber, 5, (some .int), false)
theorem sX3_lastNumber : mMethV yX3_lastNumber MX3_lastNumber 3 2 := ⟨⟨by decide +kernel, rfl, by decide +kernel, mg_in (i := 553) (by decide +kernel) (by decide +kernel), mg_in (i := 50) (by decide +kernel) (by decide +kernel), by decide +kernel, by decide⟩, mg_in (i := 551) (by decide +kernel) (by decide +kernel), mg_in (i := 552) (by decide +kernel) (by decide +kernel), rfl⟩
abbrev MX4_init : mM := (RX4, cX4_init, 1, none, true)
theorem sX4_init : mMethI yX4_init MX4_init 0 := ⟨⟨by decide +kernel, rfl, by decide +kernel, mg_in (i := 67) (by decide +kernel) (by decide +kernel), mg_in (i := 45) (by decide +kernel) (by decide +kernel), by decide +kernel, by decide⟩, mg_in (i := 66) (by decide +kernel) (by decide +kernel)⟩
abbrev MX4_copyFrom : mM := (RX4, cX4_copyFrom, 2, none, false)
theorem sX4_copyFrom : mMethV yX4_copyFrom MX4_copyFrom 4 1 := ⟨⟨by decide +kernel, rfl, by decide +kernel, mg_in (i := 244) (by decide +kernel) (by decide +kernel), mg_in (i := 45) (by decide +kernel) (by decide +kernel), by decide +kernel, by decide⟩, mg_in (i := 242) (by decide +kernel) (by decide +kernel), mg_in (i := 243) (by decide +kernel) (by decide +kernel), rfl⟩
abbrev MX4_changeSetting : mM := (RX4, cX4_changeSetting, 4, (some .int), false)
theorem sX4_changeSetting : mMethV yX4_changeSetting MX4_changeSetting 4 2 := ⟨⟨by decide +kernel, rfl, by decide +kernel, mg_in (i := 261) (by decide +kernel) (by decide +kernel), mg_in (i := 45) (by decide +kernel) (by decide +kernel), by decide +kernel, by decide⟩, mg_in (i := 259) (by decide +kernel) (by decide +kernel), mg_in (i := 260) (by decide +kernel) (by decide +kernel), rfl⟩
abbrev MX4_welcome : mM := (RX4, cX4_welcome, 3, (some .int), false)
theorem sX4_welcome : mMethV yX4_welcome MX4_welcome 4 2 := ⟨⟨by decide +kernel, rfl, by decide +kernel, mg_in (i := 282) (by decide +kernel) (by decide +kernel), mg_in (i := 45) (by decide +kernel) (by decide +kernel), by decide +kernel, by decide⟩, mg_in (i := 280) (by decide +kernel) (by decide +kernel), mg_in (i := 281) (by decide +kernel) (by decide +kernel), rfl⟩
abbrev MX4_seeOff : mM := (RX4, cX4_seeOff, 3, (some .int), false)
theorem sX4_seeOff : mMethV yX4_seeOff MX4_seeOff 4 1 := ⟨⟨by decide +kernel, rfl, by decide +kernel, mg_in (i := 297) (by decide +kernel) (by decide +kernel), mg_in (i := 45) (by decide +kernel) (by decide +kernel), by decide +kernel, by decide⟩, mg_in (i := 295) (by decide +kernel) (by decide +kernel), mg_in (i := 296) (by decide +kernel) (by decide +kernel), rfl⟩
abbrev MX4_reseat : mM := (RX4, cX4_reseat, 4, (some .int), false)
theorem sX4_reseat : mMethV yX4_reseat MX4_reseat 4 2 := ⟨⟨by decide +kernel, rfl, by decide +kernel, mg_in (i := 323) (by decide +kernel) (by decide +kernel), mg_in (i := 45) (by decide +kernel) (by decide +kernel), by decide +kernel, by decide⟩, mg_in (i := 321) (by decide +kernel) (by decide +kernel), mg_in (i := 322) (by decide +kernel) (by decide +kernel), rfl⟩
abbrev MX4_beginPause : mM := (RX4, cX4_beginPause, 3, (some .int), false)
theorem sX4_beginPause : mMethV yX4_beginPause MX4_beginPause 4 1 := ⟨⟨by decide +kernel, rfl, by decide +kernel, mg_in (i := 331) (by decide +kernel) (by decide +kernel), mg_in (i := 45) (by decide +kernel) (by decide +kernel), by decide +kernel, by decide⟩, mg_in (i := 329) (by decide +kernel) (by decide +kernel), mg_in (i := 330) (by decide +kernel) (by decide +kernel), rfl⟩
abbrev MX4_closePause : mM := (RX4, cX4_closePause, 3, (some .int), false)
theorem sX4_closePause : mMethV yX4_closePause MX4_closePause 4 1 := ⟨⟨by decide +kernel, rfl, by decide +kernel, mg_in (i := 343) (by decide +kernel) (by decide +kernel), mg_in (i := 45) (by decide +kernel) (by decide +kernel), by decide +kernel, by decide⟩, mg_in (i := 341) (by decide +kernel) (by decide +kernel), mg_in (i := 342) (by decide +kernel) (by decide +kernel), rfl⟩
abbrev MX4_breakByWord : mM := (RX4, cX4_breakByWord, 5, (some .int), false)
theorem sX4_breakByWord : mMethV yX4_breakByWord MX4_breakByWord 4 1 := ⟨⟨by decide +kernel, rfl, by decide +kernel, mg_in (i := 383) (by decide +kernel) (by decide +kernel), mg_in (i := 45) (by decide +kernel) (by decide +kernel), by decide +kernel, by decide⟩, mg_in (i := 381) (by decide +kernel) (by decide +kernel), mg_in (i := 382) (by decide +kernel) (by decide +kernel), rfl⟩
abbrev MX4_breakByCough : mM := (RX4, cX4_breakByCough, 5, (some .int), false)
theorem sX4_breakByCough : mMethV yX4_breakByCough MX4_breakByCough 4 1 := ⟨⟨by decide +kernel, rfl, by decide +kernel, mg_in (i := 399) (by decide +kernel) (by decide +kernel), mg_in (i := 45) (by decide +kernel) (by decide +kernel), by decide +kernel, by decide⟩, mg_in (i := 397) (by decide +kernel) (by decide +kernel), mg_in (i := 398) (by decide +kernel) (by decide +kernel), rfl⟩
abbrev MX4_letPass : mM := (RX4, cX4_letPass, 4, (some .int), false)
theorem sX4_letPass : mMethV yX4_letPass MX4_letPass 4 1 := ⟨⟨by decide +kernel, rfl, by decide +kernel, mg_in (i := 411) (by decide +kernel) (by decide +kernel), mg_in (i := 45) (by decide +kernel) (by decide +kernel), by decide +kernel, by decide⟩, mg_in (i := 409) (by decide +kernel) (by decide +kernel), mg_in (i := 410) (by decide +kernel) (by decide +kernel), rfl⟩
abbrev MX4_errorOfBreak : mM := (RX4, cX4_errorOfBreak, 3, (some .int), false)
theorem sX4_errorOfBreak : mMethV yX4_errorOfBreak MX4_errorOfBreak 4 1 := ⟨⟨by decide +kernel, rfl, by decide +kernel, mg_in (i := 387) (by decide +kernel) (by decide +kernel), mg_in (i := 45) (by decide +kernel) (by decide +kernel), by decide +kernel, by decide⟩, mg_in (i := 385) (by decide +kernel) (by decide +kernel), mg_in (i := 386) (by decide +kernel) (by decide +kernel), rfl⟩
abbrev MX4_dropPauseOfNobody : mM := (RX4, cX4_dropPauseOfNobody, 2, none, false)
theorem sX4_dropPauseOfNobody : mMethV yX4_dropPauseOfNobody MX4_dropPauseOfNobody 4 1 := ⟨⟨by decide +kernel, rfl, by decide +kernel, mg_in (i := 305) (by decide +kernel) (by decide +kernel), mg_in (i := 45) (by decide +kernel) (by decide +kernel), by decide +kernel, by decide⟩, mg_in (i := 304) (by decide +kernel) (by decide +kernel), mg_in (i := 1) (by decide +kernel) (by decide +kernel), rfl⟩
abbrev MX4_endPause : mM := (RX4, cX4_endPause, 5, none, false)
theorem sX4_endPause : mMethV yX4_endPause MX4_endPause 4 4 := ⟨⟨by decide +kernel, rfl, by decide +kernel, mg_in (i := 368) (by decide +kernel) (by decide +kernel), mg_in (i := 45) (by decide +kernel) (by decide +kernel), by decide +kernel, by decide⟩, mg_in (i := 367) (by decide +kernel) (by decide +kernel), mg_in (i := 3) (by decide +kernel) (by decide +kernel), rfl⟩
abbrev MX4_pausesThatGoOn : mM := (RX4, cX4_pausesThatGoOn, 3, (some .int), false)
theorem sX4_pausesThatGoOn : mMethV yX4_pausesThatGoOn MX4_pausesThatGoOn 4 0 := ⟨⟨by decide +kernel, rfl, by decide +kernel, mg_in (i := 451) (by decide +kernel) (by decide +kernel), mg_in (i := 45) (by decide +kernel) (by decide +kernel), by decide +kernel, by decide⟩, mg_in (i := 449) (by decide +kernel) (by decide +kernel), mg_in (i := 450) (by decide +kernel) (by decide +kernel), rfl⟩
abbrev MX4_meaningNow : mM := (RX4, cX4_meaningNow, 3, (some .int), false)
theorem sX4_meaningNow : mMethV yX4_meaningNow MX4_meaningNow 4 2 := ⟨⟨by decide +kernel, rfl, by decide +kernel, mg_in (i := 347) (by decide +kernel) (by decide +kernel), mg_in (i := 45) (by decide +kernel) (by decide +kernel), by decide +kernel, by decide⟩, mg_in (i := 345) (by decide +kernel) (by decide +kernel), mg_in (i := 346) (by decide +kernel) (by decide +kernel), rfl⟩
abbrev MX4_meaningFor : mM := (RX4, cX4_meaningFor, 5, (some .int), false)
theorem sX4_meaningFor : mMethV yX4_meaningFor MX4_meaningFor 4 2 := ⟨⟨by decide +kernel, rfl, by decide +kernel, mg_in (i := 351) (by decide +kernel) (by decide +kernel), mg_in (i := 45) (by decide +kernel) (by decide +kernel), by decide +kernel, by decide⟩, mg_in (i := 349) (by decide +kernel) (by decide +kernel), mg_in (i := 350) (by decide +kernel) (by decide +kernel), rfl⟩
abbrev MX4_secondsToTurn : mM := (RX4, cX4_secondsToTurn, 7, (some .int), false)
theorem sX4_secondsToTurn : mMethV yX4_secondsToTurn MX4_secondsToTurn 4 1 := ⟨⟨by decide +kernel, rfl, by decide +kernel, mg_in (i := 476) (by decide +kernel) (by decide +kernel), mg_in (i := 45) (by decide +kernel) (by decide +kernel), by decide +kernel, by decide⟩, mg_in (i := 474) (by decide +kernel) (by decide +kernel), mg_in (i := 475) (by decide +kernel) (by decide +kernel), rfl⟩
abbrev MX4_beginOfShade : mM := (RX4, cX4_beginOfShade, 2, (some .int), false)
theorem sX4_beginOfShade : mMethV yX4_beginOfShade MX4_beginOfShade 4 1 := ⟨⟨by decide +kernel, rfl, by decide +kernel, mg_in (i := 355) (by decide +kernel) (by decide +kernel), mg_in (i := 45) (by decide +kernel) (by decide +kernel), by decide +kernel, by decide⟩, mg_in (i := 354) (by decide +kernel) (by decide +kernel), mg_in (i := 2) (by decide +kernel) (by decide +kernel), rfl⟩
abbrev MX5_init : mM := (RX5, cX5_init, 1, none, true)
theorem sX5_init : mMethI yX5_init MX5_init 0 := ⟨⟨by decide +kernel, rfl, by decide +kernel, mg_in (i := 193) (by decide +kernel) (by decide +kernel), mg_in (i := 49) (by decide +kernel) (by decide +kernel), by decide +kernel, by decide⟩, mg_in (i := 192) (by decide +kernel) (by decide +kernel)⟩
abbrev MX5_keep : mM := (RX5, cX5_keep, 3, (some .int), false)
theorem sX5_keep : mMethV yX5_keep MX5_keep 5 2 := ⟨⟨by decide +kernel, rfl, by decide +kernel, mg_in (i := 573) (by decide +kernel) (by decide +kernel), mg_in (i := 49) (by decide +kernel) (by decide +kernel), by decide +kernel, by decide⟩, mg_in (i := 571) (by decide +kernel) (by decide +kernel), mg_in (i := 572) (by decide +kernel) (by decide +kernel), rfl⟩
abbrev MX5_giveBack : mM := (RX5, cX5_giveBack, 3, (some .int), false)
theorem sX5_giveBack : mMethV yX5_giveBack MX5_giveBack 5 2 := ⟨⟨by decide +kernel, rfl, by decide +kernel, mg_in (i := 582) (by decide +kernel) (by decide +kernel), mg_in (i := 49) (by decide +kernel) (by decide +kernel), by decide +kernel, by decide⟩, mg_in (i := 580) (by decide +kernel) (by decide +kernel), mg_in (i := 581) (by decide +kernel) (by decide +kernel), rfl⟩
abbrev MX6_init : mM := (RX6, cX6_init, 1, none, true)
theorem sX6_init : mMethI yX6_init MX6_init 0 := ⟨⟨by decide +kernel, rfl, by decide +kernel, mg_in (i := 59) (by decide +kernel) (by decide +kernel), mg_in (i := 44) (by decide +kernel) (by decide +kernel), by decide +kernel, by decide⟩, mg_in (i := 58) (by decide +kernel) (by decide +kernel)⟩
abbrev MX6_set : mM := (RX6, cX6_set, 3, (some .int), false)
theorem sX6_set : mMethV yX6_set MX6_set 6 2 := ⟨⟨by decide +kernel, rfl, by decide +kernel, mg_in (i := 236) (by decide +kernel) (by decide +kernel), mg_in (i := 44) (by decide +kernel) (by decide +kernel), by decide +kernel, by decide⟩, mg_in (i := 234) (by decide +kernel) (by decide +kernel), mg_in (i := 235) (by decide +kernel) (by decide +kernel), rfl⟩
abbrev MX6_guest : mM := (RX6, cX6_guest, 3, (some .int), false)
theorem sX6_guest : mMethV yX6_guest MX6_guest 6 2 := ⟨⟨by decide +kernel, rfl, by decide +kernel, mg_in (i := 278) (by decide +kernel) (by decide +kernel), mg_in (i := 44) (by decide +kernel) (by decide +kernel), by decide +kernel, by decide⟩, mg_in (i := 276) (by decide +kernel) (by decide +kernel), mg_in (i := 277) (by decide +kernel) (by decide +kernel), rfl⟩
abbrev MX6_leave : mM := (RX6, cX6_leave, 2, (some .int), false)
theorem sX6_leave : mMethV yX6_leave MX6_leave 6 1 := ⟨⟨by decide +kernel, rfl, by decide +kernel, mg_in (i := 293) (by decide +kernel) (by decide +kernel), mg_in (i := 44) (by decide +kernel) (by decide +kernel), by decide +kernel, by decide⟩, mg_in (i := 291) (by decide +kernel) (by decide +kernel), mg_in (i := 292) (by decide +kernel) (by decide +kernel), rfl⟩
abbrev MX6_move : mM := (RX6, cX6_move, 3, (some .int), false)
theorem sX6_move : mMethV yX6_move MX6_move 6 2 := ⟨⟨by decide +kernel, rfl, by decide +kernel, mg_in (i := 319) (by decide +kernel) (by decide +kernel), mg_in (i := 44) (by decide +kernel) (by decide +kernel), by decide +kernel, by decide⟩, mg_in (i := 317) (by decide +kernel) (by decide +kernel), mg_in (i := 318) (by decide +kernel) (by decide +kernel), rfl⟩
abbrev MX6_pause : mM := (RX6, cX6_pause, 2, (some .int), false)
theorem sX6_pause : mMethV yX6_pause MX6_pause 6 1 := ⟨⟨by decide +kernel, rfl, by decide +kernel, mg_in (i := 327) (by decide +kernel) (by decide +kernel), mg_in (i := 44) (by decide +kernel) (by decide +kernel), by decide +kernel, by decide⟩, mg_in (i := 325) (by decide +kernel) (by decide +kernel), mg_in (i := 326) (by decide +kernel) (by decide +kernel), rfl⟩
abbrev MX6_close : mM := (RX6, cX6_close, 2, (some .int), false)
theorem sX6_close : mMethV yX6_close MX6_close 6 1 := ⟨⟨by decide +kernel, rfl, by decide +kernel, mg_in (i := 339) (by decide +kernel) (by decide +kernel), mg_in (i := 44) (by decide +kernel) (by decide +kernel), by decide +kernel, by decide⟩, mg_in (i := 337) (by decide +kernel) (by decide +kernel), mg_in (i := 338) (by decide +kernel) (by decide +kernel), rfl⟩
abbrev MX6_word : mM := (RX6, cX6_word, 2, (some .int), false)
theorem sX6_word : mMethV yX6_word MX6_word 6 1 := ⟨⟨by decide +kernel, rfl, by decide +kernel, mg_in (i := 379) (by decide +kernel) (by decide +kernel), mg_in (i := 44) (by decide +kernel) (by decide +kernel), by decide +kernel, by decide⟩, mg_in (i := 377) (by decide +kernel) (by decide +kernel), mg_in (i := 378) (by decide +kernel) (by decide +kernel), rfl⟩
abbrev MX6_cough : mM := (RX6, cX6_cough, 2, (some .int), false)
theorem sX6_cough : mMethV yX6_cough MX6_cough 6 1 := ⟨⟨by decide +kernel, rfl, by decide +kernel, mg_in (i := 395) (by decide +kernel) (by decide +kernel), mg_in (i := 44) (by decide +kernel) (by decide +kernel), by decide +kernel, by decide⟩, mg_in (i := 393) (by decide +kernel) (by decide +kernel), mg_in (i := 394) (by decide +kernel) (by decide +kernel), rfl⟩
abbrev MX6_pass : mM := (RX6, cX6_pass, 2, (some .int), false)
theorem sX6_pass : mMethV yX6_pass MX6_pass 6 1 := ⟨⟨by decide +kernel, rfl, by decide +kernel, mg_in (i := 407) (by decide +kernel) (by decide +kernel), mg_in (i := 44) (by decide +kernel) (by decide +kernel), by decide +kernel, by decide⟩, mg_in (i := 405) (by decide +kernel) (by decide +kernel), mg_in (i := 406) (by decide +kernel) (by decide +kernel), rfl⟩
abbrev MX6_of : mM := (RX6, cX6_of, 4, (some .int), false)
theorem sX6_of : mMethV yX6_of MX6_of 6 2 := ⟨⟨by decide +kernel, rfl, by decide +kernel, mg_in (i := 415) (by decide +kernel) (by decide +kernel), mg_in (i := 44) (by decide +kernel) (by decide +kernel), by decide +kernel, by decide⟩, mg_in (i := 413) (by decide +kernel) (by decide +kernel), mg_in (i := 414) (by decide +kernel) (by decide +kernel), rfl⟩
abbrev MX6_table : mM := (RX6, cX6_table, 3, (some .int), false)
theorem sX6_table : mMethV yX6_table MX6_table 6 2 := ⟨⟨by decide +kernel, rfl, by decide +kernel, mg_in (i := 425) (by decide +kernel) (by decide +kernel), mg_in (i := 44) (by decide +kernel) (by decide +kernel), by decide +kernel, by decide⟩, mg_in (i := 423) (by decide +kernel) (by decide +kernel), mg_in (i := 424) (by decide +kernel) (by decide +kernel), rfl⟩
abbrev MX6_meaning : mM := (RX6, cX6_meaning, 3, (some .int), false)
theorem sX6_meaning : mMethV yX6_meaning MX6_meaning 6 2 := ⟨⟨by decide +kernel, rfl, by decide +kernel, mg_in (i := 434) (by decide +kernel) (by decide +kernel), mg_in (i := 44) (by decide +kernel) (by decide +kernel), by decide +kernel, by decide⟩, mg_in (i := 432) (by decide +kernel) (by decide +kernel), mg_in (i := 433) (by decide +kernel) (by decide +kernel), rfl⟩
abbrev MX6_end : mM := (RX6, cX6_end, 3, (some .int), false)
theorem sX6_end : mMethV yX6_end MX6_end 6 2 := ⟨⟨by decide +kernel, rfl, by decide +kernel, mg_in (i := 438) (by decide +kernel) (by decide +kernel), mg_in (i := 44) (by decide +kernel) (by decide +kernel), by decide +kernel, by decide⟩, mg_in (i := 436) (by decide +kernel) (by decide +kernel), mg_in (i := 437) (by decide +kernel) (by decide +kernel), rfl⟩
abbrev MX6_count : mM := (RX6, cX6_count, 2, (some .int), false)
theorem sX6_count : mMethV yX6_count MX6_count 6 1 := ⟨⟨by decide +kernel, rfl, by decide +kernel, mg_in (i := 442) (by decide +kernel) (by decide +kernel), mg_in (i := 44) (by decide +kernel) (by decide +kernel), by decide +kernel, by decide⟩, mg_in (i := 440) (by decide +kernel) (by decide +kernel), mg_in (i := 441) (by decide +kernel) (by decide +kernel), rfl⟩
abbrev MX6_wouldMean : mM := (RX6, cX6_wouldMean, 3, (some .int), false)
theorem sX6_wouldMean : mMethV yX6_wouldMean MX6_wouldMean 6 2 := ⟨⟨by decide +kernel, rfl, by decide +kernel, mg_in (i := 467) (by decide +kernel) (by decide +kernel), mg_in (i := 44) (by decide +kernel) (by decide +kernel), by decide +kernel, by decide⟩, mg_in (i := 465) (by decide +kernel) (by decide +kernel), mg_in (i := 466) (by decide +kernel) (by decide +kernel), rfl⟩
abbrev MX6_turnsIn : mM := (RX6, cX6_turnsIn, 2, (some .int), false)
theorem sX6_turnsIn : mMethV yX6_turnsIn MX6_turnsIn 6 1 := ⟨⟨by decide +kernel, rfl, by decide +kernel, mg_in (i := 472) (by decide +kernel) (by decide +kernel), mg_in (i := 44) (by decide +kernel) (by decide +kernel), by decide +kernel, by decide⟩, mg_in (i := 470) (by decide +kernel) (by decide +kernel), mg_in (i := 471) (by decide +kernel) (by decide +kernel), rfl⟩
abbrev MX6_lender : mM := (RX6, cX6_lender, 3, (some .int), false)
theorem sX6_lender : mMethV yX6_lender MX6_lender 6 1 := ⟨⟨by decide +kernel, rfl, by decide +kernel, mg_in (i := 480) (by decide +kernel) (by decide +kernel), mg_in (i := 44) (by decide +kernel) (by decide +kernel), by decide +kernel, by decide⟩, mg_in (i := 478) (by decide +kernel) (by decide +kernel), mg_in (i := 479) (by decide +kernel) (by decide +kernel), rfl⟩
abbrev MX6_without : mM := (RX6, cX6_without, 3, (some .int), false)
theorem sX6_without : mMethV yX6_without MX6_without 6 1 := ⟨⟨by decide +kernel, rfl, by decide +kernel, mg_in (i := 485) (by decide +kernel) (by decide +kernel), mg_in (i := 44) (by decide +kernel) (by decide +kernel), by decide +kernel, by decide⟩, mg_in (i := 483) (by decide +kernel) (by decide +kernel), mg_in (i := 484) (by decide +kernel) (by decide +kernel), rfl⟩
abbrev MX6_usual : mM := (RX6, cX6_usual, 1, (some .int), false)
theorem sX6_usual : mMethV yX6_usual MX6_usual 6 0 := ⟨⟨by decide +kernel, rfl, by decide +kernel, mg_in (i := 490) (by decide +kernel) (by decide +kernel), mg_in (i := 44) (by decide +kernel) (by decide +kernel), by decide +kernel, by decide⟩, mg_in (i := 488) (by decide +kernel) (by decide +kernel), mg_in (i := 489) (by decide +kernel) (by decide +kernel), rfl⟩
abbrev MX6_put : mM := (RX6, cX6_put, 3, (some .int), false)
theorem sX6_put : mMethV yX6_put MX6_put 6 1 := ⟨⟨by decide +kernel, rfl, by decide +kernel, mg_in (i := 498) (by decide +kernel) (by decide +kernel), mg_in (i := 44) (by decide +kernel) (by decide +kernel), by decide +kernel, by decide⟩, mg_in (i := 496) (by decide +kernel) (by decide +kernel), mg_in (i := 497) (by decide +kernel) (by decide +kernel), rfl⟩
abbrev MX6_wipe : mM := (RX6, cX6_wipe, 1, (some .int), false)
theorem sX6_wipe : mMethV yX6_wipe MX6_wipe 6 0 := ⟨⟨by decide +kernel, rfl, by decide +kernel, mg_in (i := 512) (by decide +kernel) (by decide +kernel), mg_in (i := 44) (by decide +kernel) (by decide +kernel), by decide +kernel, by decide⟩, mg_in (i := 510) (by decide +kernel) (by decide +kernel), mg_in (i := 511) (by decide +kernel) (by decide +kernel), rfl⟩
abbrev MX6_fault : mM := (RX6, cX6_fault, 1, (some .int), false)
theorem sX6_fault : mMethV yX6_fault MX6_fault 6 0 := ⟨⟨by decide +kernel, rfl, by decide +kernel, mg_in (i := 520) (by decide +kernel) (by decide +kernel), mg_in (i := 44) (by decide +kernel) (by decide +kernel), by decide +kernel, by decide⟩, mg_in (i := 518) (by decide +kernel) (by decide +kernel), mg_in (i := 519) (by decide +kernel) (by decide +kernel), rfl⟩
abbrev MX6_carryOut : mM := (RX6, cX6_carryOut, 2, (some .int), false)
theorem sX6_carryOut : mMethV yX6_carryOut MX6_carryOut 6 0 := ⟨⟨by decide +kernel, rfl, by decide +kernel, mg_in (i := 537) (by decide +kernel) (by decide +kernel), mg_in (i := 44) (by decide +kernel) (by decide +kernel), by decide +kernel, by decide⟩, mg_in (i := 535) (by decide +kernel) (by decide +kernel), mg_in (i := 536) (by decide +kernel) (by decide +kernel), rfl⟩
abbrev MX6_undo : mM := (RX6, cX6_undo, 1, (some .int), false)
theorem sX6_undo : mMethV yX6_undo MX6_undo 6 0 := ⟨⟨by decide +kernel, rfl, by decide +kernel, mg_in (i := 561) (by decide +kernel) (by decide +kernel), mg_in (i := 44) (by decide +kernel) (by decide +kernel), by decide +kernel, by decide⟩, mg_in (i := 559) (by decide +kernel) (by decide +kernel), mg_in (i := 560) (by decide +kernel) (by decide +kernel), rfl⟩
abbrev MX6_save : mM := (RX6, cX6_save, 2, (some .int), false)
theorem sX6_save : mMethV yX6_save MX6_save 6 1 := ⟨⟨by decide +kernel, rfl, by decide +kernel, mg_in (i := 569) (by decide +kernel) (by decide +kernel), mg_in (i := 44) (by decide +kernel) (by decide +kernel), by decide +kernel, by decide⟩, mg_in (i := 567) (by decide +kernel) (by decide +kernel), mg_in (i := 568) (by decide +kernel) (by decide +kernel), rfl⟩
abbrev MX6_restore : mM := (RX6, cX6_restore, 2, (some .int), false)
theorem sX6_restore : mMethV yX6_restore MX6_restore 6 1 := ⟨⟨by decide +kernel, rfl, by decide +kernel, mg_in (i := 578) (by decide +kernel) (by decide +kernel), mg_in (i := 44) (by decide +kernel) (by decide +kernel), by decide +kernel, by decide⟩, mg_in (i := 576) (by decide +kernel) (by decide +kernel), mg_in (i := 577) (by decide +kernel) (by decide +kernel), rfl⟩
abbrev MX6_keptUnlessError : mM := (RX6, cX6_keptUnlessError, 2, (some .int), false)
theorem sX6_keptUnlessError : mMethV yX6_keptUnlessError MX6_keptUnlessError 6 1 := ⟨⟨by decide +kernel, rfl, by decide +kernel, mg_in (i := 267) (by decide +kernel) (by decide +kernel), mg_in (i := 44) (by decide +kernel) (by decide +kernel), by decide +kernel, by decide⟩, mg_in (i := 266) (by decide +kernel) (by decide +kernel), mg_in (i := 0) (by decide +kernel) (by decide +kernel), rfl⟩
abbrev MX6_isError : mM := (RX6, cX6_isError, 1, (some .boolean), false)
theorem sX6_isError : mMethS yX6_isError MX6_isError 1 := ⟨⟨by decide +kernel, rfl, by decide +kernel, mg_in (i := 270) (by decide +kernel) (by decide +kernel), mg_in (i := 44) (by decide +kernel) (by decide +kernel), by decide +kernel, by decide⟩, mg_in (i := 269) (by decide +kernel) (by decide +kernel)⟩
abbrev MX6_isTable : mM := (RX6, cX6_isTable, 1, (some .boolean), false)
theorem sX6_isTable : mMethS yX6_isTable MX6_isTable 1 := ⟨⟨by decide +kernel, rfl, by decide +kernel, mg_in (i := 285) (by decide +kernel) (by decide +kernel), mg_in (i := 44) (by decide +kernel) (by decide +kernel), by decide +kernel, by decide⟩, mg_in (i := 284) (by decide +kernel) (by decide +kernel)⟩
abbrev MX6_obeyOrders : mM := (RX6, cX6_obeyOrders, 4, (some .int), false)
theorem sX6_obeyOrders : mMethV yX6_obeyOrders MX6_obeyOrders 6 0 := ⟨⟨by decide +kernel, rfl, by decide +kernel, mg_in (i := 541) (by decide +kernel) (by decide +kernel), mg_in (i := 44) (by decide +kernel) (by decide +kernel), by decide +kernel, by decide⟩, mg_in (i := 540) (by decide +kernel) (by decide +kernel), mg_in (i := 4) (by decide +kernel) (by decide +kernel), rfl⟩
abbrev MX6_obeyOrder : mM := (RX6, cX6_obeyOrder, 4, (some .int), false)
theorem sX6_obeyOrder : mMethV yX6_obeyOrder MX6_obeyOrder 6 2 := ⟨⟨by decide +kernel, rfl, by decide +kernel, mg_in (i := 549) (by decide +kernel) (by decide +kernel), mg_in (i := 44) (by decide +kernel) (by decide +kernel), by decide +kernel, by decide⟩, mg_in (i := 548) (by decide +kernel) (by decide +kernel), mg_in (i := 5) (by decide +kernel) (by decide +kernel), rfl⟩
abbrev MX7_init : mM := (RX7, cX7_init, 2, none, true)
theorem sX7_init : mMethI yX7_init MX7_init 0 := ⟨⟨by decide +kernel, rfl, by decide +kernel, mg_in (i := 587) (by decide +kernel) (by decide +kernel), mg_in (i := 51) (by decide +kernel) (by decide +kernel), by decide +kernel, by decide⟩, mg_in (i := 586) (by decide +kernel) (by decide +kernel)⟩
abbrev MX7_in : mM := (RX7, cX7_in, 3, (some .boolean), false)
theorem sX7_in : mMethS yX7_in MX7_in 3 := ⟨⟨by decide +kernel, rfl, by decide +kernel, mg_in (i := 632) (by decide +kernel) (by decide +kernel), mg_in (i := 51) (by decide +kernel) (by decide +kernel), by decide +kernel, by decide⟩, mg_in (i := 631) (by decide +kernel) (by decide +kernel)⟩
abbrev MX7_isTable : mM := (RX7, cX7_isTable, 1, (some .boolean), false)
theorem sX7_isTable : mMethS yX7_isTable MX7_isTable 1 := ⟨⟨by decide +kernel, rfl, by decide +kernel, mg_in (i := 650) (by decide +kernel) (by decide +kernel), mg_in (i := 51) (by decide +kernel) (by decide +kernel), by decide +kernel, by decide⟩, mg_in (i := 649) (by decide +kernel) (by decide +kernel)⟩
abbrev MX7_isGuest : mM := (RX7, cX7_isGuest, 2, (some .boolean), false)
theorem sX7_isGuest : mMethV yX7_isGuest MX7_isGuest 7 1 := ⟨⟨by decide +kernel, rfl, by decide +kernel, mg_in (i := 670) (by decide +kernel) (by decide +kernel), mg_in (i := 51) (by decide +kernel) (by decide +kernel), by decide +kernel, by decide⟩, mg_in (i := 669) (by decide +kernel) (by decide +kernel), mg_in (i := 11) (by decide +kernel) (by decide +kernel), rfl⟩
abbrev MX7_has : mM := (RX7, cX7_has, 3, (some .int), false)
theorem sX7_has : mMethV yX7_has MX7_has 7 2 := ⟨⟨by decide +kernel, rfl, by decide +kernel, mg_in (i := 674) (by decide +kernel) (by decide +kernel), mg_in (i := 51) (by decide +kernel) (by decide +kernel), by decide +kernel, by decide⟩, mg_in (i := 673) (by decide +kernel) (by decide +kernel), mg_in (i := 12) (by decide +kernel) (by decide +kernel), rfl⟩
abbrev MX7_lay : mM := (RX7, cX7_lay, 4, none, false)
theorem sX7_lay : mMethV yX7_lay MX7_lay 7 3 := ⟨⟨by decide +kernel, rfl, by decide +kernel, mg_in (i := 658) (by decide +kernel) (by decide +kernel), mg_in (i := 51) (by decide +kernel) (by decide +kernel), by decide +kernel, by decide⟩, mg_in (i := 657) (by decide +kernel) (by decide +kernel), mg_in (i := 9) (by decide +kernel) (by decide +kernel), rfl⟩
abbrev MX7_records : mM := (RX7, cX7_records, 2, none, false)
theorem sX7_records : mMethV yX7_records MX7_records 7 0 := ⟨⟨by decide +kernel, rfl, by decide +kernel, mg_in (i := 639) (by decide +kernel) (by decide +kernel), mg_in (i := 51) (by decide +kernel) (by decide +kernel), by decide +kernel, by decide⟩, mg_in (i := 638) (by decide +kernel) (by decide +kernel), mg_in (i := 6) (by decide +kernel) (by decide +kernel), rfl⟩
abbrev MX7_guestsAt : mM := (RX7, cX7_guestsAt, 4, (some .int), false)
theorem sX7_guestsAt : mMethV yX7_guestsAt MX7_guestsAt 7 1 := ⟨⟨by decide +kernel, rfl, by decide +kernel, mg_in (i := 682) (by decide +kernel) (by decide +kernel), mg_in (i := 51) (by decide +kernel) (by decide +kernel), by decide +kernel, by decide⟩, mg_in (i := 681) (by decide +kernel) (by decide +kernel), mg_in (i := 14) (by decide +kernel) (by decide +kernel), rfl⟩
abbrev MX7_ones : mM := (RX7, cX7_ones, 3, (some .int), false)
theorem sX7_ones : mMethS yX7_ones MX7_ones 1 := ⟨⟨by decide +kernel, rfl, by decide +kernel, mg_in (i := 685) (by decide +kernel) (by decide +kernel), mg_in (i := 51) (by decide +kernel) (by decide +kernel), by decide +kernel, by decide⟩, mg_in (i := 684) (by decide +kernel) (by decide +kernel)⟩
abbrev MX7_hostOf : mM := (RX7, cX7_hostOf, 5, (some .int), false)
theorem sX7_hostOf : mMethV yX7_hostOf MX7_hostOf 7 1 := ⟨⟨by decide +kernel, rfl, by decide +kernel, mg_in (i := 749) (by decide +kernel) (by decide +kernel), mg_in (i := 51) (by decide +kernel) (by decide +kernel), by decide +kernel, by decide⟩, mg_in (i := 748) (by decide +kernel) (by decide +kernel), mg_in (i := 26) (by decide +kernel) (by decide +kernel), rfl⟩
abbrev MX7_companyOf : mM := (RX7, cX7_companyOf, 7, (some .int), false)
theorem sX7_companyOf : mMethV yX7_companyOf MX7_companyOf 7 1 := ⟨⟨by decide +kernel, rfl, by decide +kernel, mg_in (i := 709) (by decide +kernel) (by decide +kernel), mg_in (i := 51) (by decide +kernel) (by decide +kernel), by decide +kernel, by decide⟩, mg_in (i := 708) (by decide +kernel) (by decide +kernel), mg_in (i := 18) (by decide +kernel) (by decide +kernel), rfl⟩
abbrev MX7_means : mM := (RX7, cX7_means, 4, (some .int), false)
theorem sX7_means : mMethV yX7_means MX7_means 7 2 := ⟨⟨by decide +kernel, rfl, by decide +kernel, mg_in (i := 729) (by decide +kernel) (by decide +kernel), mg_in (i := 51) (by decide +kernel) (by decide +kernel), by decide +kernel, by decide⟩, mg_in (i := 728) (by decide +kernel) (by decide +kernel), mg_in (i := 22) (by decide +kernel) (by decide +kernel), rfl⟩
abbrev MX7_isPause : mM := (RX7, cX7_isPause, 2, (some .boolean), false)
theorem sX7_isPause : mMethV yX7_isPause MX7_isPause 7 1 := ⟨⟨by decide +kernel, rfl, by decide +kernel, mg_in (i := 701) (by decide +kernel) (by decide +kernel), mg_in (i := 51) (by decide +kernel) (by decide +kernel), by decide +kernel, by decide⟩, mg_in (i := 700) (by decide +kernel) (by decide +kernel), mg_in (i := 16) (by decide +kernel) (by decide +kernel), rfl⟩
abbrev MX7_meansNow : mM := (RX7, cX7_meansNow, 2, (some .int), false)
theorem sX7_meansNow : mMethV yX7_meansNow MX7_meansNow 7 1 := ⟨⟨by decide +kernel, rfl, by decide +kernel, mg_in (i := 725) (by decide +kernel) (by decide +kernel), mg_in (i := 51) (by decide +kernel) (by decide +kernel), by decide +kernel, by decide⟩, mg_in (i := 724) (by decide +kernel) (by decide +kernel), mg_in (i := 21) (by decide +kernel) (by decide +kernel), rfl⟩
abbrev MX7_mostOf : mM := (RX7, cX7_mostOf, 1, (some .int), false)
theorem sX7_mostOf : mMethS yX7_mostOf MX7_mostOf 1 := ⟨⟨by decide +kernel, rfl, by decide +kernel, mg_in (i := 635) (by decide +kernel) (by decide +kernel), mg_in (i := 51) (by decide +kernel) (by decide +kernel), by decide +kernel, by decide⟩, mg_in (i := 634) (by decide +kernel) (by decide +kernel)⟩
abbrev MX7_set : mM := (RX7, cX7_set, 4, (some .int), false)
theorem sX7_set : mMethV yX7_set MX7_set 7 2 := ⟨⟨by decide +kernel, rfl, by decide +kernel, mg_in (i := 629) (by decide +kernel) (by decide +kernel), mg_in (i := 51) (by decide +kernel) (by decide +kernel), by decide +kernel, by decide⟩, mg_in (i := 627) (by decide +kernel) (by decide +kernel), mg_in (i := 628) (by decide +kernel) (by decide +kernel), rfl⟩
abbrev MX7_refusesGuest : mM := (RX7, cX7_refusesGuest, 3, (some .int), false)
theorem sX7_refusesGuest : mMethV yX7_refusesGuest MX7_refusesGuest 7 2 := ⟨⟨by decide +kernel, rfl, by decide +kernel, mg_in (i := 647) (by decide +kernel) (by decide +kernel), mg_in (i := 51) (by decide +kernel) (by decide +kernel), by decide +kernel, by decide⟩, mg_in (i := 646) (by decide +kernel) (by decide +kernel), mg_in (i := 7) (by decide +kernel) (by decide +kernel), rfl⟩
abbrev MX7_comes : mM := (RX7, cX7_comes, 4, (some .int), false)
theorem sX7_comes : mMethV yX7_comes MX7_comes 7 2 := ⟨⟨by decide +kernel, rfl, by decide +kernel, mg_in (i := 654) (by decide +kernel) (by decide +kernel), mg_in (i := 51) (by decide +kernel) (by decide +kernel), by decide +kernel, by decide⟩, mg_in (i := 653) (by decide +kernel) (by decide +kernel), mg_in (i := 8) (by decide +kernel) (by decide +kernel), rfl⟩
abbrev MX7_guest : mM := (RX7, cX7_guest, 4, (some .int), false)
theorem sX7_guest : mMethV yX7_guest MX7_guest 7 2 := ⟨⟨by decide +kernel, rfl, by decide +kernel, mg_in (i := 643) (by decide +kernel) (by decide +kernel), mg_in (i := 51) (by decide +kernel) (by decide +kernel), by decide +kernel, by decide⟩, mg_in (i := 641) (by decide +kernel) (by decide +kernel), mg_in (i := 642) (by decide +kernel) (by decide +kernel), rfl⟩
abbrev MX7_refusesLeaving : mM := (RX7, cX7_refusesLeaving, 2, (some .int), false)
theorem sX7_refusesLeaving : mMethV yX7_refusesLeaving MX7_refusesLeaving 7 1 := ⟨⟨by decide +kernel, rfl, by decide +kernel, mg_in (i := 666) (by decide +kernel) (by decide +kernel), mg_in (i := 51) (by decide +kernel) (by decide +kernel), by decide +kernel, by decide⟩, mg_in (i := 665) (by decide +kernel) (by decide +kernel), mg_in (i := 10) (by decide +kernel) (by decide +kernel), rfl⟩
abbrev MX7_goes : mM := (RX7, cX7_goes, 5, (some .int), false)
theorem sX7_goes : mMethV yX7_goes MX7_goes 7 2 := ⟨⟨by decide +kernel, rfl, by decide +kernel, mg_in (i := 678) (by decide +kernel) (by decide +kernel), mg_in (i := 51) (by decide +kernel) (by decide +kernel), by decide +kernel, by decide⟩, mg_in (i := 677) (by decide +kernel) (by decide +kernel), mg_in (i := 13) (by decide +kernel) (by decide +kernel), rfl⟩
abbrev MX7_leave : mM := (RX7, cX7_leave, 3, (some .int), false)
theorem sX7_leave : mMethV yX7_leave MX7_leave 7 1 := ⟨⟨by decide +kernel, rfl, by decide +kernel, mg_in (i := 662) (by decide +kernel) (by decide +kernel), mg_in (i := 51) (by decide +kernel) (by decide +kernel), by decide +kernel, by decide⟩, mg_in (i := 660) (by decide +kernel) (by decide +kernel), mg_in (i := 661) (by decide +kernel) (by decide +kernel), rfl⟩
abbrev MX7_move : mM := (RX7, cX7_move, 4, (some .int), false)
theorem sX7_move : mMethV yX7_move MX7_move 7 2 := ⟨⟨by decide +kernel, rfl, by decide +kernel, mg_in (i := 689) (by decide +kernel) (by decide +kernel), mg_in (i := 51) (by decide +kernel) (by decide +kernel), by decide +kernel, by decide⟩, mg_in (i := 687) (by decide +kernel) (by decide +kernel), mg_in (i := 688) (by decide +kernel) (by decide +kernel), rfl⟩
abbrev MX7_refusesPause : mM := (RX7, cX7_refusesPause, 2, (some .int), false)
theorem sX7_refusesPause : mMethV yX7_refusesPause MX7_refusesPause 7 1 := ⟨⟨by decide +kernel, rfl, by decide +kernel, mg_in (i := 697) (by decide +kernel) (by decide +kernel), mg_in (i := 51) (by decide +kernel) (by decide +kernel), by decide +kernel, by decide⟩, mg_in (i := 696) (by decide +kernel) (by decide +kernel), mg_in (i := 15) (by decide +kernel) (by decide +kernel), rfl⟩
abbrev MX7_begins : mM := (RX7, cX7_begins, 2, (some .int), false)
theorem sX7_begins : mMethV yX7_begins MX7_begins 7 1 := ⟨⟨by decide +kernel, rfl, by decide +kernel, mg_in (i := 705) (by decide +kernel) (by decide +kernel), mg_in (i := 51) (by decide +kernel) (by decide +kernel), by decide +kernel, by decide⟩, mg_in (i := 704) (by decide +kernel) (by decide +kernel), mg_in (i := 17) (by decide +kernel) (by decide +kernel), rfl⟩
abbrev MX7_pause : mM := (RX7, cX7_pause, 3, (some .int), false)
theorem sX7_pause : mMethV yX7_pause MX7_pause 7 1 := ⟨⟨by decide +kernel, rfl, by decide +kernel, mg_in (i := 693) (by decide +kernel) (by decide +kernel), mg_in (i := 51) (by decide +kernel) (by decide +kernel), by decide +kernel, by decide⟩, mg_in (i := 691) (by decide +kernel) (by decide +kernel), mg_in (i := 692) (by decide +kernel) (by decide +kernel), rfl⟩
abbrev MX7_ends : mM := (RX7, cX7_ends, 6, none, false)
theorem sX7_ends : mMethV yX7_ends MX7_ends 7 4 := ⟨⟨by decide +kernel, rfl, by decide +kernel, mg_in (i := 733) (by decide +kernel) (by decide +kernel), mg_in (i := 51) (by decide +kernel) (by decide +kernel), by decide +kernel, by decide⟩, mg_in (i := 732) (by decide +kernel) (by decide +kernel), mg_in (i := 23) (by decide +kernel) (by decide +kernel), rfl⟩
abbrev MX7_refusesClosing : mM := (RX7, cX7_refusesClosing, 2, (some .int), false)
theorem sX7_refusesClosing : mMethV yX7_refusesClosing MX7_refusesClosing 7 1 := ⟨⟨by decide +kernel, rfl, by decide +kernel, mg_in (i := 717) (by decide +kernel) (by decide +kernel), mg_in (i := 51) (by decide +kernel) (by decide +kernel), by decide +kernel, by decide⟩, mg_in (i := 716) (by decide +kernel) (by decide +kernel), mg_in (i := 19) (by decide +kernel) (by decide +kernel), rfl⟩
abbrev MX7_closes : mM := (RX7, cX7_closes, 5, (some .int), false)
theorem sX7_closes : mMethV yX7_closes MX7_closes 7 1 := ⟨⟨by decide +kernel, rfl, by decide +kernel, mg_in (i := 721) (by decide +kernel) (by decide +kernel), mg_in (i := 51) (by decide +kernel) (by decide +kernel), by decide +kernel, by decide⟩, mg_in (i := 720) (by decide +kernel) (by decide +kernel), mg_in (i := 20) (by decide +kernel) (by decide +kernel), rfl⟩
abbrev MX7_close : mM := (RX7, cX7_close, 3, (some .int), false)
theorem sX7_close : mMethV yX7_close MX7_close 7 1 := ⟨⟨by decide +kernel, rfl, by decide +kernel, mg_in (i := 713) (by decide +kernel) (by decide +kernel), mg_in (i := 51) (by decide +kernel) (by decide +kernel), by decide +kernel, by decide⟩, mg_in (i := 711) (by decide +kernel) (by decide +kernel), mg_in (i := 712) (by decide +kernel) (by decide +kernel), rfl⟩
abbrev MX7_refusesBreak : mM := (RX7, cX7_refusesBreak, 2, (some .int), false)
theorem sX7_refusesBreak : mMethV yX7_refusesBreak MX7_refusesBreak 7 1 := ⟨⟨by decide +kernel, rfl, by decide +kernel, mg_in (i := 741) (by decide +kernel) (by decide +kernel), mg_in (i := 51) (by decide +kernel) (by decide +kernel), by decide +kernel, by decide⟩, mg_in (i := 740) (by decide +kernel) (by decide +kernel), mg_in (i := 24) (by decide +kernel) (by decide +kernel), rfl⟩
abbrev MX7_speaks : mM := (RX7, cX7_speaks, 4, (some .int), false)
theorem sX7_speaks : mMethV yX7_speaks MX7_speaks 7 1 := ⟨⟨by decide +kernel, rfl, by decide +kernel, mg_in (i := 745) (by decide +kernel) (by decide +kernel), mg_in (i := 51) (by decide +kernel) (by decide +kernel), by decide +kernel, by decide⟩, mg_in (i := 744) (by decide +kernel) (by decide +kernel), mg_in (i := 25) (by decide +kernel) (by decide +kernel), rfl⟩
abbrev MX7_word : mM := (RX7, cX7_word, 3, (some .int), false)
theorem sX7_word : mMethV yX7_word MX7_word 7 1 := ⟨⟨by decide +kernel, rfl, by decide +kernel, mg_in (i := 737) (by decide +kernel) (by decide +kernel), mg_in (i := 51) (by decide +kernel) (by decide +kernel), by decide +kernel, by decide⟩, mg_in (i := 735) (by decide +kernel) (by decide +kernel), mg_in (i := 736) (by decide +kernel) (by decide +kernel), rfl⟩
abbrev MX7_lenderFor : mM := (RX7, cX7_lenderFor, 5, (some .int), false)
theorem sX7_lenderFor : mMethV yX7_lenderFor MX7_lenderFor 7 1 := ⟨⟨by decide +kernel, rfl, by decide +kernel, mg_in (i := 761) (by decide +kernel) (by decide +kernel), mg_in (i := 51) (by decide +kernel) (by decide +kernel), by decide +kernel, by decide⟩, mg_in (i := 760) (by decide +kernel) (by decide +kernel), mg_in (i := 28) (by decide +kernel) (by decide +kernel), rfl⟩
abbrev MX7_coughs : mM := (RX7, cX7_coughs, 3, (some .int), false)
theorem sX7_coughs : mMethV yX7_coughs MX7_coughs 7 1 := ⟨⟨by decide +kernel, rfl, by decide +kernel, mg_in (i := 757) (by decide +kernel) (by decide +kernel), mg_in (i := 51) (by decide +kernel) (by decide +kernel), by decide +kernel, by decide⟩, mg_in (i := 756) (by decide +kernel) (by decide +kernel), mg_in (i := 27) (by decide +kernel) (by decide +kernel), rfl⟩
abbrev MX7_cough : mM := (RX7, cX7_cough, 3, (some .int), false)
theorem sX7_cough : mMethV yX7_cough MX7_cough 7 1 := ⟨⟨by decide +kernel, rfl, by decide +kernel, mg_in (i := 753) (by decide +kernel) (by decide +kernel), mg_in (i := 51) (by decide +kernel) (by decide +kernel), by decide +kernel, by decide⟩, mg_in (i := 751) (by decide +kernel) (by decide +kernel), mg_in (i := 752) (by decide +kernel) (by decide +kernel), rfl⟩
abbrev MX7_refusesSeconds : mM := (RX7, cX7_refusesSeconds, 2, (some .int), false)
theorem sX7_refusesSeconds : mMethV yX7_refusesSeconds MX7_refusesSeconds 7 1 := ⟨⟨by decide +kernel, rfl, by decide +kernel, mg_in (i := 769) (by decide +kernel) (by decide +kernel), mg_in (i := 51) (by decide +kernel) (by decide +kernel), by decide +kernel, by decide⟩, mg_in (i := 768) (by decide +kernel) (by decide +kernel), mg_in (i := 29) (by decide +kernel) (by decide +kernel), rfl⟩
abbrev MX7_passes : mM := (RX7, cX7_passes, 4, (some .int), false)
theorem sX7_passes : mMethV yX7_passes MX7_passes 7 1 := ⟨⟨by decide +kernel, rfl, by decide +kernel, mg_in (i := 773) (by decide +kernel) (by decide +kernel), mg_in (i := 51) (by decide +kernel) (by decide +kernel), by decide +kernel, by decide⟩, mg_in (i := 772) (by decide +kernel) (by decide +kernel), mg_in (i := 30) (by decide +kernel) (by decide +kernel), rfl⟩
abbrev MX7_pass : mM := (RX7, cX7_pass, 3, (some .int), false)
theorem sX7_pass : mMethV yX7_pass MX7_pass 7 1 := ⟨⟨by decide +kernel, rfl, by decide +kernel, mg_in (i := 765) (by decide +kernel) (by decide +kernel), mg_in (i := 51) (by decide +kernel) (by decide +kernel), by decide +kernel, by decide⟩, mg_in (i := 763) (by decide +kernel) (by decide +kernel), mg_in (i := 764) (by decide +kernel) (by decide +kernel), rfl⟩
abbrev MX7_tellsGuest : mM := (RX7, cX7_tellsGuest, 4, (some .int), false)
theorem sX7_tellsGuest : mMethV yX7_tellsGuest MX7_tellsGuest 7 2 := ⟨⟨by decide +kernel, rfl, by decide +kernel, mg_in (i := 781) (by decide +kernel) (by decide +kernel), mg_in (i := 51) (by decide +kernel) (by decide +kernel), by decide +kernel, by decide⟩, mg_in (i := 780) (by decide +kernel) (by decide +kernel), mg_in (i := 31) (by decide +kernel) (by decide +kernel), rfl⟩
abbrev MX7_of : mM := (RX7, cX7_of, 3, (some .int), false)
theorem sX7_of : mMethV yX7_of MX7_of 7 2 := ⟨⟨by decide +kernel, rfl, by decide +kernel, mg_in (i := 777) (by decide +kernel) (by decide +kernel), mg_in (i := 51) (by decide +kernel) (by decide +kernel), by decide +kernel, by decide⟩, mg_in (i := 775) (by decide +kernel) (by decide +kernel), mg_in (i := 776) (by decide +kernel) (by decide +kernel), rfl⟩
abbrev MX7_table : mM := (RX7, cX7_table, 3, (some .int), false)
theorem sX7_table : mMethV yX7_table MX7_table 7 2 := ⟨⟨by decide +kernel, rfl, by decide +kernel, mg_in (i := 785) (by decide +kernel) (by decide +kernel), mg_in (i := 51) (by decide +kernel) (by decide +kernel), by decide +kernel, by decide⟩, mg_in (i := 783) (by decide +kernel) (by decide +kernel), mg_in (i := 784) (by decide +kernel) (by decide +kernel), rfl⟩
abbrev MX7_meaning : mM := (RX7, cX7_meaning, 3, (some .int), false)
theorem sX7_meaning : mMethV yX7_meaning MX7_meaning 7 2 := ⟨⟨by decide +kernel, rfl, by decide +kernel, mg_in (i := 789) (by decide +kernel) (by decide +kernel), mg_in (i := 51) (by decide +kernel) (by decide +kernel), by decide +kernel, by decide⟩, mg_in (i := 787) (by decide +kernel) (by decide +kernel), mg_in (i := 788) (by decide +kernel) (by decide +kernel), rfl⟩
abbrev MX7_end : mM := (RX7, cX7_end, 3, (some .int), false)
theorem sX7_end : mMethV yX7_end MX7_end 7 2 := ⟨⟨by decide +kernel, rfl, by decide +kernel, mg_in (i := 793) (by decide +kernel) (by decide +kernel), mg_in (i := 51) (by decide +kernel) (by decide +kernel), by decide +kernel, by decide⟩, mg_in (i := 791) (by decide +kernel) (by decide +kernel), mg_in (i := 792) (by decide +kernel) (by decide +kernel), rfl⟩
abbrev MX7_there : mM := (RX7, cX7_there, 1, (some .int), false)
theorem sX7_there : mMethV yX7_there MX7_there 7 0 := ⟨⟨by decide +kernel, rfl, by decide +kernel, mg_in (i := 801) (by decide +kernel) (by decide +kernel), mg_in (i := 51) (by decide +kernel) (by decide +kernel), by decide +kernel, by decide⟩, mg_in (i := 800) (by decide +kernel) (by decide +kernel), mg_in (i := 32) (by decide +kernel) (by decide +kernel), rfl⟩
abbrev MX7_pauses : mM := (RX7, cX7_pauses, 3, (some .int), false)
theorem sX7_pauses : mMethV yX7_pauses MX7_pauses 7 0 := ⟨⟨by decide +kernel, rfl, by decide +kernel, mg_in (i := 805) (by decide +kernel) (by decide +kernel), mg_in (i := 51) (by decide +kernel) (by decide +kernel), by decide +kernel, by decide⟩, mg_in (i := 804) (by decide +kernel) (by decide +kernel), mg_in (i := 33) (by decide +kernel) (by decide +kernel), rfl⟩
abbrev MX7_sumOf : mM := (RX7, cX7_sumOf, 5, (some .int), false)
theorem sX7_sumOf : mMethV yX7_sumOf MX7_sumOf 7 2 := ⟨⟨by decide +kernel, rfl, by decide +kernel, mg_in (i := 809) (by decide +kernel) (by decide +kernel), mg_in (i := 51) (by decide +kernel) (by decide +kernel), by decide +kernel, by decide⟩, mg_in (i := 808) (by decide +kernel) (by decide +kernel), mg_in (i := 34) (by decide +kernel) (by decide +kernel), rfl⟩
abbrev MX7_meantSet : mM := (RX7, cX7_meantSet, 3, (some .int), false)
theorem sX7_meantSet : mMethV yX7_meantSet MX7_meantSet 7 0 := ⟨⟨by decide +kernel, rfl, by decide +kernel, mg_in (i := 813) (by decide +kernel) (by decide +kernel), mg_in (i := 51) (by decide +kernel) (by decide +kernel), by decide +kernel, by decide⟩, mg_in (i := 812) (by decide +kernel) (by decide +kernel), mg_in (i := 35) (by decide +kernel) (by decide +kernel), rfl⟩
abbrev MX7_count : mM := (RX7, cX7_count, 2, (some .int), false)
theorem sX7_count : mMethV yX7_count MX7_count 7 1 := ⟨⟨by decide +kernel, rfl, by decide +kernel, mg_in (i := 797) (by decide +kernel) (by decide +kernel), mg_in (i := 51) (by decide +kernel) (by decide +kernel), by decide +kernel, by decide⟩, mg_in (i := 795) (by decide +kernel) (by decide +kernel), mg_in (i := 796) (by decide +kernel) (by decide +kernel), rfl⟩
abbrev MX7_wouldMean : mM := (RX7, cX7_wouldMean, 3, (some .int), false)
theorem sX7_wouldMean : mMethV yX7_wouldMean MX7_wouldMean 7 2 := ⟨⟨by decide +kernel, rfl, by decide +kernel, mg_in (i := 817) (by decide +kernel) (by decide +kernel), mg_in (i := 51) (by decide +kernel) (by decide +kernel), by decide +kernel, by decide⟩, mg_in (i := 815) (by decide +kernel) (by decide +kernel), mg_in (i := 816) (by decide +kernel) (by decide +kernel), rfl⟩
abbrev MX7_turnsIn : mM := (RX7, cX7_turnsIn, 6, (some .int), false)
theorem sX7_turnsIn : mMethV yX7_turnsIn MX7_turnsIn 7 1 := ⟨⟨by decide +kernel, rfl, by decide +kernel, mg_in (i := 821) (by decide +kernel) (by decide +kernel), mg_in (i := 51) (by decide +kernel) (by decide +kernel), by decide +kernel, by decide⟩, mg_in (i := 819) (by decide +kernel) (by decide +kernel), mg_in (i := 820) (by decide +kernel) (by decide +kernel), rfl⟩
abbrev MX7_lender : mM := (RX7, cX7_lender, 3, (some .int), false)
theorem sX7_lender : mMethV yX7_lender MX7_lender 7 1 := ⟨⟨by decide +kernel, rfl, by decide +kernel, mg_in (i := 825) (by decide +kernel) (by decide +kernel), mg_in (i := 51) (by decide +kernel) (by decide +kernel), by decide +kernel, by decide⟩, mg_in (i := 823) (by decide +kernel) (by decide +kernel), mg_in (i := 824) (by decide +kernel) (by decide +kernel), rfl⟩
abbrev MX7_without : mM := (RX7, cX7_without, 4, (some .int), false)
theorem sX7_without : mMethV yX7_without MX7_without 7 1 := ⟨⟨by decide +kernel, rfl, by decide +kernel, mg_in (i := 829) (by decide +kernel) (by decide +kernel), mg_in (i := 51) (by decide +kernel) (by decide +kernel), by decide +kernel, by decide⟩, mg_in (i := 827) (by decide +kernel) (by decide +kernel), mg_in (i := 828) (by decide +kernel) (by decide +kernel), rfl⟩
abbrev MX7_usual : mM := (RX7, cX7_usual, 5, (some .int), false)
theorem sX7_usual : mMethV yX7_usual MX7_usual 7 0 := ⟨⟨by decide +kernel, rfl, by decide +kernel, mg_in (i := 833) (by decide +kernel) (by decide +kernel), mg_in (i := 51) (by decide +kernel) (by decide +kernel), by decide +kernel, by decide⟩, mg_in (i := 831) (by decide +kernel) (by decide +kernel), mg_in (i := 832) (by decide +kernel) (by decide +kernel), rfl⟩
abbrev MX7_put : mM := (RX7, cX7_put, 8, (some .int), false)
theorem sX7_put : mMethV yX7_put MX7_put 7 1 := ⟨⟨by decide +kernel, rfl, by decide +kernel, mg_in (i := 837) (by decide +kernel) (by decide +kernel), mg_in (i := 51) (by decide +kernel) (by decide +kernel), by decide +kernel, by decide⟩, mg_in (i := 835) (by decide +kernel) (by decide +kernel), mg_in (i := 836) (by decide +kernel) (by decide +kernel), rfl⟩
abbrev MX7_wipe : mM := (RX7, cX7_wipe, 2, (some .int), false)
theorem sX7_wipe : mMethV yX7_wipe MX7_wipe 7 0 := ⟨⟨by decide +kernel, rfl, by decide +kernel, mg_in (i := 842) (by decide +kernel) (by decide +kernel), mg_in (i := 51) (by decide +kernel) (by decide +kernel), by decide +kernel, by decide⟩, mg_in (i := 840) (by decide +kernel) (by decide +kernel), mg_in (i := 841) (by decide +kernel) (by decide +kernel), rfl⟩
abbrev MX7_sign : mM := (RX7, cX7_sign, 1, (some .int), false)
theorem sX7_sign : mMethV yX7_sign MX7_sign 7 0 := ⟨⟨by decide +kernel, rfl, by decide +kernel, mg_in (i := 858) (by decide +kernel) (by decide +kernel), mg_in (i := 51) (by decide +kernel) (by decide +kernel), by decide +kernel, by decide⟩, mg_in (i := 857) (by decide +kernel) (by decide +kernel), mg_in (i := 38) (by decide +kernel) (by decide +kernel), rfl⟩
abbrev MX7_digit : mM := (RX7, cX7_digit, 2, (some .int), false)
theorem sX7_digit : mMethV yX7_digit MX7_digit 7 0 := ⟨⟨by decide +kernel, rfl, by decide +kernel, mg_in (i := 862) (by decide +kernel) (by decide +kernel), mg_in (i := 51) (by decide +kernel) (by decide +kernel), by decide +kernel, by decide⟩, mg_in (i := 861) (by decide +kernel) (by decide +kernel), mg_in (i := 39) (by decide +kernel) (by decide +kernel), rfl⟩
abbrev MX7_number : mM := (RX7, cX7_number, 2, (some .int), false)
theorem sX7_number : mMethV yX7_number MX7_number 7 0 := ⟨⟨by decide +kernel, rfl, by decide +kernel, mg_in (i := 866) (by decide +kernel) (by decide +kernel), mg_in (i := 51) (by decide +kernel) (by decide +kernel), by decide +kernel, by decide⟩, mg_in (i := 865) (by decide +kernel) (by decide +kernel), mg_in (i := 40) (by decide +kernel) (by decide +kernel), rfl⟩
abbrev MX7_readsOrder : mM := (RX7, cX7_readsOrder, 3, none, false)
theorem sX7_readsOrder : mMethV yX7_readsOrder MX7_readsOrder 7 0 := ⟨⟨by decide +kernel, rfl, by decide +kernel, mg_in (i := 854) (by decide +kernel) (by decide +kernel), mg_in (i := 51) (by decide +kernel) (by decide +kernel), by decide +kernel, by decide⟩, mg_in (i := 853) (by decide +kernel) (by decide +kernel), mg_in (i := 37) (by decide +kernel) (by decide +kernel), rfl⟩
abbrev MX7_reads : mM := (RX7, cX7_reads, 1, (some .int), false)
theorem sX7_reads : mMethV yX7_reads MX7_reads 7 0 := ⟨⟨by decide +kernel, rfl, by decide +kernel, mg_in (i := 850) (by decide +kernel) (by decide +kernel), mg_in (i := 51) (by decide +kernel) (by decide +kernel), by decide +kernel, by decide⟩, mg_in (i := 849) (by decide +kernel) (by decide +kernel), mg_in (i := 36) (by decide +kernel) (by decide +kernel), rfl⟩
abbrev MX7_fault : mM := (RX7, cX7_fault, 1, (some .int), false)
theorem sX7_fault : mMethV yX7_fault MX7_fault 7 0 := ⟨⟨by decide +kernel, rfl, by decide +kernel, mg_in (i := 846) (by decide +kernel) (by decide +kernel), mg_in (i := 51) (by decide +kernel) (by decide +kernel), by decide +kernel, by decide⟩, mg_in (i := 844) (by decide +kernel) (by decide +kernel), mg_in (i := 845) (by decide +kernel) (by decide +kernel), rfl⟩
abbrev MX7_refuses : mM := (RX7, cX7_refuses, 4, (some .int), false)
theorem sX7_refuses : mMethV yX7_refuses MX7_refuses 7 3 := ⟨⟨by decide +kernel, rfl, by decide +kernel, mg_in (i := 874) (by decide +kernel) (by decide +kernel), mg_in (i := 51) (by decide +kernel) (by decide +kernel), by decide +kernel, by decide⟩, mg_in (i := 873) (by decide +kernel) (by decide +kernel), mg_in (i := 41) (by decide +kernel) (by decide +kernel), rfl⟩
abbrev MX7_does : mM := (RX7, cX7_does, 4, none, false)
theorem sX7_does : mMethV yX7_does MX7_does 7 3 := ⟨⟨by decide +kernel, rfl, by decide +kernel, mg_in (i := 878) (by decide +kernel) (by decide +kernel), mg_in (i := 51) (by decide +kernel) (by decide +kernel), by decide +kernel, by decide⟩, mg_in (i := 877) (by decide +kernel) (by decide +kernel), mg_in (i := 42) (by decide +kernel) (by decide +kernel), rfl⟩
abbrev MX7_carryOut : mM := (RX7, cX7_carryOut, 2, (some .int), false)
theorem sX7_carryOut : mMethV yX7_carryOut MX7_carryOut 7 0 := ⟨⟨by decide +kernel, rfl, by decide +kernel, mg_in (i := 870) (by decide +kernel) (by decide +kernel), mg_in (i := 51) (by decide +kernel) (by decide +kernel), by decide +kernel, by decide⟩, mg_in (i := 868) (by decide +kernel) (by decide +kernel), mg_in (i := 869) (by decide +kernel) (by decide +kernel), rfl⟩
abbrev MX7_undo : mM := (RX7, cX7_undo, 2, (some .int), false)
theorem sX7_undo : mMethV yX7_undo MX7_undo 7 0 := ⟨⟨by decide +kernel, rfl, by decide +kernel, mg_in (i := 882) (by decide +kernel) (by decide +kernel), mg_in (i := 51) (by decide +kernel) (by decide +kernel), by decide +kernel, by decide⟩, mg_in (i := 880) (by decide +kernel) (by decide +kernel), mg_in (i := 881) (by decide +kernel) (by decide +kernel), rfl⟩
abbrev MX7_save : mM := (RX7, cX7_save, 3, (some .int), false)
theorem sX7_save : mMethV yX7_save MX7_save 7 1 := ⟨⟨by decide +kernel, rfl, by decide +kernel, mg_in (i := 886) (by decide +kernel) (by decide +kernel), mg_in (i := 51) (by decide +kernel) (by decide +kernel), by decide +kernel, by decide⟩, mg_in (i := 884) (by decide +kernel) (by decide +kernel), mg_in (i := 885) (by decide +kernel) (by decide +kernel), rfl⟩
abbrev MX7_restore : mM := (RX7, cX7_restore, 3, (some .int), false)
theorem sX7_restore : mMethV yX7_restore MX7_restore 7 1 := ⟨⟨by decide +kernel, rfl, by decide +kernel, mg_in (i := 890) (by decide +kernel) (by decide +kernel), mg_in (i := 51) (by decide +kernel) (by decide +kernel), by decide +kernel, by decide⟩, mg_in (i := 888) (by decide +kernel) (by decide +kernel), mg_in (i := 889) (by decide +kernel) (by decide +kernel), rfl⟩
abbrev MJ6_bitCount_0f7a4 : mM := (RJ6, cJ6_bitCount_0f7a4, 1, (some .int), false)
theorem sJ6_bitCount_0f7a4 : mMethS yJ6_bitCount_0f7a4 MJ6_bitCount_0f7a4 1 := ⟨⟨by decide +kernel, rfl, by decide +kernel, mg_in (i := 312) (by decide +kernel) (by decide +kernel), mg_in (i := 53) (by decide +kernel) (by decide +kernel), by decide +kernel, by decide⟩, mg_in (i := 311) (by decide +kernel) (by decide +kernel)⟩
theorem ml_L_9 : Cond.methodLink RL 9 yX6_init ∈ mGW := mg_in (i := 57) (by decide +kernel) (by decide +kernel)
theorem ml_X6_1 : Cond.methodLink RX6 1 objectInit ∈ mGW := mg_in (i := 60) (by decide +kernel) (by decide +kernel)
theorem ml_X4_3 : Cond.methodLink RX4 3 objectInit ∈ mGW := mg_in (i := 68) (by decide +kernel) (by decide +kernel)
theorem ml_X4_19 : Cond.methodLink RX4 19 ⟨"[I", "clone", "()Ljava/lang/Object;"⟩ ∈ mGW := mg_in (i := 71) (by decide +kernel) (by decide +kernel)
theorem ml_X0_3 : Cond.methodLink RX0 3 objectInit ∈ mGW := mg_in (i := 83) (by decide +kernel) (by decide +kernel)
theorem ml_X2_3 : Cond.methodLink RX2 3 objectInit ∈ mGW := mg_in (i := 124) (by decide +kernel) (by decide +kernel)
theorem ml_X6_18 : Cond.methodLink RX6 18 yX1_init ∈ mGW := mg_in (i := 174) (by decide +kernel) (by decide +kernel)
theorem ml_X1_3 : Cond.methodLink RX1 3 objectInit ∈ mGW := mg_in (i := 177) (by decide +kernel) (by decide +kernel)
theorem ml_X5_3 : Cond.methodLink RX5 3 objectInit ∈ mGW := mg_in (i := 194) (by decide +kernel) (by decide +kernel)
theorem ml_X3_3 : Cond.methodLink RX3 3 objectInit ∈ mGW := mg_in (i := 210) (by decide +kernel) (by decide +kernel)
theorem ml_L_13 : Cond.methodLink RL 13 yX6_set ∈ mGW := mg_in (i := 233) (by decide +kernel) (by decide +kernel)
theorem ml_X6_37 : Cond.methodLink RX6 37 yX1_noteBefore ∈ mGW := mg_in (i := 237) (by decide +kernel) (by decide +kernel)
theorem ml_X1_22 : Cond.methodLink RX1 22 yX4_copyFrom ∈ mGW := mg_in (i := 241) (by decide +kernel) (by decide +kernel)
theorem ml_X4_47 : Cond.methodLink RX4 47 arraycopyName ∈ mGW := mg_in (i := 245) (by decide +kernel) (by decide +kernel)
theorem ml_X4_53 : Cond.methodLink RX4 53 yX0_copyFrom ∈ mGW := mg_in (i := 248) (by decide +kernel) (by decide +kernel)
theorem ml_X0_34 : Cond.methodLink RX0 34 arraycopyName ∈ mGW := mg_in (i := 252) (by decide +kernel) (by decide +kernel)
theorem ml_X4_57 : Cond.methodLink RX4 57 yX2_copyFrom ∈ mGW := mg_in (i := 253) (by decide +kernel) (by decide +kernel)
theorem ml_X2_28 : Cond.methodLink RX2 28 arraycopyName ∈ mGW := mg_in (i := 257) (by decide +kernel) (by decide +kernel)
theorem ml_X6_41 : Cond.methodLink RX6 41 yX4_changeSetting ∈ mGW := mg_in (i := 258) (by decide +kernel) (by decide +kernel)
theorem ml_X6_45 : Cond.methodLink RX6 45 yX6_keptUnlessError ∈ mGW := mg_in (i := 264) (by decide +kernel) (by decide +kernel)
theorem ml_X6_218 : Cond.methodLink RX6 218 yX6_isError ∈ mGW := mg_in (i := 268) (by decide +kernel) (by decide +kernel)
theorem ml_X6_204 : Cond.methodLink RX6 204 yX1_keepNoted ∈ mGW := mg_in (i := 271) (by decide +kernel) (by decide +kernel)
theorem ml_L_18 : Cond.methodLink RL 18 yX6_guest ∈ mGW := mg_in (i := 275) (by decide +kernel) (by decide +kernel)
theorem ml_X6_49 : Cond.methodLink RX6 49 yX4_welcome ∈ mGW := mg_in (i := 279) (by decide +kernel) (by decide +kernel)
theorem ml_X4_67 : Cond.methodLink RX4 67 yX0_add ∈ mGW := mg_in (i := 286) (by decide +kernel) (by decide +kernel)
theorem ml_L_22 : Cond.methodLink RL 22 yX6_leave ∈ mGW := mg_in (i := 290) (by decide +kernel) (by decide +kernel)
theorem ml_X6_52 : Cond.methodLink RX6 52 yX4_seeOff ∈ mGW := mg_in (i := 294) (by decide +kernel) (by decide +kernel)
theorem ml_X4_71 : Cond.methodLink RX4 71 yX0_isKnown ∈ mGW := mg_in (i := 298) (by decide +kernel) (by decide +kernel)
theorem ml_X4_77 : Cond.methodLink RX4 77 yX4_dropPauseOfNobody ∈ mGW := mg_in (i := 302) (by decide +kernel) (by decide +kernel)
theorem ml_X4_81 : Cond.methodLink RX4 81 yX0_setAt ∈ mGW := mg_in (i := 306) (by decide +kernel) (by decide +kernel)
theorem ml_X4_85 : Cond.methodLink RX4 85 yJ6_bitCount_0f7a4 ∈ mGW := mg_in (i := 310) (by decide +kernel) (by decide +kernel)
theorem ml_L_27 : Cond.methodLink RL 27 yX6_move ∈ mGW := mg_in (i := 316) (by decide +kernel) (by decide +kernel)
theorem ml_X6_55 : Cond.methodLink RX6 55 yX4_reseat ∈ mGW := mg_in (i := 320) (by decide +kernel) (by decide +kernel)
theorem ml_L_31 : Cond.methodLink RL 31 yX6_pause ∈ mGW := mg_in (i := 324) (by decide +kernel) (by decide +kernel)
theorem ml_X6_58 : Cond.methodLink RX6 58 yX4_beginPause ∈ mGW := mg_in (i := 328) (by decide +kernel) (by decide +kernel)
theorem ml_X4_90 : Cond.methodLink RX4 90 yX0_companyOf ∈ mGW := mg_in (i := 332) (by decide +kernel) (by decide +kernel)
theorem ml_L_35 : Cond.methodLink RL 35 yX6_close ∈ mGW := mg_in (i := 336) (by decide +kernel) (by decide +kernel)
theorem ml_X6_61 : Cond.methodLink RX6 61 yX4_closePause ∈ mGW := mg_in (i := 340) (by decide +kernel) (by decide +kernel)
theorem ml_X4_94 : Cond.methodLink RX4 94 yX4_meaningNow ∈ mGW := mg_in (i := 344) (by decide +kernel) (by decide +kernel)
theorem ml_X4_130 : Cond.methodLink RX4 130 yX4_meaningFor ∈ mGW := mg_in (i := 348) (by decide +kernel) (by decide +kernel)
theorem ml_X4_133 : Cond.methodLink RX4 133 yX4_beginOfShade ∈ mGW := mg_in (i := 352) (by decide +kernel) (by decide +kernel)
theorem ml_X4_97 : Cond.methodLink RX4 97 yX2_enterMeaning ∈ mGW := mg_in (i := 358) (by decide +kernel) (by decide +kernel)
theorem ml_X2_34 : Cond.methodLink RX2 34 yJ9_max_7cf53 ∈ mGW := mg_in (i := 362) (by decide +kernel) (by decide +kernel)
theorem ml_X4_101 : Cond.methodLink RX4 101 yX4_endPause ∈ mGW := mg_in (i := 365) (by decide +kernel) (by decide +kernel)
theorem ml_X4_126 : Cond.methodLink RX4 126 yX2_tellEnd ∈ mGW := mg_in (i := 369) (by decide +kernel) (by decide +kernel)
theorem ml_X2_40 : Cond.methodLink RX2 40 yJ9_min_7cf53 ∈ mGW := mg_in (i := 373) (by decide +kernel) (by decide +kernel)
theorem ml_L_39 : Cond.methodLink RL 39 yX6_word ∈ mGW := mg_in (i := 376) (by decide +kernel) (by decide +kernel)
theorem ml_X6_64 : Cond.methodLink RX6 64 yX4_breakByWord ∈ mGW := mg_in (i := 380) (by decide +kernel) (by decide +kernel)
theorem ml_X4_105 : Cond.methodLink RX4 105 yX4_errorOfBreak ∈ mGW := mg_in (i := 384) (by decide +kernel) (by decide +kernel)
theorem ml_X4_108 : Cond.methodLink RX4 108 yX0_hostOf ∈ mGW := mg_in (i := 388) (by decide +kernel) (by decide +kernel)
theorem ml_L_43 : Cond.methodLink RL 43 yX6_cough ∈ mGW := mg_in (i := 392) (by decide +kernel) (by decide +kernel)
theorem ml_X6_67 : Cond.methodLink RX6 67 yX4_breakByCough ∈ mGW := mg_in (i := 396) (by decide +kernel) (by decide +kernel)
theorem ml_X4_117 : Cond.methodLink RX4 117 yX0_lenderTo ∈ mGW := mg_in (i := 400) (by decide +kernel) (by decide +kernel)
theorem ml_L_47 : Cond.methodLink RL 47 yX6_pass ∈ mGW := mg_in (i := 404) (by decide +kernel) (by decide +kernel)
theorem ml_X6_70 : Cond.methodLink RX6 70 yX4_letPass ∈ mGW := mg_in (i := 408) (by decide +kernel) (by decide +kernel)
theorem ml_L_51 : Cond.methodLink RL 51 yX6_of ∈ mGW := mg_in (i := 412) (by decide +kernel) (by decide +kernel)
theorem ml_X6_77 : Cond.methodLink RX6 77 yX0_isKnown ∈ mGW := mg_in (i := 416) (by decide +kernel) (by decide +kernel)
theorem ml_X6_96 : Cond.methodLink RX6 96 yX0_isHost ∈ mGW := mg_in (i := 417) (by decide +kernel) (by decide +kernel)
theorem ml_X0_40 : Cond.methodLink RX0 40 yX0_hostOf ∈ mGW := mg_in (i := 421) (by decide +kernel) (by decide +kernel)
theorem ml_L_55 : Cond.methodLink RL 55 yX6_table ∈ mGW := mg_in (i := 422) (by decide +kernel) (by decide +kernel)
theorem ml_X6_105 : Cond.methodLink RX6 105 yX6_isTable ∈ mGW := mg_in (i := 426) (by decide +kernel) (by decide +kernel)
theorem ml_X6_108 : Cond.methodLink RX6 108 yX0_setAt ∈ mGW := mg_in (i := 427) (by decide +kernel) (by decide +kernel)
theorem ml_X6_111 : Cond.methodLink RX6 111 yX0_hostOf ∈ mGW := mg_in (i := 428) (by decide +kernel) (by decide +kernel)
theorem ml_X6_114 : Cond.methodLink RX6 114 yX0_companyOf ∈ mGW := mg_in (i := 429) (by decide +kernel) (by decide +kernel)
theorem ml_X6_120 : Cond.methodLink RX6 120 yX4_meaningNow ∈ mGW := mg_in (i := 430) (by decide +kernel) (by decide +kernel)
theorem ml_L_59 : Cond.methodLink RL 59 yX6_meaning ∈ mGW := mg_in (i := 431) (by decide +kernel) (by decide +kernel)
theorem ml_L_63 : Cond.methodLink RL 63 yX6_end ∈ mGW := mg_in (i := 435) (by decide +kernel) (by decide +kernel)
theorem ml_L_67 : Cond.methodLink RL 67 yX6_count ∈ mGW := mg_in (i := 439) (by decide +kernel) (by decide +kernel)
theorem ml_X6_148 : Cond.methodLink RX6 148 yX0_setOfThoseHere ∈ mGW := mg_in (i := 443) (by decide +kernel) (by decide +kernel)
theorem ml_X0_44 : Cond.methodLink RX0 44 yX0_setAt ∈ mGW := mg_in (i := 447) (by decide +kernel) (by decide +kernel)
theorem ml_X6_152 : Cond.methodLink RX6 152 yX4_pausesThatGoOn ∈ mGW := mg_in (i := 448) (by decide +kernel) (by decide +kernel)
theorem ml_X6_158 : Cond.methodLink RX6 158 yX0_faultsOfAll ∈ mGW := mg_in (i := 452) (by decide +kernel) (by decide +kernel)
theorem ml_X6_161 : Cond.methodLink RX6 161 yX2_setOfMeant ∈ mGW := mg_in (i := 456) (by decide +kernel) (by decide +kernel)
theorem ml_X6_164 : Cond.methodLink RX6 164 yX0_coughsOfThoseHere ∈ mGW := mg_in (i := 460) (by decide +kernel) (by decide +kernel)
theorem ml_L_71 : Cond.methodLink RL 71 yX6_wouldMean ∈ mGW := mg_in (i := 464) (by decide +kernel) (by decide +kernel)
theorem ml_X6_176 : Cond.methodLink RX6 176 yX4_meaningFor ∈ mGW := mg_in (i := 468) (by decide +kernel) (by decide +kernel)
theorem ml_L_75 : Cond.methodLink RL 75 yX6_turnsIn ∈ mGW := mg_in (i := 469) (by decide +kernel) (by decide +kernel)
theorem ml_X6_179 : Cond.methodLink RX6 179 yX4_secondsToTurn ∈ mGW := mg_in (i := 473) (by decide +kernel) (by decide +kernel)
theorem ml_L_79 : Cond.methodLink RL 79 yX6_lender ∈ mGW := mg_in (i := 477) (by decide +kernel) (by decide +kernel)
theorem ml_X6_182 : Cond.methodLink RX6 182 yX0_lenderTo ∈ mGW := mg_in (i := 481) (by decide +kernel) (by decide +kernel)
theorem ml_L_83 : Cond.methodLink RL 83 yX6_without ∈ mGW := mg_in (i := 482) (by decide +kernel) (by decide +kernel)
theorem ml_X6_185 : Cond.methodLink RX6 185 yX4_errorOfBreak ∈ mGW := mg_in (i := 486) (by decide +kernel) (by decide +kernel)
theorem ml_L_87 : Cond.methodLink RL 87 yX6_usual ∈ mGW := mg_in (i := 487) (by decide +kernel) (by decide +kernel)
theorem ml_X6_188 : Cond.methodLink RX6 188 yX2_mostMeant ∈ mGW := mg_in (i := 491) (by decide +kernel) (by decide +kernel)
theorem ml_L_94 : Cond.methodLink RL 94 yX6_put ∈ mGW := mg_in (i := 495) (by decide +kernel) (by decide +kernel)
theorem ml_X6_191 : Cond.methodLink RX6 191 yX3_append ∈ mGW := mg_in (i := 499) (by decide +kernel) (by decide +kernel)
theorem ml_X3_19 : Cond.methodLink RX3 19 yX3_charactersIn ∈ mGW := mg_in (i := 503) (by decide +kernel) (by decide +kernel)
theorem ml_X3_23 : Cond.methodLink RX3 23 yX3_codeOf ∈ mGW := mg_in (i := 506) (by decide +kernel) (by decide +kernel)
theorem ml_L_99 : Cond.methodLink RL 99 yX6_wipe ∈ mGW := mg_in (i := 509) (by decide +kernel) (by decide +kernel)
theorem ml_X6_195 : Cond.methodLink RX6 195 yX3_clear ∈ mGW := mg_in (i := 513) (by decide +kernel) (by decide +kernel)
theorem ml_L_103 : Cond.methodLink RL 103 yX6_fault ∈ mGW := mg_in (i := 517) (by decide +kernel) (by decide +kernel)
theorem ml_X6_198 : Cond.methodLink RX6 198 yX3_firstFault ∈ mGW := mg_in (i := 521) (by decide +kernel) (by decide +kernel)
theorem ml_X3_27 : Cond.methodLink RX3 27 yX3_expectedAfter ∈ mGW := mg_in (i := 525) (by decide +kernel) (by decide +kernel)
theorem ml_X3_31 : Cond.methodLink RX3 31 yX3_expectedAfterLetter ∈ mGW := mg_in (i := 528) (by decide +kernel) (by decide +kernel)
theorem ml_X3_35 : Cond.methodLink RX3 35 yX3_isDigit ∈ mGW := mg_in (i := 531) (by decide +kernel) (by decide +kernel)
theorem ml_L_107 : Cond.methodLink RL 107 yX6_carryOut ∈ mGW := mg_in (i := 534) (by decide +kernel) (by decide +kernel)
theorem ml_X6_201 : Cond.methodLink RX6 201 yX6_obeyOrders ∈ mGW := mg_in (i := 538) (by decide +kernel) (by decide +kernel)
theorem ml_X6_221 : Cond.methodLink RX6 221 yX3_isEndOfOrder ∈ mGW := mg_in (i := 542) (by decide +kernel) (by decide +kernel)
theorem ml_X6_224 : Cond.methodLink RX6 224 yX6_obeyOrder ∈ mGW := mg_in (i := 546) (by decide +kernel) (by decide +kernel)
theorem ml_X6_227 : Cond.methodLink RX6 227 yX3_lastNumber ∈ mGW := mg_in (i := 550) (by decide +kernel) (by decide +kernel)
theorem ml_X6_233 : Cond.methodLink RX6 233 yX3_firstDigit ∈ mGW := mg_in (i := 554) (by decide +kernel) (by decide +kernel)
theorem ml_L_111 : Cond.methodLink RL 111 yX6_undo ∈ mGW := mg_in (i := 558) (by decide +kernel) (by decide +kernel)
theorem ml_X6_207 : Cond.methodLink RX6 207 yX1_takeBack ∈ mGW := mg_in (i := 562) (by decide +kernel) (by decide +kernel)
theorem ml_L_115 : Cond.methodLink RL 115 yX6_save ∈ mGW := mg_in (i := 566) (by decide +kernel) (by decide +kernel)
theorem ml_X6_211 : Cond.methodLink RX6 211 yX5_keep ∈ mGW := mg_in (i := 570) (by decide +kernel) (by decide +kernel)
theorem ml_X5_22 : Cond.methodLink RX5 22 yX4_copyFrom ∈ mGW := mg_in (i := 574) (by decide +kernel) (by decide +kernel)
theorem ml_L_119 : Cond.methodLink RL 119 yX6_restore ∈ mGW := mg_in (i := 575) (by decide +kernel) (by decide +kernel)
theorem ml_X6_215 : Cond.methodLink RX6 215 yX5_giveBack ∈ mGW := mg_in (i := 579) (by decide +kernel) (by decide +kernel)
theorem ml_L_12 : Cond.methodLink RL 12 yX7_init ∈ mGW := mg_in (i := 585) (by decide +kernel) (by decide +kernel)
theorem ml_X7_1 : Cond.methodLink RX7 1 objectInit ∈ mGW := mg_in (i := 588) (by decide +kernel) (by decide +kernel)
theorem ml_L_17 : Cond.methodLink RL 17 yX7_set ∈ mGW := mg_in (i := 626) (by decide +kernel) (by decide +kernel)
theorem ml_X7_33 : Cond.methodLink RX7 33 yX7_in ∈ mGW := mg_in (i := 630) (by decide +kernel) (by decide +kernel)
theorem ml_X7_57 : Cond.methodLink RX7 57 yX7_mostOf ∈ mGW := mg_in (i := 633) (by decide +kernel) (by decide +kernel)
theorem ml_X7_60 : Cond.methodLink RX7 60 yX7_records ∈ mGW := mg_in (i := 636) (by decide +kernel) (by decide +kernel)
theorem ml_L_21 : Cond.methodLink RL 21 yX7_guest ∈ mGW := mg_in (i := 640) (by decide +kernel) (by decide +kernel)
theorem ml_X7_71 : Cond.methodLink RX7 71 yX7_refusesGuest ∈ mGW := mg_in (i := 644) (by decide +kernel) (by decide +kernel)
theorem ml_X7_63 : Cond.methodLink RX7 63 yX7_isTable ∈ mGW := mg_in (i := 648) (by decide +kernel) (by decide +kernel)
theorem ml_X7_74 : Cond.methodLink RX7 74 yX7_comes ∈ mGW := mg_in (i := 651) (by decide +kernel) (by decide +kernel)
theorem ml_X7_67 : Cond.methodLink RX7 67 yX7_lay ∈ mGW := mg_in (i := 655) (by decide +kernel) (by decide +kernel)
theorem ml_L_26 : Cond.methodLink RL 26 yX7_leave ∈ mGW := mg_in (i := 659) (by decide +kernel) (by decide +kernel)
theorem ml_X7_80 : Cond.methodLink RX7 80 yX7_refusesLeaving ∈ mGW := mg_in (i := 663) (by decide +kernel) (by decide +kernel)
theorem ml_X7_77 : Cond.methodLink RX7 77 yX7_isGuest ∈ mGW := mg_in (i := 667) (by decide +kernel) (by decide +kernel)
theorem ml_X7_40 : Cond.methodLink RX7 40 yX7_has ∈ mGW := mg_in (i := 671) (by decide +kernel) (by decide +kernel)
theorem ml_X7_83 : Cond.methodLink RX7 83 yX7_goes ∈ mGW := mg_in (i := 675) (by decide +kernel) (by decide +kernel)
theorem ml_X7_48 : Cond.methodLink RX7 48 yX7_guestsAt ∈ mGW := mg_in (i := 679) (by decide +kernel) (by decide +kernel)
theorem ml_X7_44 : Cond.methodLink RX7 44 yX7_ones ∈ mGW := mg_in (i := 683) (by decide +kernel) (by decide +kernel)
theorem ml_L_30 : Cond.methodLink RL 30 yX7_move ∈ mGW := mg_in (i := 686) (by decide +kernel) (by decide +kernel)
theorem ml_L_34 : Cond.methodLink RL 34 yX7_pause ∈ mGW := mg_in (i := 690) (by decide +kernel) (by decide +kernel)
theorem ml_X7_89 : Cond.methodLink RX7 89 yX7_refusesPause ∈ mGW := mg_in (i := 694) (by decide +kernel) (by decide +kernel)
theorem ml_X7_86 : Cond.methodLink RX7 86 yX7_isPause ∈ mGW := mg_in (i := 698) (by decide +kernel) (by decide +kernel)
theorem ml_X7_92 : Cond.methodLink RX7 92 yX7_begins ∈ mGW := mg_in (i := 702) (by decide +kernel) (by decide +kernel)
theorem ml_X7_51 : Cond.methodLink RX7 51 yX7_companyOf ∈ mGW := mg_in (i := 706) (by decide +kernel) (by decide +kernel)
theorem ml_L_38 : Cond.methodLink RL 38 yX7_close ∈ mGW := mg_in (i := 710) (by decide +kernel) (by decide +kernel)
theorem ml_X7_102 : Cond.methodLink RX7 102 yX7_refusesClosing ∈ mGW := mg_in (i := 714) (by decide +kernel) (by decide +kernel)
theorem ml_X7_105 : Cond.methodLink RX7 105 yX7_closes ∈ mGW := mg_in (i := 718) (by decide +kernel) (by decide +kernel)
theorem ml_X7_95 : Cond.methodLink RX7 95 yX7_meansNow ∈ mGW := mg_in (i := 722) (by decide +kernel) (by decide +kernel)
theorem ml_X7_54 : Cond.methodLink RX7 54 yX7_means ∈ mGW := mg_in (i := 726) (by decide +kernel) (by decide +kernel)
theorem ml_X7_98 : Cond.methodLink RX7 98 yX7_ends ∈ mGW := mg_in (i := 730) (by decide +kernel) (by decide +kernel)
theorem ml_L_42 : Cond.methodLink RL 42 yX7_word ∈ mGW := mg_in (i := 734) (by decide +kernel) (by decide +kernel)
theorem ml_X7_111 : Cond.methodLink RX7 111 yX7_refusesBreak ∈ mGW := mg_in (i := 738) (by decide +kernel) (by decide +kernel)
theorem ml_X7_114 : Cond.methodLink RX7 114 yX7_speaks ∈ mGW := mg_in (i := 742) (by decide +kernel) (by decide +kernel)
theorem ml_X7_108 : Cond.methodLink RX7 108 yX7_hostOf ∈ mGW := mg_in (i := 746) (by decide +kernel) (by decide +kernel)
theorem ml_L_46 : Cond.methodLink RL 46 yX7_cough ∈ mGW := mg_in (i := 750) (by decide +kernel) (by decide +kernel)
theorem ml_X7_120 : Cond.methodLink RX7 120 yX7_coughs ∈ mGW := mg_in (i := 754) (by decide +kernel) (by decide +kernel)
theorem ml_X7_117 : Cond.methodLink RX7 117 yX7_lenderFor ∈ mGW := mg_in (i := 758) (by decide +kernel) (by decide +kernel)
theorem ml_L_50 : Cond.methodLink RL 50 yX7_pass ∈ mGW := mg_in (i := 762) (by decide +kernel) (by decide +kernel)
theorem ml_X7_123 : Cond.methodLink RX7 123 yX7_refusesSeconds ∈ mGW := mg_in (i := 766) (by decide +kernel) (by decide +kernel)
theorem ml_X7_126 : Cond.methodLink RX7 126 yX7_passes ∈ mGW := mg_in (i := 770) (by decide +kernel) (by decide +kernel)
theorem ml_L_54 : Cond.methodLink RL 54 yX7_of ∈ mGW := mg_in (i := 774) (by decide +kernel) (by decide +kernel)
theorem ml_X7_129 : Cond.methodLink RX7 129 yX7_tellsGuest ∈ mGW := mg_in (i := 778) (by decide +kernel) (by decide +kernel)
theorem ml_L_58 : Cond.methodLink RL 58 yX7_table ∈ mGW := mg_in (i := 782) (by decide +kernel) (by decide +kernel)
theorem ml_L_62 : Cond.methodLink RL 62 yX7_meaning ∈ mGW := mg_in (i := 786) (by decide +kernel) (by decide +kernel)
theorem ml_L_66 : Cond.methodLink RL 66 yX7_end ∈ mGW := mg_in (i := 790) (by decide +kernel) (by decide +kernel)
theorem ml_L_70 : Cond.methodLink RL 70 yX7_count ∈ mGW := mg_in (i := 794) (by decide +kernel) (by decide +kernel)
theorem ml_X7_132 : Cond.methodLink RX7 132 yX7_there ∈ mGW := mg_in (i := 798) (by decide +kernel) (by decide +kernel)
theorem ml_X7_136 : Cond.methodLink RX7 136 yX7_pauses ∈ mGW := mg_in (i := 802) (by decide +kernel) (by decide +kernel)
theorem ml_X7_139 : Cond.methodLink RX7 139 yX7_sumOf ∈ mGW := mg_in (i := 806) (by decide +kernel) (by decide +kernel)
theorem ml_X7_143 : Cond.methodLink RX7 143 yX7_meantSet ∈ mGW := mg_in (i := 810) (by decide +kernel) (by decide +kernel)
theorem ml_L_74 : Cond.methodLink RL 74 yX7_wouldMean ∈ mGW := mg_in (i := 814) (by decide +kernel) (by decide +kernel)
theorem ml_L_78 : Cond.methodLink RL 78 yX7_turnsIn ∈ mGW := mg_in (i := 818) (by decide +kernel) (by decide +kernel)
theorem ml_L_82 : Cond.methodLink RL 82 yX7_lender ∈ mGW := mg_in (i := 822) (by decide +kernel) (by decide +kernel)
theorem ml_L_86 : Cond.methodLink RL 86 yX7_without ∈ mGW := mg_in (i := 826) (by decide +kernel) (by decide +kernel)
theorem ml_L_91 : Cond.methodLink RL 91 yX7_usual ∈ mGW := mg_in (i := 830) (by decide +kernel) (by decide +kernel)
theorem ml_L_98 : Cond.methodLink RL 98 yX7_put ∈ mGW := mg_in (i := 834) (by decide +kernel) (by decide +kernel)
theorem ml_L_102 : Cond.methodLink RL 102 yX7_wipe ∈ mGW := mg_in (i := 839) (by decide +kernel) (by decide +kernel)
theorem ml_L_106 : Cond.methodLink RL 106 yX7_fault ∈ mGW := mg_in (i := 843) (by decide +kernel) (by decide +kernel)
theorem ml_X7_173 : Cond.methodLink RX7 173 yX7_reads ∈ mGW := mg_in (i := 847) (by decide +kernel) (by decide +kernel)
theorem ml_X7_170 : Cond.methodLink RX7 170 yX7_readsOrder ∈ mGW := mg_in (i := 851) (by decide +kernel) (by decide +kernel)
theorem ml_X7_158 : Cond.methodLink RX7 158 yX7_sign ∈ mGW := mg_in (i := 855) (by decide +kernel) (by decide +kernel)
theorem ml_X7_161 : Cond.methodLink RX7 161 yX7_digit ∈ mGW := mg_in (i := 859) (by decide +kernel) (by decide +kernel)
theorem ml_X7_167 : Cond.methodLink RX7 167 yX7_number ∈ mGW := mg_in (i := 863) (by decide +kernel) (by decide +kernel)
theorem ml_L_110 : Cond.methodLink RL 110 yX7_carryOut ∈ mGW := mg_in (i := 867) (by decide +kernel) (by decide +kernel)
theorem ml_X7_176 : Cond.methodLink RX7 176 yX7_refuses ∈ mGW := mg_in (i := 871) (by decide +kernel) (by decide +kernel)
theorem ml_X7_180 : Cond.methodLink RX7 180 yX7_does ∈ mGW := mg_in (i := 875) (by decide +kernel) (by decide +kernel)
theorem ml_L_114 : Cond.methodLink RL 114 yX7_undo ∈ mGW := mg_in (i := 879) (by decide +kernel) (by decide +kernel)
theorem ml_L_118 : Cond.methodLink RL 118 yX7_save ∈ mGW := mg_in (i := 883) (by decide +kernel) (by decide +kernel)
theorem ml_L_122 : Cond.methodLink RL 122 yX7_restore ∈ mGW := mg_in (i := 887) (by decide +kernel) (by decide +kernel)
theorem ml_X6_9 : Cond.methodLinkNest RX6 9 yX4_init "PauseLexicons" ∈ mNW := mn_in (i := 65) (by decide +kernel) (by decide +kernel)
theorem ml_X4_29 : Cond.methodLinkNest RX4 29 yX0_init "PauseLexicons" ∈ mNW := mn_in (i := 80) (by decide +kernel) (by decide +kernel)
theorem ml_X4_36 : Cond.methodLinkNest RX4 36 yX2_init "PauseLexicons" ∈ mNW := mn_in (i := 121) (by decide +kernel) (by decide +kernel)
theorem ml_X1_21 : Cond.methodLinkNest RX1 21 yX4_init "PauseLexicons" ∈ mNW := mn_in (i := 180) (by decide +kernel) (by decide +kernel)
theorem ml_X6_25 : Cond.methodLinkNest RX6 25 yX5_init "PauseLexicons" ∈ mNW := mn_in (i := 191) (by decide +kernel) (by decide +kernel)
theorem ml_X5_11 : Cond.methodLinkNest RX5 11 yX4_init "PauseLexicons" ∈ mNW := mn_in (i := 196) (by decide +kernel) (by decide +kernel)
theorem ml_X6_32 : Cond.methodLinkNest RX6 32 yX3_init "PauseLexicons" ∈ mNW := mn_in (i := 207) (by decide +kernel) (by decide +kernel)
theorem ml_X4_63 : Cond.methodLinkNest RX4 63 yX6_isTable "PauseLexicons" ∈ mNW := mn_in (i := 283) (by decide +kernel) (by decide +kernel)
theorem wo_inst : Cond.instanceMethod objectInit ∈ mGW := mg_in (i := 61) (by decide +kernel) (by decide +kernel)
theorem wo_code : Cond.code objectInit ⟨#[0xb1]⟩ 1 none ∈ mGW := mg_in (i := 62) (by decide +kernel) (by decide +kernel)
theorem wa_nat : Cond.native arraycopyName ∈ mGW := mg_in (i := 247) (by decide +kernel) (by decide +kernel)
theorem wa_stat : Cond.static arraycopyName ∈ mGW := mg_in (i := 246) (by decide +kernel) (by decide +kernel)
theorem wa_ini : Cond.initialized "java/lang/System" ∈ mGW := mg_in (i := 52) (by decide +kernel) (by decide +kernel)
theorem wm_ini : Cond.initialized "java/lang/Math" ∈ mGW := mg_in (i := 54) (by decide +kernel) (by decide +kernel)
theorem wm_max_stat : Cond.static Lib.Math.max.name ∈ mGW := mg_in (i := 363) (by decide +kernel) (by decide +kernel)
theorem wm_max_code : Cond.code Lib.Math.max.name Lib.Math.max.code 2 (some .int) ∈ mGW := mg_in (i := 364) (by decide +kernel) (by decide +kernel)
theorem wm_min_stat : Cond.static Lib.Math.min.name ∈ mGW := mg_in (i := 374) (by decide +kernel) (by decide +kernel)
theorem wm_min_code : Cond.code Lib.Math.min.name Lib.Math.min.code 2 (some .int) ∈ mGW := mg_in (i := 375) (by decide +kernel) (by decide +kernel)
theorem wc_same : Cond.sameMethod "[I" "java/lang/Object" "clone" "()Ljava/lang/Object;" ∈ mGW := mg_in (i := 72) (by decide +kernel) (by decide +kernel)
theorem wc_nat : Cond.native ⟨"java/lang/Object", "clone", "()Ljava/lang/Object;"⟩ ∈ mGW := mg_in (i := 73) (by decide +kernel) (by decide +kernel)
theorem wc_inst : Cond.instanceMethod ⟨"java/lang/Object", "clone", "()Ljava/lang/Object;"⟩ ∈ mGW := mg_in (i := 74) (by decide +kernel) (by decide +kernel)
theorem wc_sel : Cond.selects "[I" ⟨"[I", "clone", "()Ljava/lang/Object;"⟩ ⟨"java/lang/Object", "clone", "()Ljava/lang/Object;"⟩ ∈ mGW := mg_in (i := 75) (by decide +kernel) (by decide +kernel)
theorem wc_cast : Cond.castable "[I" "java/lang/Cloneable" ∈ mNW := mn_in (i := 76) (by decide +kernel) (by decide +kernel)
theorem wk_int : Cond.arrayClass .int ∈ mGW := mg_in (i := 118) (by decide +kernel) (by decide +kernel)
theorem wk_bool : Cond.arrayClass .boolean ∈ mGW := mg_in (i := 204) (by decide +kernel) (by decide +kernel)
theorem nc_X0 : mNC 0 RX0 := ⟨TX0, 7, rfl, rfl, muX0, miX0, mzX0, tyX0_ok, by decide⟩
theorem nc_X1 : mNC 1 RX1 := ⟨TX1, 2, rfl, rfl, muX1, miX1, mzX1, tyX1_ok, by decide⟩
theorem nc_X2 : mNC 2 RX2 := ⟨TX2, 5, rfl, rfl, muX2, miX2, mzX2, tyX2_ok, by decide⟩
theorem nc_X3 : mNC 3 RX3 := ⟨TX3, 2, rfl, rfl, muX3, miX3, mzX3, tyX3_ok, by decide⟩
theorem nc_X4 : mNC 4 RX4 := ⟨TX4, 6, rfl, rfl, muX4, miX4, mzX4, tyX4_ok, by decide⟩
theorem nc_X5 : mNC 5 RX5 := ⟨TX5, 2, rfl, rfl, muX5, miX5, mzX5, tyX5_ok, by decide⟩
theorem nc_X6 : mNC 6 RX6 := ⟨TX6, 4, rfl, rfl, muX6, miX6, mzX6, tyX6_ok, by decide⟩
theorem nc_X7 : mNC 7 RX7 := ⟨TX7, 12, rfl, rfl, muX7, miX7, mzX7, tyX7_ok, by decide⟩
theorem g_V0i {M M' : mM} {d pc b idx ci : Nat} {L : mLs} {rest : List Value}  {hp hp1 : mHp} {out : mOut} {v : Int32} {y : MethodName}  (hd : decode M.2.1 pc = .ok (.invokevirtual idx, 3)) (hl : Cond.methodLink M.1 idx y ∈ mGW) (hy : mMethV y M' ci 0) (hsh : hp.1[b]? = some (.inl ci)) (h4 : 4 ≤ b) (hst : rest.length ≤ 4) (hc : mCall d y M' [.ref b] hp (some (.int v)) hp1) (k : mGo M (d + 1) (pc + 3, L, .int v :: rest, hp1) out) : mGo M (d + 1) (pc, L, .ref b :: rest, hp) out := g_callV (host := "") (As := [])  hd hl hy hsh h4 rfl hst hc k
theorem g_S0i {M M' : mM} {d pc idx : Nat} {L : mLs} {rest : List Value}  {hp hp1 : mHp} {out : mOut} {v : Int32} {y : MethodName}  (hd : decode M.2.1 pc = .ok (.invokestatic idx, 3)) (hl : Cond.methodLink M.1 idx y ∈ mGW) (hy : mMethS y M' 0) (hst : rest.length ≤ 4) (hc : mCall d y M' [] hp (some (.int v)) hp1) (k : mGo M (d + 1) (pc + 3, L, .int v :: rest, hp1) out) : mGo M (d + 1) (pc, L, rest, hp) out := g_callS (b := 0) (ci := 0) (host := "") (As := [])  hd hl hy rfl hst hc k
theorem g_SN0i {M M' : mM} {d pc idx : Nat} {L : mLs} {rest : List Value}  {hp hp1 : mHp} {out : mOut} {v : Int32} {y : MethodName} {host : String} (hd : decode M.2.1 pc = .ok (.invokestatic idx, 3)) (hl : Cond.methodLinkNest M.1 idx y host ∈ mNW) (hy : mMethS y M' 0) (hst : rest.length ≤ 4) (hc : mCall d y M' [] hp (some (.int v)) hp1) (k : mGo M (d + 1) (pc + 3, L, .int v :: rest, hp1) out) : mGo M (d + 1) (pc, L, rest, hp) out := g_callSN (b := 0) (ci := 0) (host := host) (As := [])  hd hl hy rfl hst hc k
theorem g_V0v {M M' : mM} {d pc b idx ci : Nat} {L : mLs} {rest : List Value}  {hp hp1 : mHp} {out : mOut}  {y : MethodName}  (hd : decode M.2.1 pc = .ok (.invokevirtual idx, 3)) (hl : Cond.methodLink M.1 idx y ∈ mGW) (hy : mMethV y M' ci 0) (hsh : hp.1[b]? = some (.inl ci)) (h4 : 4 ≤ b) (hst : rest.length ≤ 4) (hc : mCall d y M' [.ref b] hp (none) hp1) (k : mGo M (d + 1) (pc + 3, L, rest, hp1) out) : mGo M (d + 1) (pc, L, .ref b :: rest, hp) out := g_callV (host := "") (As := [])  hd hl hy hsh h4 rfl hst hc k
theorem g_S0v {M M' : mM} {d pc idx : Nat} {L : mLs} {rest : List Value}  {hp hp1 : mHp} {out : mOut}  {y : MethodName}  (hd : decode M.2.1 pc = .ok (.invokestatic idx, 3)) (hl : Cond.methodLink M.1 idx y ∈ mGW) (hy : mMethS y M' 0) (hst : rest.length ≤ 4) (hc : mCall d y M' [] hp (none) hp1) (k : mGo M (d + 1) (pc + 3, L, rest, hp1) out) : mGo M (d + 1) (pc, L, rest, hp) out := g_callS (b := 0) (ci := 0) (host := "") (As := [])  hd hl hy rfl hst hc k
theorem g_SN0v {M M' : mM} {d pc idx : Nat} {L : mLs} {rest : List Value}  {hp hp1 : mHp} {out : mOut}  {y : MethodName} {host : String} (hd : decode M.2.1 pc = .ok (.invokestatic idx, 3)) (hl : Cond.methodLinkNest M.1 idx y host ∈ mNW) (hy : mMethS y M' 0) (hst : rest.length ≤ 4) (hc : mCall d y M' [] hp (none) hp1) (k : mGo M (d + 1) (pc + 3, L, rest, hp1) out) : mGo M (d + 1) (pc, L, rest, hp) out := g_callSN (b := 0) (ci := 0) (host := host) (As := [])  hd hl hy rfl hst hc k
theorem g_V0l {M M' : mM} {d pc b idx ci : Nat} {L : mLs} {rest : List Value}  {hp hp1 : mHp} {out : mOut} {v : Int64} {y : MethodName}  (hd : decode M.2.1 pc = .ok (.invokevirtual idx, 3)) (hl : Cond.methodLink M.1 idx y ∈ mGW) (hy : mMethV y M' ci 0) (hsh : hp.1[b]? = some (.inl ci)) (h4 : 4 ≤ b) (hst : rest.length ≤ 4) (hc : mCall d y M' [.ref b] hp (some (.long v)) hp1) (k : mGo M (d + 1) (pc + 3, L, .long v :: rest, hp1) out) : mGo M (d + 1) (pc, L, .ref b :: rest, hp) out := g_callV (host := "") (As := [])  hd hl hy hsh h4 rfl hst hc k
theorem g_S0l {M M' : mM} {d pc idx : Nat} {L : mLs} {rest : List Value}  {hp hp1 : mHp} {out : mOut} {v : Int64} {y : MethodName}  (hd : decode M.2.1 pc = .ok (.invokestatic idx, 3)) (hl : Cond.methodLink M.1 idx y ∈ mGW) (hy : mMethS y M' 0) (hst : rest.length ≤ 4) (hc : mCall d y M' [] hp (some (.long v)) hp1) (k : mGo M (d + 1) (pc + 3, L, .long v :: rest, hp1) out) : mGo M (d + 1) (pc, L, rest, hp) out := g_callS (b := 0) (ci := 0) (host := "") (As := [])  hd hl hy rfl hst hc k
theorem g_SN0l {M M' : mM} {d pc idx : Nat} {L : mLs} {rest : List Value}  {hp hp1 : mHp} {out : mOut} {v : Int64} {y : MethodName} {host : String} (hd : decode M.2.1 pc = .ok (.invokestatic idx, 3)) (hl : Cond.methodLinkNest M.1 idx y host ∈ mNW) (hy : mMethS y M' 0) (hst : rest.length ≤ 4) (hc : mCall d y M' [] hp (some (.long v)) hp1) (k : mGo M (d + 1) (pc + 3, L, .long v :: rest, hp1) out) : mGo M (d + 1) (pc, L, rest, hp) out := g_callSN (b := 0) (ci := 0) (host := host) (As := [])  hd hl hy rfl hst hc k
theorem g_V1i {M M' : mM} {d pc b idx ci : Nat} {L : mLs} {rest : List Value} {a1 : Value} {hp hp1 : mHp} {out : mOut} {v : Int32} {y : MethodName}  (hd : decode M.2.1 pc = .ok (.invokevirtual idx, 3)) (hl : Cond.methodLink M.1 idx y ∈ mGW) (hy : mMethV y M' ci 1) (hsh : hp.1[b]? = some (.inl ci)) (h4 : 4 ≤ b) (hst : rest.length ≤ 4) (hc : mCall d y M' [.ref b, a1] hp (some (.int v)) hp1) (k : mGo M (d + 1) (pc + 3, L, .int v :: rest, hp1) out) : mGo M (d + 1) (pc, L, a1 :: .ref b :: rest, hp) out := g_callV (host := "") (As := [a1])  hd hl hy hsh h4 rfl hst hc k
theorem g_S1i {M M' : mM} {d pc idx : Nat} {L : mLs} {rest : List Value} {a1 : Value} {hp hp1 : mHp} {out : mOut} {v : Int32} {y : MethodName}  (hd : decode M.2.1 pc = .ok (.invokestatic idx, 3)) (hl : Cond.methodLink M.1 idx y ∈ mGW) (hy : mMethS y M' 1) (hst : rest.length ≤ 4) (hc : mCall d y M' [a1] hp (some (.int v)) hp1) (k : mGo M (d + 1) (pc + 3, L, .int v :: rest, hp1) out) : mGo M (d + 1) (pc, L, a1 :: rest, hp) out := g_callS (b := 0) (ci := 0) (host := "") (As := [a1])  hd hl hy rfl hst hc k
theorem g_SN1i {M M' : mM} {d pc idx : Nat} {L : mLs} {rest : List Value} {a1 : Value} {hp hp1 : mHp} {out : mOut} {v : Int32} {y : MethodName} {host : String} (hd : decode M.2.1 pc = .ok (.invokestatic idx, 3)) (hl : Cond.methodLinkNest M.1 idx y host ∈ mNW) (hy : mMethS y M' 1) (hst : rest.length ≤ 4) (hc : mCall d y M' [a1] hp (some (.int v)) hp1) (k : mGo M (d + 1) (pc + 3, L, .int v :: rest, hp1) out) : mGo M (d + 1) (pc, L, a1 :: rest, hp) out := g_callSN (b := 0) (ci := 0) (host := host) (As := [a1])  hd hl hy rfl hst hc k
theorem g_V1v {M M' : mM} {d pc b idx ci : Nat} {L : mLs} {rest : List Value} {a1 : Value} {hp hp1 : mHp} {out : mOut}  {y : MethodName}  (hd : decode M.2.1 pc = .ok (.invokevirtual idx, 3)) (hl : Cond.methodLink M.1 idx y ∈ mGW) (hy : mMethV y M' ci 1) (hsh : hp.1[b]? = some (.inl ci)) (h4 : 4 ≤ b) (hst : rest.length ≤ 4) (hc : mCall d y M' [.ref b, a1] hp (none) hp1) (k : mGo M (d + 1) (pc + 3, L, rest, hp1) out) : mGo M (d + 1) (pc, L, a1 :: .ref b :: rest, hp) out := g_callV (host := "") (As := [a1])  hd hl hy hsh h4 rfl hst hc k
theorem g_S1v {M M' : mM} {d pc idx : Nat} {L : mLs} {rest : List Value} {a1 : Value} {hp hp1 : mHp} {out : mOut}  {y : MethodName}  (hd : decode M.2.1 pc = .ok (.invokestatic idx, 3)) (hl : Cond.methodLink M.1 idx y ∈ mGW) (hy : mMethS y M' 1) (hst : rest.length ≤ 4) (hc : mCall d y M' [a1] hp (none) hp1) (k : mGo M (d + 1) (pc + 3, L, rest, hp1) out) : mGo M (d + 1) (pc, L, a1 :: rest, hp) out := g_callS (b := 0) (ci := 0) (host := "") (As := [a1])  hd hl hy rfl hst hc k
theorem g_SN1v {M M' : mM} {d pc idx : Nat} {L : mLs} {rest : List Value} {a1 : Value} {hp hp1 : mHp} {out : mOut}  {y : MethodName} {host : String} (hd : decode M.2.1 pc = .ok (.invokestatic idx, 3)) (hl : Cond.methodLinkNest M.1 idx y host ∈ mNW) (hy : mMethS y M' 1) (hst : rest.length ≤ 4) (hc : mCall d y M' [a1] hp (none) hp1) (k : mGo M (d + 1) (pc + 3, L, rest, hp1) out) : mGo M (d + 1) (pc, L, a1 :: rest, hp) out := g_callSN (b := 0) (ci := 0) (host := host) (As := [a1])  hd hl hy rfl hst hc k
theorem g_V1l {M M' : mM} {d pc b idx ci : Nat} {L : mLs} {rest : List Value} {a1 : Value} {hp hp1 : mHp} {out : mOut} {v : Int64} {y : MethodName}  (hd : decode M.2.1 pc = .ok (.invokevirtual idx, 3)) (hl : Cond.methodLink M.1 idx y ∈ mGW) (hy : mMethV y M' ci 1) (hsh : hp.1[b]? = some (.inl ci)) (h4 : 4 ≤ b) (hst : rest.length ≤ 4) (hc : mCall d y M' [.ref b, a1] hp (some (.long v)) hp1) (k : mGo M (d + 1) (pc + 3, L, .long v :: rest, hp1) out) : mGo M (d + 1) (pc, L, a1 :: .ref b :: rest, hp) out := g_callV (host := "") (As := [a1])  hd hl hy hsh h4 rfl hst hc k
theorem g_S1l {M M' : mM} {d pc idx : Nat} {L : mLs} {rest : List Value} {a1 : Value} {hp hp1 : mHp} {out : mOut} {v : Int64} {y : MethodName}  (hd : decode M.2.1 pc = .ok (.invokestatic idx, 3)) (hl : Cond.methodLink M.1 idx y ∈ mGW) (hy : mMethS y M' 1) (hst : rest.length ≤ 4) (hc : mCall d y M' [a1] hp (some (.long v)) hp1) (k : mGo M (d + 1) (pc + 3, L, .long v :: rest, hp1) out) : mGo M (d + 1) (pc, L, a1 :: rest, hp) out := g_callS (b := 0) (ci := 0) (host := "") (As := [a1])  hd hl hy rfl hst hc k
theorem g_SN1l {M M' : mM} {d pc idx : Nat} {L : mLs} {rest : List Value} {a1 : Value} {hp hp1 : mHp} {out : mOut} {v : Int64} {y : MethodName} {host : String} (hd : decode M.2.1 pc = .ok (.invokestatic idx, 3)) (hl : Cond.methodLinkNest M.1 idx y host ∈ mNW) (hy : mMethS y M' 1) (hst : rest.length ≤ 4) (hc : mCall d y M' [a1] hp (some (.long v)) hp1) (k : mGo M (d + 1) (pc + 3, L, .long v :: rest, hp1) out) : mGo M (d + 1) (pc, L, a1 :: rest, hp) out := g_callSN (b := 0) (ci := 0) (host := host) (As := [a1])  hd hl hy rfl hst hc k
theorem g_V2i {M M' : mM} {d pc b idx ci : Nat} {L : mLs} {rest : List Value} {a1 a2 : Value} {hp hp1 : mHp} {out : mOut} {v : Int32} {y : MethodName}  (hd : decode M.2.1 pc = .ok (.invokevirtual idx, 3)) (hl : Cond.methodLink M.1 idx y ∈ mGW) (hy : mMethV y M' ci 2) (hsh : hp.1[b]? = some (.inl ci)) (h4 : 4 ≤ b) (hst : rest.length ≤ 4) (hc : mCall d y M' [.ref b, a1, a2] hp (some (.int v)) hp1) (k : mGo M (d + 1) (pc + 3, L, .int v :: rest, hp1) out) : mGo M (d + 1) (pc, L, a2 :: a1 :: .ref b :: rest, hp) out := g_callV (host := "") (As := [a1, a2])  hd hl hy hsh h4 rfl hst hc k
theorem g_S2i {M M' : mM} {d pc idx : Nat} {L : mLs} {rest : List Value} {a1 a2 : Value} {hp hp1 : mHp} {out : mOut} {v : Int32} {y : MethodName}  (hd : decode M.2.1 pc = .ok (.invokestatic idx, 3)) (hl : Cond.methodLink M.1 idx y ∈ mGW) (hy : mMethS y M' 2) (hst : rest.length ≤ 4) (hc : mCall d y M' [a1, a2] hp (some (.int v)) hp1) (k : mGo M (d + 1) (pc + 3, L, .int v :: rest, hp1) out) : mGo M (d + 1) (pc, L, a2 :: a1 :: rest, hp) out := g_callS (b := 0) (ci := 0) (host := "") (As := [a1, a2])  hd hl hy rfl hst hc k
theorem g_SN2i {M M' : mM} {d pc idx : Nat} {L : mLs} {rest : List Value} {a1 a2 : Value} {hp hp1 : mHp} {out : mOut} {v : Int32} {y : MethodName} {host : String} (hd : decode M.2.1 pc = .ok (.invokestatic idx, 3)) (hl : Cond.methodLinkNest M.1 idx y host ∈ mNW) (hy : mMethS y M' 2) (hst : rest.length ≤ 4) (hc : mCall d y M' [a1, a2] hp (some (.int v)) hp1) (k : mGo M (d + 1) (pc + 3, L, .int v :: rest, hp1) out) : mGo M (d + 1) (pc, L, a2 :: a1 :: rest, hp) out := g_callSN (b := 0) (ci := 0) (host := host) (As := [a1, a2])  hd hl hy rfl hst hc k
theorem g_V2v {M M' : mM} {d pc b idx ci : Nat} {L : mLs} {rest : List Value} {a1 a2 : Value} {hp hp1 : mHp} {out : mOut}  {y : MethodName}  (hd : decode M.2.1 pc = .ok (.invokevirtual idx, 3)) (hl : Cond.methodLink M.1 idx y ∈ mGW) (hy : mMethV y M' ci 2) (hsh : hp.1[b]? = some (.inl ci)) (h4 : 4 ≤ b) (hst : rest.length ≤ 4) (hc : mCall d y M' [.ref b, a1, a2] hp (none) hp1) (k : mGo M (d + 1) (pc + 3, L, rest, hp1) out) : mGo M (d + 1) (pc, L, a2 :: a1 :: .ref b :: rest, hp) out := g_callV (host := "") (As := [a1, a2])  hd hl hy hsh h4 rfl hst hc k
theorem g_S2v {M M' : mM} {d pc idx : Nat} {L : mLs} {rest : List Value} {a1 a2 : Value} {hp hp1 : mHp} {out : mOut}  {y : MethodName}  (hd : decode M.2.1 pc = .ok (.invokestatic idx, 3)) (hl : Cond.methodLink M.1 idx y ∈ mGW) (hy : mMethS y M' 2) (hst : rest.length ≤ 4) (hc : mCall d y M' [a1, a2] hp (none) hp1) (k : mGo M (d + 1) (pc + 3, L, rest, hp1) out) : mGo M (d + 1) (pc, L, a2 :: a1 :: rest, hp) out := g_callS (b := 0) (ci := 0) (host := "") (As := [a1, a2])  hd hl hy rfl hst hc k
theorem g_SN2v {M M' : mM} {d pc idx : Nat} {L : mLs} {rest : List Value} {a1 a2 : Value} {hp hp1 : mHp} {out : mOut}  {y : MethodName} {host : String} (hd : decode M.2.1 pc = .ok (.invokestatic idx, 3)) (hl : Cond.methodLinkNest M.1 idx y host ∈ mNW) (hy : mMethS y M' 2) (hst : rest.length ≤ 4) (hc : mCall d y M' [a1, a2] hp (none) hp1) (k : mGo M (d + 1) (pc + 3, L, rest, hp1) out) : mGo M (d + 1) (pc, L, a2 :: a1 :: rest, hp) out := g_callSN (b := 0) (ci := 0) (host := host) (As := [a1, a2])  hd hl hy rfl hst hc k
theorem g_V2l {M M' : mM} {d pc b idx ci : Nat} {L : mLs} {rest : List Value} {a1 a2 : Value} {hp hp1 : mHp} {out : mOut} {v : Int64} {y : MethodName}  (hd : decode M.2.1 pc = .ok (.invokevirtual idx, 3)) (hl : Cond.methodLink M.1 idx y ∈ mGW) (hy : mMethV y M' ci 2) (hsh : hp.1[b]? = some (.inl ci)) (h4 : 4 ≤ b) (hst : rest.length ≤ 4) (hc : mCall d y M' [.ref b, a1, a2] hp (some (.long v)) hp1) (k : mGo M (d + 1) (pc + 3, L, .long v :: rest, hp1) out) : mGo M (d + 1) (pc, L, a2 :: a1 :: .ref b :: rest, hp) out := g_callV (host := "") (As := [a1, a2])  hd hl hy hsh h4 rfl hst hc k
theorem g_S2l {M M' : mM} {d pc idx : Nat} {L : mLs} {rest : List Value} {a1 a2 : Value} {hp hp1 : mHp} {out : mOut} {v : Int64} {y : MethodName}  (hd : decode M.2.1 pc = .ok (.invokestatic idx, 3)) (hl : Cond.methodLink M.1 idx y ∈ mGW) (hy : mMethS y M' 2) (hst : rest.length ≤ 4) (hc : mCall d y M' [a1, a2] hp (some (.long v)) hp1) (k : mGo M (d + 1) (pc + 3, L, .long v :: rest, hp1) out) : mGo M (d + 1) (pc, L, a2 :: a1 :: rest, hp) out := g_callS (b := 0) (ci := 0) (host := "") (As := [a1, a2])  hd hl hy rfl hst hc k
theorem g_SN2l {M M' : mM} {d pc idx : Nat} {L : mLs} {rest : List Value} {a1 a2 : Value} {hp hp1 : mHp} {out : mOut} {v : Int64} {y : MethodName} {host : String} (hd : decode M.2.1 pc = .ok (.invokestatic idx, 3)) (hl : Cond.methodLinkNest M.1 idx y host ∈ mNW) (hy : mMethS y M' 2) (hst : rest.length ≤ 4) (hc : mCall d y M' [a1, a2] hp (some (.long v)) hp1) (k : mGo M (d + 1) (pc + 3, L, .long v :: rest, hp1) out) : mGo M (d + 1) (pc, L, a2 :: a1 :: rest, hp) out := g_callSN (b := 0) (ci := 0) (host := host) (As := [a1, a2])  hd hl hy rfl hst hc k
theorem g_V3i {M M' : mM} {d pc b idx ci : Nat} {L : mLs} {rest : List Value} {a1 a2 a3 : Value} {hp hp1 : mHp} {out : mOut} {v : Int32} {y : MethodName}  (hd : decode M.2.1 pc = .ok (.invokevirtual idx, 3)) (hl : Cond.methodLink M.1 idx y ∈ mGW) (hy : mMethV y M' ci 3) (hsh : hp.1[b]? = some (.inl ci)) (h4 : 4 ≤ b) (hst : rest.length ≤ 4) (hc : mCall d y M' [.ref b, a1, a2, a3] hp (some (.int v)) hp1) (k : mGo M (d + 1) (pc + 3, L, .int v :: rest, hp1) out) : mGo M (d + 1) (pc, L, a3 :: a2 :: a1 :: .ref b :: rest, hp) out := g_callV (host := "") (As := [a1, a2, a3])  hd hl hy hsh h4 rfl hst hc k
theorem g_S3i {M M' : mM} {d pc idx : Nat} {L : mLs} {rest : List Value} {a1 a2 a3 : Value} {hp hp1 : mHp} {out : mOut} {v : Int32} {y : MethodName}  (hd : decode M.2.1 pc = .ok (.invokestatic idx, 3)) (hl : Cond.methodLink M.1 idx y ∈ mGW) (hy : mMethS y M' 3) (hst : rest.length ≤ 4) (hc : mCall d y M' [a1, a2, a3] hp (some (.int v)) hp1) (k : mGo M (d + 1) (pc + 3, L, .int v :: rest, hp1) out) : mGo M (d + 1) (pc, L, a3 :: a2 :: a1 :: rest, hp) out := g_callS (b := 0) (ci := 0) (host := "") (As := [a1, a2, a3])  hd hl hy rfl hst hc k
theorem g_SN3i {M M' : mM} {d pc idx : Nat} {L : mLs} {rest : List Value} {a1 a2 a3 : Value} {hp hp1 : mHp} {out : mOut} {v : Int32} {y : MethodName} {host : String} (hd : decode M.2.1 pc = .ok (.invokestatic idx, 3)) (hl : Cond.methodLinkNest M.1 idx y host ∈ mNW) (hy : mMethS y M' 3) (hst : rest.length ≤ 4) (hc : mCall d y M' [a1, a2, a3] hp (some (.int v)) hp1) (k : mGo M (d + 1) (pc + 3, L, .int v :: rest, hp1) out) : mGo M (d + 1) (pc, L, a3 :: a2 :: a1 :: rest, hp) out := g_callSN (b := 0) (ci := 0) (host := host) (As := [a1, a2, a3])  hd hl hy rfl hst hc k
theorem g_V3v {M M' : mM} {d pc b idx ci : Nat} {L : mLs} {rest : List Value} {a1 a2 a3 : Value} {hp hp1 : mHp} {out : mOut}  {y : MethodName}  (hd : decode M.2.1 pc = .ok (.invokevirtual idx, 3)) (hl : Cond.methodLink M.1 idx y ∈ mGW) (hy : mMethV y M' ci 3) (hsh : hp.1[b]? = some (.inl ci)) (h4 : 4 ≤ b) (hst : rest.length ≤ 4) (hc : mCall d y M' [.ref b, a1, a2, a3] hp (none) hp1) (k : mGo M (d + 1) (pc + 3, L, rest, hp1) out) : mGo M (d + 1) (pc, L, a3 :: a2 :: a1 :: .ref b :: rest, hp) out := g_callV (host := "") (As := [a1, a2, a3])  hd hl hy hsh h4 rfl hst hc k
theorem g_S3v {M M' : mM} {d pc idx : Nat} {L : mLs} {rest : List Value} {a1 a2 a3 : Value} {hp hp1 : mHp} {out : mOut}  {y : MethodName}  (hd : decode M.2.1 pc = .ok (.invokestatic idx, 3)) (hl : Cond.methodLink M.1 idx y ∈ mGW) (hy : mMethS y M' 3) (hst : rest.length ≤ 4) (hc : mCall d y M' [a1, a2, a3] hp (none) hp1) (k : mGo M (d + 1) (pc + 3, L, rest, hp1) out) : mGo M (d + 1) (pc, L, a3 :: a2 :: a1 :: rest, hp) out := g_callS (b := 0) (ci := 0) (host := "") (As := [a1, a2, a3])  hd hl hy rfl hst hc k
theorem g_SN3v {M M' : mM} {d pc idx : Nat} {L : mLs} {rest : List Value} {a1 a2 a3 : Value} {hp hp1 : mHp} {out : mOut}  {y : MethodName} {host : String} (hd : decode M.2.1 pc = .ok (.invokestatic idx, 3)) (hl : Cond.methodLinkNest M.1 idx y host ∈ mNW) (hy : mMethS y M' 3) (hst : rest.length ≤ 4) (hc : mCall d y M' [a1, a2, a3] hp (none) hp1) (k : mGo M (d + 1) (pc + 3, L, rest, hp1) out) : mGo M (d + 1) (pc, L, a3 :: a2 :: a1 :: rest, hp) out := g_callSN (b := 0) (ci := 0) (host := host) (As := [a1, a2, a3])  hd hl hy rfl hst hc k
theorem g_V3l {M M' : mM} {d pc b idx ci : Nat} {L : mLs} {rest : List Value} {a1 a2 a3 : Value} {hp hp1 : mHp} {out : mOut} {v : Int64} {y : MethodName}  (hd : decode M.2.1 pc = .ok (.invokevirtual idx, 3)) (hl : Cond.methodLink M.1 idx y ∈ mGW) (hy : mMethV y M' ci 3) (hsh : hp.1[b]? = some (.inl ci)) (h4 : 4 ≤ b) (hst : rest.length ≤ 4) (hc : mCall d y M' [.ref b, a1, a2, a3] hp (some (.long v)) hp1) (k : mGo M (d + 1) (pc + 3, L, .long v :: rest, hp1) out) : mGo M (d + 1) (pc, L, a3 :: a2 :: a1 :: .ref b :: rest, hp) out := g_callV (host := "") (As := [a1, a2, a3])  hd hl hy hsh h4 rfl hst hc k
theorem g_S3l {M M' : mM} {d pc idx : Nat} {L : mLs} {rest : List Value} {a1 a2 a3 : Value} {hp hp1 : mHp} {out : mOut} {v : Int64} {y : MethodName}  (hd : decode M.2.1 pc = .ok (.invokestatic idx, 3)) (hl : Cond.methodLink M.1 idx y ∈ mGW) (hy : mMethS y M' 3) (hst : rest.length ≤ 4) (hc : mCall d y M' [a1, a2, a3] hp (some (.long v)) hp1) (k : mGo M (d + 1) (pc + 3, L, .long v :: rest, hp1) out) : mGo M (d + 1) (pc, L, a3 :: a2 :: a1 :: rest, hp) out := g_callS (b := 0) (ci := 0) (host := "") (As := [a1, a2, a3])  hd hl hy rfl hst hc k
theorem g_SN3l {M M' : mM} {d pc idx : Nat} {L : mLs} {rest : List Value} {a1 a2 a3 : Value} {hp hp1 : mHp} {out : mOut} {v : Int64} {y : MethodName} {host : String} (hd : decode M.2.1 pc = .ok (.invokestatic idx, 3)) (hl : Cond.methodLinkNest M.1 idx y host ∈ mNW) (hy : mMethS y M' 3) (hst : rest.length ≤ 4) (hc : mCall d y M' [a1, a2, a3] hp (some (.long v)) hp1) (k : mGo M (d + 1) (pc + 3, L, .long v :: rest, hp1) out) : mGo M (d + 1) (pc, L, a3 :: a2 :: a1 :: rest, hp) out := g_callSN (b := 0) (ci := 0) (host := host) (As := [a1, a2, a3])  hd hl hy rfl hst hc k
theorem g_V4i {M M' : mM} {d pc b idx ci : Nat} {L : mLs} {rest : List Value} {a1 a2 a3 a4 : Value} {hp hp1 : mHp} {out : mOut} {v : Int32} {y : MethodName}  (hd : decode M.2.1 pc = .ok (.invokevirtual idx, 3)) (hl : Cond.methodLink M.1 idx y ∈ mGW) (hy : mMethV y M' ci 4) (hsh : hp.1[b]? = some (.inl ci)) (h4 : 4 ≤ b) (hst : rest.length ≤ 4) (hc : mCall d y M' [.ref b, a1, a2, a3, a4] hp (some (.int v)) hp1) (k : mGo M (d + 1) (pc + 3, L, .int v :: rest, hp1) out) : mGo M (d + 1) (pc, L, a4 :: a3 :: a2 :: a1 :: .ref b :: rest, hp) out := g_callV (host := "") (As := [a1, a2, a3, a4])  hd hl hy hsh h4 rfl hst hc k
theorem g_V4v {M M' : mM} {d pc b idx ci : Nat} {L : mLs} {rest : List Value} {a1 a2 a3 a4 : Value} {hp hp1 : mHp} {out : mOut}  {y : MethodName}  (hd : decode M.2.1 pc = .ok (.invokevirtual idx, 3)) (hl : Cond.methodLink M.1 idx y ∈ mGW) (hy : mMethV y M' ci 4) (hsh : hp.1[b]? = some (.inl ci)) (h4 : 4 ≤ b) (hst : rest.length ≤ 4) (hc : mCall d y M' [.ref b, a1, a2, a3, a4] hp (none) hp1) (k : mGo M (d + 1) (pc + 3, L, rest, hp1) out) : mGo M (d + 1) (pc, L, a4 :: a3 :: a2 :: a1 :: .ref b :: rest, hp) out := g_callV (host := "") (As := [a1, a2, a3, a4])  hd hl hy hsh h4 rfl hst hc k
theorem g_V4l {M M' : mM} {d pc b idx ci : Nat} {L : mLs} {rest : List Value} {a1 a2 a3 a4 : Value} {hp hp1 : mHp} {out : mOut} {v : Int64} {y : MethodName}  (hd : decode M.2.1 pc = .ok (.invokevirtual idx, 3)) (hl : Cond.methodLink M.1 idx y ∈ mGW) (hy : mMethV y M' ci 4) (hsh : hp.1[b]? = some (.inl ci)) (h4 : 4 ≤ b) (hst : rest.length ≤ 4) (hc : mCall d y M' [.ref b, a1, a2, a3, a4] hp (some (.long v)) hp1) (k : mGo M (d + 1) (pc + 3, L, .long v :: rest, hp1) out) : mGo M (d + 1) (pc, L, a4 :: a3 :: a2 :: a1 :: .ref b :: rest, hp) out := g_callV (host := "") (As := [a1, a2, a3, a4])  hd hl hy hsh h4 rfl hst hc k
theorem g_V5i {M M' : mM} {d pc b idx ci : Nat} {L : mLs} {rest : List Value} {a1 a2 a3 a4 a5 : Value} {hp hp1 : mHp} {out : mOut} {v : Int32} {y : MethodName}  (hd : decode M.2.1 pc = .ok (.invokevirtual idx, 3)) (hl : Cond.methodLink M.1 idx y ∈ mGW) (hy : mMethV y M' ci 5) (hsh : hp.1[b]? = some (.inl ci)) (h4 : 4 ≤ b) (hst : rest.length ≤ 4) (hc : mCall d y M' [.ref b, a1, a2, a3, a4, a5] hp (some (.int v)) hp1) (k : mGo M (d + 1) (pc + 3, L, .int v :: rest, hp1) out) : mGo M (d + 1) (pc, L, a5 :: a4 :: a3 :: a2 :: a1 :: .ref b :: rest, hp) out := g_callV (host := "") (As := [a1, a2, a3, a4, a5])  hd hl hy hsh h4 rfl hst hc k
theorem g_V5v {M M' : mM} {d pc b idx ci : Nat} {L : mLs} {rest : List Value} {a1 a2 a3 a4 a5 : Value} {hp hp1 : mHp} {out : mOut}  {y : MethodName}  (hd : decode M.2.1 pc = .ok (.invokevirtual idx, 3)) (hl : Cond.methodLink M.1 idx y ∈ mGW) (hy : mMethV y M' ci 5) (hsh : hp.1[b]? = some (.inl ci)) (h4 : 4 ≤ b) (hst : rest.length ≤ 4) (hc : mCall d y M' [.ref b, a1, a2, a3, a4, a5] hp (none) hp1) (k : mGo M (d + 1) (pc + 3, L, rest, hp1) out) : mGo M (d + 1) (pc, L, a5 :: a4 :: a3 :: a2 :: a1 :: .ref b :: rest, hp) out := g_callV (host := "") (As := [a1, a2, a3, a4, a5])  hd hl hy hsh h4 rfl hst hc k
theorem g_V5l {M M' : mM} {d pc b idx ci : Nat} {L : mLs} {rest : List Value} {a1 a2 a3 a4 a5 : Value} {hp hp1 : mHp} {out : mOut} {v : Int64} {y : MethodName}  (hd : decode M.2.1 pc = .ok (.invokevirtual idx, 3)) (hl : Cond.methodLink M.1 idx y ∈ mGW) (hy : mMethV y M' ci 5) (hsh : hp.1[b]? = some (.inl ci)) (h4 : 4 ≤ b) (hst : rest.length ≤ 4) (hc : mCall d y M' [.ref b, a1, a2, a3, a4, a5] hp (some (.long v)) hp1) (k : mGo M (d + 1) (pc + 3, L, .long v :: rest, hp1) out) : mGo M (d + 1) (pc, L, a5 :: a4 :: a3 :: a2 :: a1 :: .ref b :: rest, hp) out := g_callV (host := "") (As := [a1, a2, a3, a4, a5])  hd hl hy hsh h4 rfl hst hc k
theorem g_I0 {M : mM} {o2 : String} {c2 : ByteArray} {n2 : Nat} {d pc b idx : Nat} {L : mLs} {rest : List Value}  {hp hp1 : mHp} {out : mOut}  {y : MethodName}  (hd : decode M.2.1 pc = .ok (.invokespecial idx, 3)) (hl : Cond.methodLink M.1 idx y ∈ mGW) (hy : mMethI y (o2, c2, n2, (none : Option FieldType), true) 0) (hst : rest.length ≤ 4) (hc : mCall d y (o2, c2, n2, (none : Option FieldType), true) [.ref b] hp (none) hp1) (k : mGo M (d + 1) (pc + 3, L, rest, hp1) out) : mGo M (d + 1) (pc, L, .ref b :: rest, hp) out := g_callI (ci := 0) (host := "") (As := [])  hd hl hy rfl hst hc k
theorem g_IN0 {M : mM} {o2 : String} {c2 : ByteArray} {n2 : Nat} {d pc b idx : Nat} {L : mLs} {rest : List Value}  {hp hp1 : mHp} {out : mOut}  {y : MethodName} {host : String} (hd : decode M.2.1 pc = .ok (.invokespecial idx, 3)) (hl : Cond.methodLinkNest M.1 idx y host ∈ mNW) (hy : mMethI y (o2, c2, n2, (none : Option FieldType), true) 0) (hst : rest.length ≤ 4) (hc : mCall d y (o2, c2, n2, (none : Option FieldType), true) [.ref b] hp (none) hp1) (k : mGo M (d + 1) (pc + 3, L, rest, hp1) out) : mGo M (d + 1) (pc, L, .ref b :: rest, hp) out := g_callIN (ci := 0) (host := host) (As := [])  hd hl hy rfl hst hc k

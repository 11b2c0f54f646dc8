theorem mj_backz {V : mj_V} {mi pc : Nat} {loc : mj_L} {h : mj_H} {M : mj_M} {x : Int32} (hM : mj_ms[mi]? = some M) (hd : decode M.2.2.1 pc = .ok (.ireturn, 1)) (hr : M.2.2.2.2.1 = some .boolean) : mj_ev V mi pc loc [.int x] h = if x = 0 ∨ x = 1 then some (some (.int x), h) else none := by
  have e : mj_act V M pc .ireturn 1 loc [.int x] h = if x = 0 ∨ x = 1 then some (.inr (.inr (some (.int x)))) else none := by
    simp only [mj_act, mj_ac1, mj_ac2, if_true, hr, mj_ret]
    split <;> rfl
  split
  · rename_i hx; rw [if_pos hx] at e; exact mj_back hM hd e
  · rename_i hx; rw [if_neg hx] at e; exact mj_fall hM hd e
theorem mj_nx4 {V : mj_V} {mi pc : Nat} {loc : mj_L} {st : List Value} {h : mj_H} {M : mj_M} {i : Instr} {len : Nat} {pc2 : Nat} {loc2 : mj_L} {st2 : List Value} {h2 : mj_H} (hM : mj_ms[mi]? = some M) (hd : decode M.2.2.1 pc = .ok (i, len)) (ha : mj_act V M pc i len loc st h = some (.inl (pc2, loc2, st2, h2))) : mj_ev V mi pc loc st h = mj_ev V mi pc2 loc2 st2 h2 := mj_next hM hd ha
theorem m0 : mj_ms[0]? = some (0, yX0_init, cX0_init, 4, none, [], 2, 43) := rfl
theorem m1 : mj_ms[1]? = some (0, yX0_ownMark, cX0_ownMark, 1, some .int, [], 0, 0) := rfl
theorem m2 : mj_ms[2]? = some (1, yX1_init, cX1_init, 4, none, [], 3, 70) := rfl
theorem m3 : mj_ms[3]? = some (1, yX1_ownMark, cX1_ownMark, 3, some .int, [], 1, 21) := rfl
theorem m4 : mj_ms[4]? = some (2, yX2_init, cX2_init, 8, none, [], 2, 43) := rfl
theorem m5 : mj_ms[5]? = some (2, yX2_canBe, cX2_canBe, 5, some .boolean, [], 0, 0) := rfl
theorem m6 : mj_ms[6]? = some (2, yX2_sumFor, cX2_sumFor, 2, some .int, [], 0, 0) := rfl
theorem m7 : mj_ms[7]? = some (2, yX2_lendsOut, cX2_lendsOut, 2, some .boolean, [], 0, 0) := rfl
theorem m8 : mj_ms[8]? = some (2, yX2_ownMark, cX2_ownMark, 1, some .int, [], 0, 0) := rfl
theorem m9 : mj_ms[9]? = some (3, yX3_init, cX3_init, 1, none, [], 2, 40) := rfl
theorem m10 : mj_ms[10]? = some (3, yX3_begin, cX3_begin, 4, none, [], 3, 67) := rfl
theorem m11 : mj_ms[11]? = some (4, yX4_init, cX4_init, 4, none, [], 1, 20) := rfl
theorem m12 : mj_ms[12]? = some (4, yX4_ownMark, cX4_ownMark, 1, some .int, [], 0, 0) := rfl
theorem m13 : mj_ms[13]? = some (5, yX5_init, cX5_init, 1, none, [], 1, 20) := rfl
theorem m14 : mj_ms[14]? = some (5, yX5_read, cX5_read, 3, none, [], 2, 45) := rfl
theorem m15 : mj_ms[15]? = some (5, yX5_asks, cX5_asks, 2, some .boolean, [], 0, 0) := rfl
theorem m16 : mj_ms[16]? = some (5, yX5_does, cX5_does, 2, some .boolean, [], 0, 0) := rfl
theorem m17 : mj_ms[17]? = some (5, yX5_skipBlanks, cX5_skipBlanks, 3, some .int, [], 0, 0) := rfl
theorem m18 : mj_ms[18]? = some (5, yX5_readSteps, cX5_readSteps, 5, some .int, [], 1, 21) := rfl
theorem m19 : mj_ms[19]? = some (5, yX5_readHabits, cX5_readHabits, 5, some .int, [], 1, 21) := rfl
theorem m20 : mj_ms[20]? = some (5, yX5_roleOfLetter, cX5_roleOfLetter, 1, some .int, [], 0, 0) := rfl
theorem m21 : mj_ms[21]? = some (5, yX5_habitOfLetter, cX5_habitOfLetter, 1, some .int, [], 0, 0) := rfl
theorem m22 : mj_ms[22]? = some (6, yX6_init, cX6_init, 5, none, [], 2, 43) := rfl
theorem m23 : mj_ms[23]? = some (6, yX6_canBe, cX6_canBe, 4, some .boolean, [], 1, 20) := rfl
theorem m24 : mj_ms[24]? = some (6, yX6_isMade, cX6_isMade, 3, some .boolean, [], 1, 20) := rfl
theorem m25 : mj_ms[25]? = some (6, yX6_takes, cX6_takes, 2, some .boolean, [], 2, 42) := rfl
theorem m26 : mj_ms[26]? = some (6, yX6_ownMark, cX6_ownMark, 3, some .int, [], 0, 0) := rfl
theorem m27 : mj_ms[27]? = some (7, yX7_init, cX7_init, 1, none, [], 1, 20) := rfl
theorem m28 : mj_ms[28]? = some (7, yX7_isThere, cX7_isThere, 1, some .boolean, [], 0, 0) := rfl
theorem m29 : mj_ms[29]? = some (7, yX7_has, cX7_has, 2, some .boolean, [], 0, 0) := rfl
theorem m30 : mj_ms[30]? = some (7, yX7_hasRun, cX7_hasRun, 3, some .boolean, [], 0, 0) := rfl
theorem m31 : mj_ms[31]? = some (7, yX7_begin, cX7_begin, 3, none, [], 1, 21) := rfl
theorem m32 : mj_ms[32]? = some (7, yX7_allWithin, cX7_allWithin, 4, some .boolean, [], 0, 0) := rfl
theorem m33 : mj_ms[33]? = some (8, yX8_init, cX8_init, 1, none, [], 1, 20) := rfl
theorem m34 : mj_ms[34]? = some (8, yX8_isThere, cX8_isThere, 1, some .boolean, [], 0, 0) := rfl
theorem m35 : mj_ms[35]? = some (8, yX8_has, cX8_has, 2, some .boolean, [], 0, 0) := rfl
theorem m36 : mj_ms[36]? = some (8, yX8_begin, cX8_begin, 3, none, [], 1, 21) := rfl
theorem m37 : mj_ms[37]? = some (9, yX9_init, cX9_init, 5, none, [], 2, 43) := rfl
theorem m38 : mj_ms[38]? = some (9, yX9_ownMark, cX9_ownMark, 1, some .int, [], 0, 0) := rfl
theorem m39 : mj_ms[39]? = some (10, yX10_init, cX10_init, 2, none, [], 3, 60) := rfl
theorem m40 : mj_ms[40]? = some (10, yX10_row, cX10_row, 3, some .int, [], 2, 43) := rfl
theorem m41 : mj_ms[41]? = some (10, yX10_lay, cX10_lay, 6, some .int, [], 2, 43) := rfl
theorem m42 : mj_ms[42]? = some (10, yX10_at, cX10_at, 4, some .int, [], 2, 43) := rfl
theorem m43 : mj_ms[43]? = some (10, yX10_tear, cX10_tear, 2, some .int, [], 1, 21) := rfl
theorem m44 : mj_ms[44]? = some (10, yX10_copy, cX10_copy, 8, some .int, [], 1, 26) := rfl
theorem m45 : mj_ms[45]? = some (10, yX10_mean, cX10_mean, 6, some .int, [3], 1, 21) := rfl
theorem m46 : mj_ms[46]? = some (10, yX10_text, cX10_text, 3, some .int, [], 2, 43) := rfl
theorem m47 : mj_ms[47]? = some (10, yX10_put, cX10_put, 6, some .int, [], 1, 21) := rfl
theorem m48 : mj_ms[48]? = some (10, yX10_later, cX10_later, 2, some .int, [], 0, 0) := rfl
theorem m49 : mj_ms[49]? = some (10, yX10_note, cX10_note, 3, some .int, [], 2, 43) := rfl
theorem m50 : mj_ms[50]? = some (10, yX10_root, cX10_root, 5, some .int, [], 3, 67) := rfl
theorem m51 : mj_ms[51]? = some (10, yX10_list, cX10_list, 7, some .int, [], 4, 93) := rfl
theorem m52 : mj_ms[52]? = some (10, yX10_together, cX10_together, 5, some .int, [], 3, 67) := rfl
theorem m53 : mj_ms[53]? = some (10, yX10_hour, cX10_hour, 4, some .int, [], 3, 66) := rfl
theorem m54 : mj_ms[54]? = some (10, yX10_sign, cX10_sign, 4, some .int, [], 2, 42) := rfl
theorem m55 : mj_ms[55]? = some (10, yX10_told, cX10_told, 4, some .int, [], 2, 42) := rfl
theorem m56 : mj_ms[56]? = some (10, yX10_mark, cX10_mark, 5, some .int, [], 2, 43) := rfl
theorem m57 : mj_ms[57]? = some (10, yX10_good, cX10_good, 5, some .int, [], 3, 65) := rfl
theorem m58 : mj_ms[58]? = some (10, yX10_sumOf, cX10_sumOf, 4, some .int, [], 3, 65) := rfl
theorem m59 : mj_ms[59]? = some (10, yX10_chain, cX10_chain, 5, some .int, [], 4, 89) := rfl
theorem m60 : mj_ms[60]? = some (10, yX10_fault, cX10_fault, 2, some .int, [], 3, 67) := rfl
theorem m61 : mj_ms[61]? = some (10, yX10_machine, cX10_machine, 5, some .int, [], 4, 90) := rfl
theorem m62 : mj_ms[62]? = some (10, yX10_ask, cX10_ask, 7, some .int, [], 5, 122) := rfl
theorem m63 : mj_ms[63]? = some (10, yX10_offer, cX10_offer, 6, some .int, [], 4, 89) := rfl
theorem m64 : mj_ms[64]? = some (10, yX10_runs, cX10_runs, 3, some .int, [], 1, 21) := rfl
theorem m65 : mj_ms[65]? = some (10, yX10_took, cX10_took, 3, some .int, [], 1, 21) := rfl
theorem m66 : mj_ms[66]? = some (10, yX10_walk, cX10_walk, 5, some .int, [], 4, 89) := rfl
theorem m67 : mj_ms[67]? = some (10, yX10_whoHas, cX10_whoHas, 3, some .int, [], 2, 42) := rfl
theorem m68 : mj_ms[68]? = some (10, yX10_reached, cX10_reached, 6, some .int, [], 5, 122) := rfl
theorem m69 : mj_ms[69]? = some (10, yX10_refused, cX10_refused, 3, some .int, [], 1, 21) := rfl
theorem m70 : mj_ms[70]? = some (10, yX10_noisy, cX10_noisy, 8, some .int, [], 1, 23) := rfl
theorem m71 : mj_ms[71]? = some (10, yX10_harm, cX10_harm, 6, some .int, [], 4, 89) := rfl
theorem m72 : mj_ms[72]? = some (10, yX10_least, cX10_least, 11, some .int, [], 4, 89) := rfl
theorem m73 : mj_ms[73]? = some (10, yX10_share, cX10_share, 10, some .int, [], 4, 89) := rfl
theorem m74 : mj_ms[74]? = some (10, yX10_askings, cX10_askings, 7, some .int, [], 3, 82) := rfl
theorem m75 : mj_ms[75]? = some (10, yX10_writes, cX10_writes, 4, some .int, [], 2, 43) := rfl
theorem m76 : mj_ms[76]? = some (10, yX10_neither, cX10_neither, 5, some .int, [], 2, 43) := rfl
theorem m77 : mj_ms[77]? = some (10, yX10_asked, cX10_asked, 1, some .int, [], 0, 0) := rfl
theorem m78 : mj_ms[78]? = some (10, yX10_upper, cX10_upper, 1, some .long, [], 0, 0) := rfl
theorem m79 : mj_ms[79]? = some (10, yX10_lower, cX10_lower, 1, some .long, [], 0, 0) := rfl
theorem m80 : mj_ms[80]? = some (10, yX10_count, cX10_count, 2, some .int, [], 4, 87) := rfl
theorem m81 : mj_ms[81]? = some (10, yX10_finding, cX10_finding, 1, some .int, [], 0, 0) := rfl
theorem m82 : mj_ms[82]? = some (10, yX10_findings, cX10_findings, 2, some .int, [], 0, 0) := rfl
theorem m83 : mj_ms[83]? = some (10, yX10_digest, cX10_digest, 4, some .long, [1], 5, 108) := rfl
theorem m84 : mj_ms[84]? = some (10, yX10_isRow, cX10_isRow, 1, some .boolean, [], 0, 0) := rfl
theorem m85 : mj_ms[85]? = some (10, yX10_isText, cX10_isText, 1, some .boolean, [], 0, 0) := rfl
theorem m86 : mj_ms[86]? = some (10, yX10_isMachine, cX10_isMachine, 1, some .boolean, [], 0, 0) := rfl
theorem m87 : mj_ms[87]? = some (10, yX10_isFile, cX10_isFile, 1, some .boolean, [], 0, 0) := rfl
theorem m88 : mj_ms[88]? = some (10, yX10_isSet, cX10_isSet, 1, some .boolean, [], 0, 0) := rfl
theorem m89 : mj_ms[89]? = some (10, yX10_isWhy, cX10_isWhy, 1, some .boolean, [], 0, 0) := rfl
theorem m90 : mj_ms[90]? = some (10, yX10_isHarm, cX10_isHarm, 1, some .boolean, [], 0, 0) := rfl
theorem m91 : mj_ms[91]? = some (10, yX10_isWrites, cX10_isWrites, 1, some .boolean, [], 0, 0) := rfl
theorem m92 : mj_ms[92]? = some (10, yX10_isHead, cX10_isHead, 2, some .boolean, [], 0, 0) := rfl
theorem m93 : mj_ms[93]? = some (10, yX10_isPage, cX10_isPage, 2, some .boolean, [], 0, 0) := rfl
theorem m94 : mj_ms[94]? = some (10, yX10_found, cX10_found, 2, some .int, [], 0, 0) := rfl
theorem m95 : mj_ms[95]? = some (10, yX10_placeRefusal, cX10_placeRefusal, 3, some .int, [], 1, 21) := rfl
theorem m96 : mj_ms[96]? = some (10, yX10_copiesRefusal, cX10_copiesRefusal, 4, some .int, [], 1, 21) := rfl
theorem m97 : mj_ms[97]? = some (10, yX10_planRefusal, cX10_planRefusal, 3, some .int, [], 3, 67) := rfl
theorem m98 : mj_ms[98]? = some (10, yX10_keep, cX10_keep, 2, some .int, [], 0, 0) := rfl
theorem m99 : mj_ms[99]? = some (10, yX10_pageOf, cX10_pageOf, 2, some (.object "SignedPages$Page"), [], 1, 21) := rfl
theorem m100 : mj_ms[100]? = some (10, yX10_rootOf, cX10_rootOf, 4, some (.object "SignedPages$Root"), [], 2, 42) := rfl
theorem m101 : mj_ms[101]? = some (10, yX10_listingOf, cX10_listingOf, 4, some (.object "SignedPages$Listing"), [], 2, 42) := rfl
theorem m102 : mj_ms[102]? = some (10, yX10_kindOf, cX10_kindOf, 3, some .int, [], 2, 42) := rfl
theorem m103 : mj_ms[103]? = some (10, yX10_factOf, cX10_factOf, 2, some .int, [], 0, 0) := rfl
theorem m104 : mj_ms[104]? = some (10, yX10_nextRoot, cX10_nextRoot, 5, some .int, [], 3, 65) := rfl
theorem m105 : mj_ms[105]? = some (10, yX10_give, cX10_give, 4, none, [], 2, 42) := rfl
theorem m106 : mj_ms[106]? = some (10, yX10_goThrough, cX10_goThrough, 8, some .int, [], 4, 95) := rfl
theorem m107 : mj_ms[107]? = some (10, yX10_whyNoRoot, cX10_whyNoRoot, 8, some .int, [], 3, 65) := rfl
theorem m108 : mj_ms[108]? = some (10, yX10_whyNoPage, cX10_whyNoPage, 8, some .int, [], 3, 68) := rfl
theorem m109 : mj_ms[109]? = some (10, yX10_isOver, cX10_isOver, 3, some .boolean, [], 1, 21) := rfl
theorem m110 : mj_ms[110]? = some (10, yX10_isNamed, cX10_isNamed, 7, some .boolean, [], 2, 42) := rfl
theorem m111 : mj_ms[111]? = some (10, yX10_whyNotRun, cX10_whyNotRun, 5, some .int, [], 3, 65) := rfl
theorem m112 : mj_ms[112]? = some (10, yX10_refusalPlace, cX10_refusalPlace, 2, some .int, [], 0, 0) := rfl
theorem m113 : mj_ms[113]? = some (10, yX10_countRefusal, cX10_countRefusal, 3, none, [], 1, 21) := rfl
theorem m114 : mj_ms[114]? = some (10, yX10_afterWrites, cX10_afterWrites, 3, some .int, [], 1, 21) := rfl
theorem m115 : mj_ms[115]? = some (10, yX10_doesHarm, cX10_doesHarm, 6, some .boolean, [], 3, 64) := rfl
theorem m116 : mj_ms[116]? = some (10, yX10_thiefNames, cX10_thiefNames, 3, some .boolean, [], 2, 42) := rfl
theorem m117 : mj_ms[117]? = some (10, yX10_tellFraction, cX10_tellFraction, 4, none, [], 1, 25) := rfl
theorem m118 : mj_ms[118]? = some (10, yX10_commonDivisor, cX10_commonDivisor, 6, some .int, [], 0, 0) := rfl
theorem m119 : mj_ms[119]? = some (10, yX10_madeAt, cX10_madeAt, 3, some .int, [], 0, 0) := rfl
theorem m120 : mj_ms[120]? = some (10, yX10_markMade, cX10_markMade, 7, none, [], 1, 22) := rfl
theorem m121 : mj_ms[121]? = some (10, yX10_fewMake, cX10_fewMake, 7, some .boolean, [], 1, 22) := rfl
theorem m122 : mj_ms[122]? = some (10, yX10_mostAsked, cX10_mostAsked, 3, some .int, [], 1, 21) := rfl
theorem m123 : mj_ms[123]? = some (10, yX10_cheapest, cX10_cheapest, 15, some .int, [], 2, 48) := rfl
theorem m124 : mj_ms[124]? = some (10, yX10_pagesOf, cX10_pagesOf, 4, some .int, [], 3, 64) := rfl
theorem m125 : mj_ms[125]? = some (10, yX10_begunMachines, cX10_begunMachines, 3, some .int, [], 0, 0) := rfl
theorem m126 : mj_ms[126]? = some (10, yX10_allRefusals, cX10_allRefusals, 3, some .int, [], 0, 0) := rfl
theorem m127 : mj_ms[127]? = some (10, yX10_rowsThere, cX10_rowsThere, 3, some .int, [], 1, 20) := rfl
theorem m128 : mj_ms[128]? = some (10, yX10_textsThere, cX10_textsThere, 3, some .int, [], 1, 20) := rfl
theorem m129 : mj_ms[129]? = some (10, yX10_digestPages, cX10_digestPages, 8, some .long, [1, 3], 2, 43) := rfl
theorem m130 : mj_ms[130]? = some (10, yX10_digestMachines, cX10_digestMachines, 8, some .long, [1, 3], 0, 0) := rfl
theorem m131 : mj_ms[131]? = some (10, yX10_digestRows, cX10_digestRows, 7, some .long, [1, 3], 0, 0) := rfl
theorem m132 : mj_ms[132]? = some (10, yX10_digestTexts, cX10_digestTexts, 7, some .long, [1, 3], 0, 0) := rfl
theorem m133 : mj_ms[133]? = some (11, yX11_init, cX11_init, 2, none, [], 1, 20) := rfl
theorem m134 : mj_ms[134]? = some (11, yX11_in, cX11_in, 6, some .boolean, [0, 2, 4], 0, 0) := rfl
theorem m135 : mj_ms[135]? = some (11, yX11_find, cX11_find, 2, some .int, [], 0, 0) := rfl
theorem m136 : mj_ms[136]? = some (11, yX11_tell, cX11_tell, 2, some .int, [], 0, 0) := rfl
theorem m137 : mj_ms[137]? = some (11, yX11_row, cX11_row, 4, some .int, [], 1, 25) := rfl
theorem m138 : mj_ms[138]? = some (11, yX11_lay, cX11_lay, 5, some .int, [], 1, 25) := rfl
theorem m139 : mj_ms[139]? = some (11, yX11_at, cX11_at, 3, some .int, [], 1, 25) := rfl
theorem m140 : mj_ms[140]? = some (11, yX11_tear, cX11_tear, 2, some .int, [], 1, 25) := rfl
theorem m141 : mj_ms[141]? = some (11, yX11_copy, cX11_copy, 8, some .int, [], 1, 25) := rfl
theorem m142 : mj_ms[142]? = some (11, yX11_mean, cX11_mean, 5, some .int, [2], 1, 25) := rfl
theorem m143 : mj_ms[143]? = some (11, yX11_text, cX11_text, 4, some .int, [], 1, 25) := rfl
theorem m144 : mj_ms[144]? = some (11, yX11_put, cX11_put, 5, some .int, [], 1, 25) := rfl
theorem m145 : mj_ms[145]? = some (11, yX11_later, cX11_later, 2, some .int, [], 0, 0) := rfl
theorem m146 : mj_ms[146]? = some (11, yX11_isMade, cX11_isMade, 2, some .boolean, [], 1, 25) := rfl
theorem m147 : mj_ms[147]? = some (11, yX11_page, cX11_page, 5, some .int, [], 0, 0) := rfl
theorem m148 : mj_ms[148]? = some (11, yX11_note, cX11_note, 3, some .int, [], 2, 46) := rfl
theorem m149 : mj_ms[149]? = some (11, yX11_bits, cX11_bits, 3, some .int, [], 0, 0) := rfl
theorem m150 : mj_ms[150]? = some (11, yX11_root, cX11_root, 6, some .int, [], 2, 46) := rfl
theorem m151 : mj_ms[151]? = some (11, yX11_list, cX11_list, 9, some .int, [], 2, 46) := rfl
theorem m152 : mj_ms[152]? = some (11, yX11_isPage, cX11_isPage, 2, some .boolean, [], 1, 25) := rfl
theorem m153 : mj_ms[153]? = some (11, yX11_isOf, cX11_isOf, 3, some .boolean, [], 0, 0) := rfl
theorem m154 : mj_ms[154]? = some (11, yX11_together, cX11_together, 6, some .int, [], 2, 46) := rfl
theorem m155 : mj_ms[155]? = some (11, yX11_hour, cX11_hour, 5, some .int, [], 2, 46) := rfl
theorem m156 : mj_ms[156]? = some (11, yX11_sign, cX11_sign, 3, some .int, [], 2, 46) := rfl
theorem m157 : mj_ms[157]? = some (11, yX11_toldOf, cX11_toldOf, 3, some .int, [], 0, 0) := rfl
theorem m158 : mj_ms[158]? = some (11, yX11_told, cX11_told, 3, some .int, [], 2, 46) := rfl
theorem m159 : mj_ms[159]? = some (11, yX11_marked, cX11_marked, 6, some .int, [], 0, 0) := rfl
theorem m160 : mj_ms[160]? = some (11, yX11_mark, cX11_mark, 3, some .int, [], 2, 46) := rfl
theorem m161 : mj_ms[161]? = some (11, yX11_roleOf, cX11_roleOf, 1, some .int, [], 0, 0) := rfl
theorem m162 : mj_ms[162]? = some (11, yX11_isGood, cX11_isGood, 4, some .boolean, [], 1, 22) := rfl
theorem m163 : mj_ms[163]? = some (11, yX11_good, cX11_good, 3, some .int, [], 2, 46) := rfl
theorem m164 : mj_ms[164]? = some (11, yX11_sumOf, cX11_sumOf, 3, some .int, [], 2, 46) := rfl
theorem m165 : mj_ms[165]? = some (11, yX11_nextRoot, cX11_nextRoot, 3, some .int, [], 2, 45) := rfl
theorem m166 : mj_ms[166]? = some (11, yX11_chain, cX11_chain, 5, some .int, [], 3, 67) := rfl
theorem m167 : mj_ms[167]? = some (11, yX11_capital, cX11_capital, 1, some .int, [], 0, 0) := rfl
theorem m168 : mj_ms[168]? = some (11, yX11_small, cX11_small, 1, some .int, [], 0, 0) := rfl
theorem m169 : mj_ms[169]? = some (11, yX11_faultOf, cX11_faultOf, 8, some .int, [], 1, 20) := rfl
theorem m170 : mj_ms[170]? = some (11, yX11_fault, cX11_fault, 2, some .int, [], 2, 47) := rfl
theorem m171 : mj_ms[171]? = some (11, yX11_machine, cX11_machine, 5, some .int, [], 2, 47) := rfl
theorem m172 : mj_ms[172]? = some (11, yX11_asks, cX11_asks, 5, some .boolean, [], 0, 0) := rfl
theorem m173 : mj_ms[173]? = some (11, yX11_kindFor, cX11_kindFor, 1, some .int, [], 0, 0) := rfl
theorem m174 : mj_ms[174]? = some (11, yX11_isOver, cX11_isOver, 3, some .boolean, [], 0, 0) := rfl
theorem m175 : mj_ms[175]? = some (11, yX11_whyRoot, cX11_whyRoot, 4, some .int, [], 2, 45) := rfl
theorem m176 : mj_ms[176]? = some (11, yX11_isNamed, cX11_isNamed, 6, some .boolean, [], 1, 24) := rfl
theorem m177 : mj_ms[177]? = some (11, yX11_why, cX11_why, 5, some .int, [], 3, 68) := rfl
theorem m178 : mj_ms[178]? = some (11, yX11_copiesOf, cX11_copiesOf, 3, some .int, [], 2, 46) := rfl
theorem m179 : mj_ms[179]? = some (11, yX11_go, cX11_go, 5, some .int, [], 4, 92) := rfl
theorem m180 : mj_ms[180]? = some (11, yX11_isMachine, cX11_isMachine, 2, some .boolean, [], 1, 25) := rfl
theorem m181 : mj_ms[181]? = some (11, yX11_ask, cX11_ask, 7, some .int, [], 5, 116) := rfl
theorem m182 : mj_ms[182]? = some (11, yX11_offer, cX11_offer, 5, some .int, [], 2, 46) := rfl
theorem m183 : mj_ms[183]? = some (11, yX11_runs, cX11_runs, 3, some .int, [], 2, 46) := rfl
theorem m184 : mj_ms[184]? = some (11, yX11_took, cX11_took, 3, some .int, [], 2, 46) := rfl
theorem m185 : mj_ms[185]? = some (11, yX11_walk, cX11_walk, 4, some .int, [], 3, 67) := rfl
theorem m186 : mj_ms[186]? = some (11, yX11_whoHas, cX11_whoHas, 2, some .int, [], 2, 46) := rfl
theorem m187 : mj_ms[187]? = some (11, yX11_reached, cX11_reached, 6, some .int, [], 5, 116) := rfl
theorem m188 : mj_ms[188]? = some (11, yX11_refused, cX11_refused, 3, some .int, [], 1, 25) := rfl
theorem m189 : mj_ms[189]? = some (11, yX11_noisy, cX11_noisy, 8, some .int, [], 2, 48) := rfl
theorem m190 : mj_ms[190]? = some (11, yX11_asksLetter, cX11_asksLetter, 4, some .boolean, [], 0, 0) := rfl
theorem m191 : mj_ms[191]? = some (11, yX11_isMadeBy, cX11_isMadeBy, 4, some .boolean, [], 1, 22) := rfl
theorem m192 : mj_ms[192]? = some (11, yX11_isHourFree, cX11_isHourFree, 3, some .boolean, [], 2, 45) := rfl
theorem m193 : mj_ms[193]? = some (11, yX11_isTogetherFree, cX11_isTogetherFree, 3, some .boolean, [], 3, 67) := rfl
theorem m194 : mj_ms[194]? = some (11, yX11_isDone, cX11_isDone, 6, some .boolean, [], 4, 89) := rfl
theorem m195 : mj_ms[195]? = some (11, yX11_may, cX11_may, 5, some .int, [], 2, 47) := rfl
theorem m196 : mj_ms[196]? = some (11, yX11_harm, cX11_harm, 6, some .int, [], 5, 114) := rfl
theorem m197 : mj_ms[197]? = some (11, yX11_least, cX11_least, 8, some .int, [], 5, 114) := rfl
theorem m198 : mj_ms[198]? = some (11, yX11_share, cX11_share, 11, some .int, [], 5, 114) := rfl
theorem m199 : mj_ms[199]? = some (11, yX11_isSafe, cX11_isSafe, 6, some .boolean, [], 1, 22) := rfl
theorem m200 : mj_ms[200]? = some (11, yX11_canSign, cX11_canSign, 5, some .boolean, [], 1, 22) := rfl
theorem m201 : mj_ms[201]? = some (11, yX11_askings, cX11_askings, 12, some .int, [], 2, 47) := rfl
theorem m202 : mj_ms[202]? = some (11, yX11_written, cX11_written, 4, some .int, [], 0, 0) := rfl
theorem m203 : mj_ms[203]? = some (11, yX11_writes, cX11_writes, 4, some .int, [], 2, 46) := rfl
theorem m204 : mj_ms[204]? = some (11, yX11_neither, cX11_neither, 5, some .int, [], 2, 46) := rfl
theorem m205 : mj_ms[205]? = some (11, yX11_asked, cX11_asked, 1, some .int, [], 0, 0) := rfl
theorem m206 : mj_ms[206]? = some (11, yX11_upper, cX11_upper, 1, some .long, [], 0, 0) := rfl
theorem m207 : mj_ms[207]? = some (11, yX11_lower, cX11_lower, 1, some .long, [], 0, 0) := rfl
theorem m208 : mj_ms[208]? = some (11, yX11_countOf, cX11_countOf, 4, some .int, [], 1, 22) := rfl
theorem m209 : mj_ms[209]? = some (11, yX11_count, cX11_count, 2, some .int, [], 2, 45) := rfl
theorem m210 : mj_ms[210]? = some (11, yX11_finding, cX11_finding, 1, some .int, [], 0, 0) := rfl
theorem m211 : mj_ms[211]? = some (11, yX11_findings, cX11_findings, 2, some .int, [], 1, 25) := rfl
theorem m212 : mj_ms[212]? = some (11, yX11_add, cX11_add, 3, none, [1], 0, 0) := rfl
theorem m213 : mj_ms[213]? = some (11, yX11_addMachine, cX11_addMachine, 3, none, [], 1, 22) := rfl
theorem m214 : mj_ms[214]? = some (11, yX11_digest, cX11_digest, 3, some .long, [], 3, 66) := rfl
theorem m215 : mj_ms[215]? = some (12, yJ6_bitCount_0f7a4, cJ6_bitCount_0f7a4, 1, some .int, [], 0, 0) := rfl
theorem m216 : mj_ms[216]? = some (13, yJ9_max_7cf53, cJ9_max_7cf53, 2, some .int, [], 0, 0) := rfl
theorem m217 : mj_ms[217]? = some (13, yJ9_min_7cf53, cJ9_min_7cf53, 2, some .int, [], 0, 0) := rfl
theorem m218 : mj_ms[218]? = some (15, yL_law, cL_law, 4, some .boolean, [], 6, 148) := rfl

set_option maxRecDepth 100000 in
theorem inX0 : ∀ w ∈ wsX00, w ∈ az_tb := az_tws [225, 227, 229] rfl (by decide +kernel)
theorem clX0 : az_cl 0 RX0 TX0 3 tyX0 := ⟨rfl, by decide, inX0, tyX0_ok, nmX0, by decide +kernel⟩
set_option maxRecDepth 100000 in
theorem inX1 : ∀ w ∈ wsX10, w ∈ az_tb := az_tws [192, 194, 196, 198] rfl (by decide +kernel)
theorem clX1 : az_cl 1 RX1 TX1 4 tyX1 := ⟨rfl, by decide, inX1, tyX1_ok, nmX1, by decide +kernel⟩
set_option maxRecDepth 100000 in
theorem inX2 : ∀ w ∈ wsX20, w ∈ az_tb := az_tws [134, 136, 138, 140, 142, 144, 146, 148, 150, 152, 154, 156, 158, 160] rfl (by decide +kernel)
theorem clX2 : az_cl 2 RX2 TX2 14 tyX2 := ⟨rfl, by decide, inX2, tyX2_ok, nmX2, by decide +kernel⟩
set_option maxRecDepth 100000 in
theorem inX3 : ∀ w ∈ wsX30, w ∈ az_tb := az_tws [175, 177] rfl (by decide +kernel)
theorem clX3 : az_cl 3 RX3 TX3 2 tyX3 := ⟨rfl, by decide, inX3, tyX3_ok, nmX3, by decide +kernel⟩
set_option maxRecDepth 100000 in
theorem inX4 : ∀ w ∈ wsX40, w ∈ az_tb := az_tws [270, 272, 274, 276] rfl (by decide +kernel)
theorem clX4 : az_cl 4 RX4 TX4 4 tyX4 := ⟨rfl, by decide, inX4, tyX4_ok, nmX4, by decide +kernel⟩
set_option maxRecDepth 100000 in
theorem inX5 : ∀ w ∈ wsX50, w ∈ az_tb := az_tws [244, 246, 248, 250, 252] rfl (by decide +kernel)
theorem clX5 : az_cl 5 RX5 TX5 5 tyX5 := ⟨rfl, by decide, inX5, tyX5_ok, nmX5, by decide +kernel⟩
set_option maxRecDepth 100000 in
theorem inX6 : ∀ w ∈ wsX60, w ∈ az_tb := az_tws [211, 213] rfl (by decide +kernel)
theorem clX6 : az_cl 6 RX6 TX6 2 tyX6 := ⟨rfl, by decide, inX6, tyX6_ok, nmX6, by decide +kernel⟩
set_option maxRecDepth 100000 in
theorem inX7 : ∀ w ∈ wsX70, w ∈ az_tb := az_tws [290, 292, 294, 296, 298, 300, 302, 304, 306, 308] rfl (by decide +kernel)
theorem clX7 : az_cl 7 RX7 TX7 10 tyX7 := ⟨rfl, by decide, inX7, tyX7_ok, nmX7, by decide +kernel⟩
set_option maxRecDepth 100000 in
theorem inX8 : ∀ w ∈ wsX80, w ∈ az_tb := az_tws [1043, 1045, 1047, 1049, 1051, 1053, 1055, 1057, 1059, 1061, 1063, 1065, 1067, 1069, 1071, 1073, 1075, 1077, 1079, 1081, 1083, 1085, 1087, 1089, 1091, 1093, 1095, 1097, 1099, 1101, 1103, 1105, 1107, 1109, 1111, 1113, 1115, 1117, 1119, 1121, 1123, 1125] rfl (by decide +kernel)
theorem clX8 : az_cl 8 RX8 TX8 42 tyX8 := ⟨rfl, by decide, inX8, tyX8_ok, nmX8, by decide +kernel⟩
abbrev mX7_init : az_Md := (yX7_init, cX7_init, 2, (Option.none : Option ClassFile.FieldType))
set_option maxRecDepth 100000 in
theorem knX7_init : az_kn mX7_init := ⟨az_tw 85 rfl rfl, by decide, ⟨by decide, by decide⟩, az_tw 64 rfl rfl, by decide⟩
set_option maxRecDepth 100000 in
theorem kiX7_init : az_ki mX7_init := ⟨knX7_init, az_tw 84 rfl rfl, rfl, rfl⟩
abbrev mX2_init : az_Md := (yX2_init, cX2_init, 1, (Option.none : Option ClassFile.FieldType))
set_option maxRecDepth 100000 in
theorem knX2_init : az_kn mX2_init := ⟨az_tw 93 rfl rfl, by decide, ⟨by decide, by decide⟩, az_tw 65 rfl rfl, by decide⟩
set_option maxRecDepth 100000 in
theorem kiX2_init : az_ki mX2_init := ⟨knX2_init, az_tw 92 rfl rfl, rfl, rfl⟩
abbrev mX3_init : az_Md := (yX3_init, cX3_init, 1, (Option.none : Option ClassFile.FieldType))
set_option maxRecDepth 100000 in
theorem knX3_init : az_kn mX3_init := ⟨az_tw 168 rfl rfl, by decide, ⟨by decide, by decide⟩, az_tw 66 rfl rfl, by decide⟩
set_option maxRecDepth 100000 in
theorem kiX3_init : az_ki mX3_init := ⟨knX3_init, az_tw 167 rfl rfl, rfl, rfl⟩
abbrev mX1_init : az_Md := (yX1_init, cX1_init, 1, (Option.none : Option ClassFile.FieldType))
set_option maxRecDepth 100000 in
theorem knX1_init : az_kn mX1_init := ⟨az_tw 184 rfl rfl, by decide, ⟨by decide, by decide⟩, az_tw 67 rfl rfl, by decide⟩
set_option maxRecDepth 100000 in
theorem kiX1_init : az_ki mX1_init := ⟨knX1_init, az_tw 183 rfl rfl, rfl, rfl⟩
abbrev mX6_init : az_Md := (yX6_init, cX6_init, 1, (Option.none : Option ClassFile.FieldType))
set_option maxRecDepth 100000 in
theorem knX6_init : az_kn mX6_init := ⟨az_tw 205 rfl rfl, by decide, ⟨by decide, by decide⟩, az_tw 68 rfl rfl, by decide⟩
set_option maxRecDepth 100000 in
theorem kiX6_init : az_ki mX6_init := ⟨knX6_init, az_tw 204 rfl rfl, rfl, rfl⟩
abbrev mX0_init : az_Md := (yX0_init, cX0_init, 1, (Option.none : Option ClassFile.FieldType))
set_option maxRecDepth 100000 in
theorem knX0_init : az_kn mX0_init := ⟨az_tw 220 rfl rfl, by decide, ⟨by decide, by decide⟩, az_tw 69 rfl rfl, by decide⟩
set_option maxRecDepth 100000 in
theorem kiX0_init : az_ki mX0_init := ⟨knX0_init, az_tw 219 rfl rfl, rfl, rfl⟩
abbrev mX5_init : az_Md := (yX5_init, cX5_init, 1, (Option.none : Option ClassFile.FieldType))
set_option maxRecDepth 100000 in
theorem knX5_init : az_kn mX5_init := ⟨az_tw 236 rfl rfl, by decide, ⟨by decide, by decide⟩, az_tw 70 rfl rfl, by decide⟩
set_option maxRecDepth 100000 in
theorem kiX5_init : az_ki mX5_init := ⟨knX5_init, az_tw 235 rfl rfl, rfl, rfl⟩
abbrev mX4_init : az_Md := (yX4_init, cX4_init, 1, (Option.none : Option ClassFile.FieldType))
set_option maxRecDepth 100000 in
theorem knX4_init : az_kn mX4_init := ⟨az_tw 260 rfl rfl, by decide, ⟨by decide, by decide⟩, az_tw 71 rfl rfl, by decide⟩
set_option maxRecDepth 100000 in
theorem kiX4_init : az_ki mX4_init := ⟨knX4_init, az_tw 259 rfl rfl, rfl, rfl⟩
abbrev mX7_row : az_Md := (yX7_row, cX7_row, 4, (some .int))
set_option maxRecDepth 100000 in
theorem knX7_row : az_kn mX7_row := ⟨az_tw 314 rfl rfl, by decide, ⟨by decide, by decide⟩, az_tw 64 rfl rfl, by decide⟩
set_option maxRecDepth 100000 in
theorem kvX7_row : az_kv mX7_row := ⟨knX7_row, az_tw 312 rfl rfl, az_tw 313 rfl rfl⟩
abbrev mX7_isShelf : az_Md := (yX7_isShelf, cX7_isShelf, 1, (some .boolean))
set_option maxRecDepth 100000 in
theorem knX7_isShelf : az_kn mX7_isShelf := ⟨az_tw 317 rfl rfl, by decide, ⟨by decide, by decide⟩, az_tw 64 rfl rfl, by decide⟩
set_option maxRecDepth 100000 in
theorem ksX7_isShelf : az_ks mX7_isShelf := ⟨knX7_isShelf, az_tw 316 rfl rfl⟩
abbrev mX7_isWithin : az_Md := (yX7_isWithin, cX7_isWithin, 2, (some .boolean))
set_option maxRecDepth 100000 in
theorem knX7_isWithin : az_kn mX7_isWithin := ⟨az_tw 320 rfl rfl, by decide, ⟨by decide, by decide⟩, az_tw 64 rfl rfl, by decide⟩
set_option maxRecDepth 100000 in
theorem ksX7_isWithin : az_ks mX7_isWithin := ⟨knX7_isWithin, az_tw 319 rfl rfl⟩
abbrev mX7_refuse : az_Md := (yX7_refuse, cX7_refuse, 3, (some .int))
set_option maxRecDepth 100000 in
theorem knX7_refuse : az_kn mX7_refuse := ⟨az_tw 324 rfl rfl, by decide, ⟨by decide, by decide⟩, az_tw 64 rfl rfl, by decide⟩
set_option maxRecDepth 100000 in
theorem kvX7_refuse : az_kv mX7_refuse := ⟨knX7_refuse, az_tw 323 rfl rfl, az_tw 0 rfl rfl⟩
abbrev mX4_holdRow : az_Md := (yX4_holdRow, cX4_holdRow, 3, (Option.none : Option ClassFile.FieldType))
set_option maxRecDepth 100000 in
theorem knX4_holdRow : az_kn mX4_holdRow := ⟨az_tw 328 rfl rfl, by decide, ⟨by decide, by decide⟩, az_tw 71 rfl rfl, by decide⟩
set_option maxRecDepth 100000 in
theorem kvX4_holdRow : az_kv mX4_holdRow := ⟨knX4_holdRow, az_tw 326 rfl rfl, az_tw 327 rfl rfl⟩
abbrev mJ7_fill_d0a16 : az_Md := (yJ7_fill_d0a16, cJ7_fill_d0a16, 5, (Option.none : Option ClassFile.FieldType))
set_option maxRecDepth 100000 in
theorem knJ7_fill_d0a16 : az_kn mJ7_fill_d0a16 := ⟨az_tw 331 rfl rfl, by decide, ⟨by decide, by decide⟩, az_tw 73 rfl rfl, by decide⟩
set_option maxRecDepth 100000 in
theorem ksJ7_fill_d0a16 : az_ks mJ7_fill_d0a16 := ⟨knJ7_fill_d0a16, az_tw 330 rfl rfl⟩
abbrev mX7_set : az_Md := (yX7_set, cX7_set, 6, (some .int))
set_option maxRecDepth 100000 in
theorem knX7_set : az_kn mX7_set := ⟨az_tw 341 rfl rfl, by decide, ⟨by decide, by decide⟩, az_tw 64 rfl rfl, by decide⟩
set_option maxRecDepth 100000 in
theorem kvX7_set : az_kv mX7_set := ⟨knX7_set, az_tw 339 rfl rfl, az_tw 340 rfl rfl⟩
abbrev mX7_rowFault : az_Md := (yX7_rowFault, cX7_rowFault, 3, (some .int))
set_option maxRecDepth 100000 in
theorem knX7_rowFault : az_kn mX7_rowFault := ⟨az_tw 345 rfl rfl, by decide, ⟨by decide, by decide⟩, az_tw 64 rfl rfl, by decide⟩
set_option maxRecDepth 100000 in
theorem kvX7_rowFault : az_kv mX7_rowFault := ⟨knX7_rowFault, az_tw 344 rfl rfl, az_tw 1 rfl rfl⟩
abbrev mX4_holdsOne : az_Md := (yX4_holdsOne, cX4_holdsOne, 1, (some .boolean))
set_option maxRecDepth 100000 in
theorem knX4_holdsOne : az_kn mX4_holdsOne := ⟨az_tw 349 rfl rfl, by decide, ⟨by decide, by decide⟩, az_tw 71 rfl rfl, by decide⟩
set_option maxRecDepth 100000 in
theorem kvX4_holdsOne : az_kv mX4_holdsOne := ⟨knX4_holdsOne, az_tw 347 rfl rfl, az_tw 348 rfl rfl⟩
abbrev mX4_isBare : az_Md := (yX4_isBare, cX4_isBare, 1, (some .boolean))
set_option maxRecDepth 100000 in
theorem knX4_isBare : az_kn mX4_isBare := ⟨az_tw 353 rfl rfl, by decide, ⟨by decide, by decide⟩, az_tw 71 rfl rfl, by decide⟩
set_option maxRecDepth 100000 in
theorem kvX4_isBare : az_kv mX4_isBare := ⟨knX4_isBare, az_tw 351 rfl rfl, az_tw 352 rfl rfl⟩
abbrev mX4_holdsRow : az_Md := (yX4_holdsRow, cX4_holdsRow, 1, (some .boolean))
set_option maxRecDepth 100000 in
theorem knX4_holdsRow : az_kn mX4_holdsRow := ⟨az_tw 357 rfl rfl, by decide, ⟨by decide, by decide⟩, az_tw 71 rfl rfl, by decide⟩
set_option maxRecDepth 100000 in
theorem kvX4_holdsRow : az_kv mX4_holdsRow := ⟨knX4_holdsRow, az_tw 355 rfl rfl, az_tw 356 rfl rfl⟩
abbrev mX4_hasPlace : az_Md := (yX4_hasPlace, cX4_hasPlace, 2, (some .boolean))
set_option maxRecDepth 100000 in
theorem knX4_hasPlace : az_kn mX4_hasPlace := ⟨az_tw 362 rfl rfl, by decide, ⟨by decide, by decide⟩, az_tw 71 rfl rfl, by decide⟩
set_option maxRecDepth 100000 in
theorem kvX4_hasPlace : az_kv mX4_hasPlace := ⟨knX4_hasPlace, az_tw 360 rfl rfl, az_tw 361 rfl rfl⟩
abbrev mX4_put : az_Md := (yX4_put, cX4_put, 4, (Option.none : Option ClassFile.FieldType))
set_option maxRecDepth 100000 in
theorem knX4_put : az_kn mX4_put := ⟨az_tw 366 rfl rfl, by decide, ⟨by decide, by decide⟩, az_tw 71 rfl rfl, by decide⟩
set_option maxRecDepth 100000 in
theorem kvX4_put : az_kv mX4_put := ⟨knX4_put, az_tw 364 rfl rfl, az_tw 365 rfl rfl⟩
abbrev mX4_fit : az_Md := (yX4_fit, cX4_fit, 3, (some .long))
set_option maxRecDepth 100000 in
theorem knX4_fit : az_kn mX4_fit := ⟨az_tw 371 rfl rfl, by decide, ⟨by decide, by decide⟩, az_tw 71 rfl rfl, by decide⟩
set_option maxRecDepth 100000 in
theorem kvX4_fit : az_kv mX4_fit := ⟨knX4_fit, az_tw 370 rfl rfl, az_tw 2 rfl rfl⟩
abbrev mX7_copy : az_Md := (yX7_copy, cX7_copy, 8, (some .int))
set_option maxRecDepth 100000 in
theorem knX7_copy : az_kn mX7_copy := ⟨az_tw 375 rfl rfl, by decide, ⟨by decide, by decide⟩, az_tw 64 rfl rfl, by decide⟩
set_option maxRecDepth 100000 in
theorem kvX7_copy : az_kv mX7_copy := ⟨knX7_copy, az_tw 373 rfl rfl, az_tw 374 rfl rfl⟩
abbrev mX4_hasStretch : az_Md := (yX4_hasStretch, cX4_hasStretch, 3, (some .boolean))
set_option maxRecDepth 100000 in
theorem knX4_hasStretch : az_kn mX4_hasStretch := ⟨az_tw 379 rfl rfl, by decide, ⟨by decide, by decide⟩, az_tw 71 rfl rfl, by decide⟩
set_option maxRecDepth 100000 in
theorem kvX4_hasStretch : az_kv mX4_hasStretch := ⟨knX4_hasStretch, az_tw 377 rfl rfl, az_tw 378 rfl rfl⟩
abbrev mX7_element : az_Md := (yX7_element, cX7_element, 3, (some .long))
set_option maxRecDepth 100000 in
theorem knX7_element : az_kn mX7_element := ⟨az_tw 386 rfl rfl, by decide, ⟨by decide, by decide⟩, az_tw 64 rfl rfl, by decide⟩
set_option maxRecDepth 100000 in
theorem kvX7_element : az_kv mX7_element := ⟨knX7_element, az_tw 384 rfl rfl, az_tw 385 rfl rfl⟩
abbrev mX4_at : az_Md := (yX4_at, cX4_at, 2, (some .long))
set_option maxRecDepth 100000 in
theorem knX4_at : az_kn mX4_at := ⟨az_tw 390 rfl rfl, by decide, ⟨by decide, by decide⟩, az_tw 71 rfl rfl, by decide⟩
set_option maxRecDepth 100000 in
theorem kvX4_at : az_kv mX4_at := ⟨knX4_at, az_tw 388 rfl rfl, az_tw 389 rfl rfl⟩
abbrev mX7_holds : az_Md := (yX7_holds, cX7_holds, 2, (some .int))
set_option maxRecDepth 100000 in
theorem knX7_holds : az_kn mX7_holds := ⟨az_tw 394 rfl rfl, by decide, ⟨by decide, by decide⟩, az_tw 64 rfl rfl, by decide⟩
set_option maxRecDepth 100000 in
theorem kvX7_holds : az_kv mX7_holds := ⟨knX7_holds, az_tw 392 rfl rfl, az_tw 393 rfl rfl⟩
abbrev mX7_show : az_Md := (yX7_show, cX7_show, 3, (some .int))
set_option maxRecDepth 100000 in
theorem knX7_show : az_kn mX7_show := ⟨az_tw 398 rfl rfl, by decide, ⟨by decide, by decide⟩, az_tw 64 rfl rfl, by decide⟩
set_option maxRecDepth 100000 in
theorem kvX7_show : az_kv mX7_show := ⟨knX7_show, az_tw 396 rfl rfl, az_tw 397 rfl rfl⟩
abbrev mX2_hasOne : az_Md := (yX2_hasOne, cX2_hasOne, 2, (some .boolean))
set_option maxRecDepth 100000 in
theorem knX2_hasOne : az_kn mX2_hasOne := ⟨az_tw 402 rfl rfl, by decide, ⟨by decide, by decide⟩, az_tw 65 rfl rfl, by decide⟩
set_option maxRecDepth 100000 in
theorem kvX2_hasOne : az_kv mX2_hasOne := ⟨knX2_hasOne, az_tw 400 rfl rfl, az_tw 401 rfl rfl⟩
abbrev mX4_holdOne : az_Md := (yX4_holdOne, cX4_holdOne, 2, (Option.none : Option ClassFile.FieldType))
set_option maxRecDepth 100000 in
theorem knX4_holdOne : az_kn mX4_holdOne := ⟨az_tw 406 rfl rfl, by decide, ⟨by decide, by decide⟩, az_tw 71 rfl rfl, by decide⟩
set_option maxRecDepth 100000 in
theorem kvX4_holdOne : az_kv mX4_holdOne := ⟨knX4_holdOne, az_tw 404 rfl rfl, az_tw 405 rfl rfl⟩
abbrev mX7_says : az_Md := (yX7_says, cX7_says, 5, (some .int))
set_option maxRecDepth 100000 in
theorem knX7_says : az_kn mX7_says := ⟨az_tw 410 rfl rfl, by decide, ⟨by decide, by decide⟩, az_tw 64 rfl rfl, by decide⟩
set_option maxRecDepth 100000 in
theorem kvX7_says : az_kv mX7_says := ⟨knX7_says, az_tw 408 rfl rfl, az_tw 409 rfl rfl⟩
abbrev mX7_isKind : az_Md := (yX7_isKind, cX7_isKind, 1, (some .boolean))
set_option maxRecDepth 100000 in
theorem knX7_isKind : az_kn mX7_isKind := ⟨az_tw 413 rfl rfl, by decide, ⟨by decide, by decide⟩, az_tw 64 rfl rfl, by decide⟩
set_option maxRecDepth 100000 in
theorem ksX7_isKind : az_ks mX7_isKind := ⟨knX7_isKind, az_tw 412 rfl rfl⟩
abbrev mX7_isOfOrUnder : az_Md := (yX7_isOfOrUnder, cX7_isOfOrUnder, 4, (some .boolean))
set_option maxRecDepth 100000 in
theorem knX7_isOfOrUnder : az_kn mX7_isOfOrUnder := ⟨az_tw 417 rfl rfl, by decide, ⟨by decide, by decide⟩, az_tw 64 rfl rfl, by decide⟩
set_option maxRecDepth 100000 in
theorem ksX7_isOfOrUnder : az_ks mX7_isOfOrUnder := ⟨knX7_isOfOrUnder, az_tw 416 rfl rfl⟩
abbrev mX2_coldAs : az_Md := (yX2_coldAs, cX2_coldAs, 5, (some .int))
set_option maxRecDepth 100000 in
theorem knX2_coldAs : az_kn mX2_coldAs := ⟨az_tw 423 rfl rfl, by decide, ⟨by decide, by decide⟩, az_tw 65 rfl rfl, by decide⟩
set_option maxRecDepth 100000 in
theorem kvX2_coldAs : az_kv mX2_coldAs := ⟨knX2_coldAs, az_tw 421 rfl rfl, az_tw 422 rfl rfl⟩
abbrev mX7_person : az_Md := (yX7_person, cX7_person, 4, (some .int))
set_option maxRecDepth 100000 in
theorem knX7_person : az_kn mX7_person := ⟨az_tw 429 rfl rfl, by decide, ⟨by decide, by decide⟩, az_tw 64 rfl rfl, by decide⟩
set_option maxRecDepth 100000 in
theorem kvX7_person : az_kv mX7_person := ⟨knX7_person, az_tw 427 rfl rfl, az_tw 428 rfl rfl⟩
abbrev mX2_isFull : az_Md := (yX2_isFull, cX2_isFull, 1, (some .boolean))
set_option maxRecDepth 100000 in
theorem knX2_isFull : az_kn mX2_isFull := ⟨az_tw 433 rfl rfl, by decide, ⟨by decide, by decide⟩, az_tw 65 rfl rfl, by decide⟩
set_option maxRecDepth 100000 in
theorem kvX2_isFull : az_kv mX2_isFull := ⟨knX2_isFull, az_tw 431 rfl rfl, az_tw 432 rfl rfl⟩
abbrev mX2_settle : az_Md := (yX2_settle, cX2_settle, 5, (some .int))
set_option maxRecDepth 100000 in
theorem knX2_settle : az_kn mX2_settle := ⟨az_tw 437 rfl rfl, by decide, ⟨by decide, by decide⟩, az_tw 65 rfl rfl, by decide⟩
set_option maxRecDepth 100000 in
theorem kvX2_settle : az_kv mX2_settle := ⟨knX2_settle, az_tw 435 rfl rfl, az_tw 436 rfl rfl⟩
abbrev mX7_asNumber : az_Md := (yX7_asNumber, cX7_asNumber, 1, (some .int))
set_option maxRecDepth 100000 in
theorem knX7_asNumber : az_kn mX7_asNumber := ⟨az_tw 441 rfl rfl, by decide, ⟨by decide, by decide⟩, az_tw 64 rfl rfl, by decide⟩
set_option maxRecDepth 100000 in
theorem ksX7_asNumber : az_ks mX7_asNumber := ⟨knX7_asNumber, az_tw 440 rfl rfl⟩
abbrev mX7_give : az_Md := (yX7_give, cX7_give, 6, (some .int))
set_option maxRecDepth 100000 in
theorem knX7_give : az_kn mX7_give := ⟨az_tw 445 rfl rfl, by decide, ⟨by decide, by decide⟩, az_tw 64 rfl rfl, by decide⟩
set_option maxRecDepth 100000 in
theorem kvX7_give : az_kv mX7_give := ⟨knX7_give, az_tw 443 rfl rfl, az_tw 444 rfl rfl⟩
abbrev mX7_tell : az_Md := (yX7_tell, cX7_tell, 3, (some .int))
set_option maxRecDepth 100000 in
theorem knX7_tell : az_kn mX7_tell := ⟨az_tw 451 rfl rfl, by decide, ⟨by decide, by decide⟩, az_tw 64 rfl rfl, by decide⟩
set_option maxRecDepth 100000 in
theorem kvX7_tell : az_kv mX7_tell := ⟨knX7_tell, az_tw 449 rfl rfl, az_tw 450 rfl rfl⟩
abbrev mX2_change : az_Md := (yX2_change, cX2_change, 4, (some .int))
set_option maxRecDepth 100000 in
theorem knX2_change : az_kn mX2_change := ⟨az_tw 457 rfl rfl, by decide, ⟨by decide, by decide⟩, az_tw 65 rfl rfl, by decide⟩
set_option maxRecDepth 100000 in
theorem kvX2_change : az_kv mX2_change := ⟨knX2_change, az_tw 455 rfl rfl, az_tw 456 rfl rfl⟩
abbrev mX7_thaw : az_Md := (yX7_thaw, cX7_thaw, 2, (some .int))
set_option maxRecDepth 100000 in
theorem knX7_thaw : az_kn mX7_thaw := ⟨az_tw 461 rfl rfl, by decide, ⟨by decide, by decide⟩, az_tw 64 rfl rfl, by decide⟩
set_option maxRecDepth 100000 in
theorem kvX7_thaw : az_kv mX7_thaw := ⟨knX7_thaw, az_tw 459 rfl rfl, az_tw 460 rfl rfl⟩
abbrev mX7_feed : az_Md := (yX7_feed, cX7_feed, 2, (some .int))
set_option maxRecDepth 100000 in
theorem knX7_feed : az_kn mX7_feed := ⟨az_tw 466 rfl rfl, by decide, ⟨by decide, by decide⟩, az_tw 64 rfl rfl, by decide⟩
set_option maxRecDepth 100000 in
theorem kvX7_feed : az_kv mX7_feed := ⟨knX7_feed, az_tw 464 rfl rfl, az_tw 465 rfl rfl⟩
abbrev mX5_isFull : az_Md := (yX5_isFull, cX5_isFull, 1, (some .boolean))
set_option maxRecDepth 100000 in
theorem knX5_isFull : az_kn mX5_isFull := ⟨az_tw 470 rfl rfl, by decide, ⟨by decide, by decide⟩, az_tw 70 rfl rfl, by decide⟩
set_option maxRecDepth 100000 in
theorem kvX5_isFull : az_kv mX5_isFull := ⟨knX5_isFull, az_tw 468 rfl rfl, az_tw 469 rfl rfl⟩
abbrev mX5_append : az_Md := (yX5_append, cX5_append, 2, (some .int))
set_option maxRecDepth 100000 in
theorem knX5_append : az_kn mX5_append := ⟨az_tw 474 rfl rfl, by decide, ⟨by decide, by decide⟩, az_tw 70 rfl rfl, by decide⟩
set_option maxRecDepth 100000 in
theorem kvX5_append : az_kv mX5_append := ⟨knX5_append, az_tw 472 rfl rfl, az_tw 473 rfl rfl⟩
abbrev mX7_wipe : az_Md := (yX7_wipe, cX7_wipe, 1, (some .int))
set_option maxRecDepth 100000 in
theorem knX7_wipe : az_kn mX7_wipe := ⟨az_tw 479 rfl rfl, by decide, ⟨by decide, by decide⟩, az_tw 64 rfl rfl, by decide⟩
set_option maxRecDepth 100000 in
theorem kvX7_wipe : az_kv mX7_wipe := ⟨knX7_wipe, az_tw 477 rfl rfl, az_tw 478 rfl rfl⟩
abbrev mX5_clear : az_Md := (yX5_clear, cX5_clear, 2, (some .int))
set_option maxRecDepth 100000 in
theorem knX5_clear : az_kn mX5_clear := ⟨az_tw 483 rfl rfl, by decide, ⟨by decide, by decide⟩, az_tw 70 rfl rfl, by decide⟩
set_option maxRecDepth 100000 in
theorem kvX5_clear : az_kv mX5_clear := ⟨knX5_clear, az_tw 481 rfl rfl, az_tw 482 rfl rfl⟩
abbrev mX7_country : az_Md := (yX7_country, cX7_country, 3, (some .int))
set_option maxRecDepth 100000 in
theorem knX7_country : az_kn mX7_country := ⟨az_tw 487 rfl rfl, by decide, ⟨by decide, by decide⟩, az_tw 64 rfl rfl, by decide⟩
set_option maxRecDepth 100000 in
theorem kvX7_country : az_kv mX7_country := ⟨knX7_country, az_tw 485 rfl rfl, az_tw 486 rfl rfl⟩
abbrev mX3_begin : az_Md := (yX3_begin, cX3_begin, 2, (some (.object "ColdestSaysSo$Country")))
set_option maxRecDepth 100000 in
theorem knX3_begin : az_kn mX3_begin := ⟨az_tw 491 rfl rfl, by decide, ⟨by decide, by decide⟩, az_tw 66 rfl rfl, by decide⟩
set_option maxRecDepth 100000 in
theorem kvX3_begin : az_kv mX3_begin := ⟨knX3_begin, az_tw 489 rfl rfl, az_tw 490 rfl rfl⟩
abbrev mX2_load : az_Md := (yX2_load, cX2_load, 2, (Option.none : Option ClassFile.FieldType))
set_option maxRecDepth 100000 in
theorem knX2_load : az_kn mX2_load := ⟨az_tw 495 rfl rfl, by decide, ⟨by decide, by decide⟩, az_tw 65 rfl rfl, by decide⟩
set_option maxRecDepth 100000 in
theorem kvX2_load : az_kv mX2_load := ⟨knX2_load, az_tw 493 rfl rfl, az_tw 494 rfl rfl⟩
abbrev mX5_readInto : az_Md := (yX5_readInto, cX5_readInto, 3, (some .int))
set_option maxRecDepth 100000 in
theorem knX5_readInto : az_kn mX5_readInto := ⟨az_tw 500 rfl rfl, by decide, ⟨by decide, by decide⟩, az_tw 70 rfl rfl, by decide⟩
set_option maxRecDepth 100000 in
theorem kvX5_readInto : az_kv mX5_readInto := ⟨knX5_readInto, az_tw 498 rfl rfl, az_tw 499 rfl rfl⟩
abbrev mX5_step : az_Md := (yX5_step, cX5_step, 1, (Option.none : Option ClassFile.FieldType))
set_option maxRecDepth 100000 in
theorem knX5_step : az_kn mX5_step := ⟨az_tw 504 rfl rfl, by decide, ⟨by decide, by decide⟩, az_tw 70 rfl rfl, by decide⟩
set_option maxRecDepth 100000 in
theorem kvX5_step : az_kv mX5_step := ⟨knX5_step, az_tw 503 rfl rfl, az_tw 3 rfl rfl⟩
abbrev mX5_takesAllOf : az_Md := (yX5_takesAllOf, cX5_takesAllOf, 3, (some .boolean))
set_option maxRecDepth 100000 in
theorem knX5_takesAllOf : az_kn mX5_takesAllOf := ⟨az_tw 508 rfl rfl, by decide, ⟨by decide, by decide⟩, az_tw 70 rfl rfl, by decide⟩
set_option maxRecDepth 100000 in
theorem kvX5_takesAllOf : az_kv mX5_takesAllOf := ⟨knX5_takesAllOf, az_tw 507 rfl rfl, az_tw 4 rfl rfl⟩
abbrev mX5_readStatement : az_Md := (yX5_readStatement, cX5_readStatement, 4, (some .boolean))
set_option maxRecDepth 100000 in
theorem knX5_readStatement : az_kn mX5_readStatement := ⟨az_tw 512 rfl rfl, by decide, ⟨by decide, by decide⟩, az_tw 70 rfl rfl, by decide⟩
set_option maxRecDepth 100000 in
theorem kvX5_readStatement : az_kv mX5_readStatement := ⟨knX5_readStatement, az_tw 511 rfl rfl, az_tw 5 rfl rfl⟩
abbrev mX5_isWord : az_Md := (yX5_isWord, cX5_isWord, 3, (some .boolean))
set_option maxRecDepth 100000 in
theorem knX5_isWord : az_kn mX5_isWord := ⟨az_tw 517 rfl rfl, by decide, ⟨by decide, by decide⟩, az_tw 70 rfl rfl, by decide⟩
set_option maxRecDepth 100000 in
theorem kvX5_isWord : az_kv mX5_isWord := ⟨knX5_isWord, az_tw 516 rfl rfl, az_tw 6 rfl rfl⟩
abbrev mJ0_length_8abf5 : az_Md := (yJ0_length_8abf5, cJ0_length_8abf5, 1, (some .int))
set_option maxRecDepth 100000 in
theorem knJ0_length_8abf5 : az_kn mJ0_length_8abf5 := ⟨az_tw 521 rfl rfl, by decide, ⟨by decide, by decide⟩, az_tw 76 rfl rfl, by decide⟩
set_option maxRecDepth 100000 in
theorem kvJ0_length_8abf5 : az_kv mJ0_length_8abf5 := ⟨knJ0_length_8abf5, az_tw 519 rfl rfl, az_tw 520 rfl rfl⟩
abbrev mJ0_coder_7d493 : az_Md := (yJ0_coder_7d493, cJ0_coder_7d493, 1, (some .byte))
set_option maxRecDepth 100000 in
theorem knJ0_coder_7d493 : az_kn mJ0_coder_7d493 := ⟨az_tw 525 rfl rfl, by decide, ⟨by decide, by decide⟩, az_tw 76 rfl rfl, by decide⟩
set_option maxRecDepth 100000 in
theorem kvJ0_coder_7d493 : az_kv mJ0_coder_7d493 := ⟨knJ0_coder_7d493, az_tw 523 rfl rfl, az_tw 524 rfl rfl⟩
abbrev mJ0_charAt_5068e : az_Md := (yJ0_charAt_5068e, cJ0_charAt_5068e, 2, (some .char))
set_option maxRecDepth 100000 in
theorem knJ0_charAt_5068e : az_kn mJ0_charAt_5068e := ⟨az_tw 531 rfl rfl, by decide, ⟨by decide, by decide⟩, az_tw 76 rfl rfl, by decide⟩
set_option maxRecDepth 100000 in
theorem kvJ0_charAt_5068e : az_kv mJ0_charAt_5068e := ⟨knJ0_charAt_5068e, az_tw 529 rfl rfl, az_tw 530 rfl rfl⟩
abbrev mJ0_isLatin1_aae02 : az_Md := (yJ0_isLatin1_aae02, cJ0_isLatin1_aae02, 1, (some .boolean))
set_option maxRecDepth 100000 in
theorem knJ0_isLatin1_aae02 : az_kn mJ0_isLatin1_aae02 := ⟨az_tw 535 rfl rfl, by decide, ⟨by decide, by decide⟩, az_tw 76 rfl rfl, by decide⟩
set_option maxRecDepth 100000 in
theorem kvJ0_isLatin1_aae02 : az_kv mJ0_isLatin1_aae02 := ⟨knJ0_isLatin1_aae02, az_tw 533 rfl rfl, az_tw 534 rfl rfl⟩
abbrev mJ1_charAt_3b067 : az_Md := (yJ1_charAt_3b067, cJ1_charAt_3b067, 2, (some .char))
set_option maxRecDepth 100000 in
theorem knJ1_charAt_3b067 : az_kn mJ1_charAt_3b067 := ⟨az_tw 538 rfl rfl, by decide, ⟨by decide, by decide⟩, az_tw 77 rfl rfl, by decide⟩
set_option maxRecDepth 100000 in
theorem ksJ1_charAt_3b067 : az_ks mJ1_charAt_3b067 := ⟨knJ1_charAt_3b067, az_tw 537 rfl rfl⟩
abbrev mJ0_checkIndex_df160 : az_Md := (yJ0_checkIndex_df160, cJ0_checkIndex_df160, 2, (Option.none : Option ClassFile.FieldType))
set_option maxRecDepth 100000 in
theorem knJ0_checkIndex_df160 : az_kn mJ0_checkIndex_df160 := ⟨az_tw 541 rfl rfl, by decide, ⟨by decide, by decide⟩, az_tw 76 rfl rfl, by decide⟩
set_option maxRecDepth 100000 in
theorem ksJ0_checkIndex_df160 : az_ks mJ0_checkIndex_df160 := ⟨knJ0_checkIndex_df160, az_tw 540 rfl rfl⟩
abbrev mJ3_checkIndex_8e157 : az_Md := (yJ3_checkIndex_8e157, cJ3_checkIndex_8e157, 3, (some .int))
set_option maxRecDepth 100000 in
theorem knJ3_checkIndex_8e157 : az_kn mJ3_checkIndex_8e157 := ⟨az_tw 546 rfl rfl, by decide, ⟨by decide, by decide⟩, az_tw 78 rfl rfl, by decide⟩
set_option maxRecDepth 100000 in
theorem ksJ3_checkIndex_8e157 : az_ks mJ3_checkIndex_8e157 := ⟨knJ3_checkIndex_8e157, az_tw 545 rfl rfl⟩
abbrev mJ2_charAt_3b067 : az_Md := (yJ2_charAt_3b067, cJ2_charAt_3b067, 2, (some .char))
set_option maxRecDepth 100000 in
theorem knJ2_charAt_3b067 : az_kn mJ2_charAt_3b067 := ⟨az_tw 549 rfl rfl, by decide, ⟨by decide, by decide⟩, az_tw 79 rfl rfl, by decide⟩
set_option maxRecDepth 100000 in
theorem ksJ2_charAt_3b067 : az_ks mJ2_charAt_3b067 := ⟨knJ2_charAt_3b067, az_tw 548 rfl rfl⟩
abbrev mJ2_checkIndex_2214a : az_Md := (yJ2_checkIndex_2214a, cJ2_checkIndex_2214a, 2, (Option.none : Option ClassFile.FieldType))
set_option maxRecDepth 100000 in
theorem knJ2_checkIndex_2214a : az_kn mJ2_checkIndex_2214a := ⟨az_tw 552 rfl rfl, by decide, ⟨by decide, by decide⟩, az_tw 79 rfl rfl, by decide⟩
set_option maxRecDepth 100000 in
theorem ksJ2_checkIndex_2214a : az_ks mJ2_checkIndex_2214a := ⟨knJ2_checkIndex_2214a, az_tw 551 rfl rfl⟩
abbrev mJ2_length_9d52b : az_Md := (yJ2_length_9d52b, cJ2_length_9d52b, 1, (some .int))
set_option maxRecDepth 100000 in
theorem knJ2_length_9d52b : az_kn mJ2_length_9d52b := ⟨az_tw 555 rfl rfl, by decide, ⟨by decide, by decide⟩, az_tw 79 rfl rfl, by decide⟩
set_option maxRecDepth 100000 in
theorem ksJ2_length_9d52b : az_ks mJ2_length_9d52b := ⟨knJ2_length_9d52b, az_tw 554 rfl rfl⟩
abbrev mJ2_getChar_3b067 : az_Md := (yJ2_getChar_3b067, cJ2_getChar_3b067, 2, (some .char))
set_option maxRecDepth 100000 in
theorem knJ2_getChar_3b067 : az_kn mJ2_getChar_3b067 := ⟨az_tw 559 rfl rfl, by decide, ⟨by decide, by decide⟩, az_tw 79 rfl rfl, by decide⟩
set_option maxRecDepth 100000 in
theorem ksJ2_getChar_3b067 : az_ks mJ2_getChar_3b067 := ⟨knJ2_getChar_3b067, az_tw 558 rfl rfl⟩
abbrev mX5_readPerson : az_Md := (yX5_readPerson, cX5_readPerson, 5, (some .boolean))
set_option maxRecDepth 100000 in
theorem knX5_readPerson : az_kn mX5_readPerson := ⟨az_tw 570 rfl rfl, by decide, ⟨by decide, by decide⟩, az_tw 70 rfl rfl, by decide⟩
set_option maxRecDepth 100000 in
theorem kvX5_readPerson : az_kv mX5_readPerson := ⟨knX5_readPerson, az_tw 569 rfl rfl, az_tw 7 rfl rfl⟩
abbrev mX5_readNumber : az_Md := (yX5_readNumber, cX5_readNumber, 4, (some .int))
set_option maxRecDepth 100000 in
theorem knX5_readNumber : az_kn mX5_readNumber := ⟨az_tw 574 rfl rfl, by decide, ⟨by decide, by decide⟩, az_tw 70 rfl rfl, by decide⟩
set_option maxRecDepth 100000 in
theorem kvX5_readNumber : az_kv mX5_readNumber := ⟨knX5_readNumber, az_tw 573 rfl rfl, az_tw 8 rfl rfl⟩
abbrev mX5_readPortion : az_Md := (yX5_readPortion, cX5_readPortion, 6, (some .boolean))
set_option maxRecDepth 100000 in
theorem knX5_readPortion : az_kn mX5_readPortion := ⟨az_tw 580 rfl rfl, by decide, ⟨by decide, by decide⟩, az_tw 70 rfl rfl, by decide⟩
set_option maxRecDepth 100000 in
theorem kvX5_readPortion : az_kv mX5_readPortion := ⟨knX5_readPortion, az_tw 579 rfl rfl, az_tw 9 rfl rfl⟩
abbrev mX7_personOf : az_Md := (yX7_personOf, cX7_personOf, 3, (some .int))
set_option maxRecDepth 100000 in
theorem knX7_personOf : az_kn mX7_personOf := ⟨az_tw 593 rfl rfl, by decide, ⟨by decide, by decide⟩, az_tw 64 rfl rfl, by decide⟩
set_option maxRecDepth 100000 in
theorem kvX7_personOf : az_kv mX7_personOf := ⟨knX7_personOf, az_tw 591 rfl rfl, az_tw 592 rfl rfl⟩
abbrev mX2_limitBy : az_Md := (yX2_limitBy, cX2_limitBy, 3, (some .int))
set_option maxRecDepth 100000 in
theorem knX2_limitBy : az_kn mX2_limitBy := ⟨az_tw 597 rfl rfl, by decide, ⟨by decide, by decide⟩, az_tw 65 rfl rfl, by decide⟩
set_option maxRecDepth 100000 in
theorem kvX2_limitBy : az_kv mX2_limitBy := ⟨knX2_limitBy, az_tw 595 rfl rfl, az_tw 596 rfl rfl⟩
abbrev mX7_speaks : az_Md := (yX7_speaks, cX7_speaks, 2, (some .int))
set_option maxRecDepth 100000 in
theorem knX7_speaks : az_kn mX7_speaks := ⟨az_tw 601 rfl rfl, by decide, ⟨by decide, by decide⟩, az_tw 64 rfl rfl, by decide⟩
set_option maxRecDepth 100000 in
theorem kvX7_speaks : az_kv mX7_speaks := ⟨knX7_speaks, az_tw 599 rfl rfl, az_tw 600 rfl rfl⟩
abbrev mX2_isHeard : az_Md := (yX2_isHeard, cX2_isHeard, 2, (some .boolean))
set_option maxRecDepth 100000 in
theorem knX2_isHeard : az_kn mX2_isHeard := ⟨az_tw 605 rfl rfl, by decide, ⟨by decide, by decide⟩, az_tw 65 rfl rfl, by decide⟩
set_option maxRecDepth 100000 in
theorem kvX2_isHeard : az_kv mX2_isHeard := ⟨knX2_isHeard, az_tw 603 rfl rfl, az_tw 604 rfl rfl⟩
abbrev mX7_coldest : az_Md := (yX7_coldest, cX7_coldest, 1, (some .int))
set_option maxRecDepth 100000 in
theorem knX7_coldest : az_kn mX7_coldest := ⟨az_tw 611 rfl rfl, by decide, ⟨by decide, by decide⟩, az_tw 64 rfl rfl, by decide⟩
set_option maxRecDepth 100000 in
theorem kvX7_coldest : az_kv mX7_coldest := ⟨knX7_coldest, az_tw 609 rfl rfl, az_tw 610 rfl rfl⟩
abbrev mX2_coldestOne : az_Md := (yX2_coldestOne, cX2_coldestOne, 5, (some .int))
set_option maxRecDepth 100000 in
theorem knX2_coldestOne : az_kn mX2_coldestOne := ⟨az_tw 615 rfl rfl, by decide, ⟨by decide, by decide⟩, az_tw 65 rfl rfl, by decide⟩
set_option maxRecDepth 100000 in
theorem kvX2_coldestOne : az_kv mX2_coldestOne := ⟨knX2_coldestOne, az_tw 613 rfl rfl, az_tw 614 rfl rfl⟩
abbrev mX7_speaking : az_Md := (yX7_speaking, cX7_speaking, 3, (some .int))
set_option maxRecDepth 100000 in
theorem knX7_speaking : az_kn mX7_speaking := ⟨az_tw 619 rfl rfl, by decide, ⟨by decide, by decide⟩, az_tw 64 rfl rfl, by decide⟩
set_option maxRecDepth 100000 in
theorem kvX7_speaking : az_kv mX7_speaking := ⟨knX7_speaking, az_tw 617 rfl rfl, az_tw 618 rfl rfl⟩
abbrev mX7_isSo : az_Md := (yX7_isSo, cX7_isSo, 1, (some .int))
set_option maxRecDepth 100000 in
theorem knX7_isSo : az_kn mX7_isSo := ⟨az_tw 623 rfl rfl, by decide, ⟨by decide, by decide⟩, az_tw 64 rfl rfl, by decide⟩
set_option maxRecDepth 100000 in
theorem kvX7_isSo : az_kv mX7_isSo := ⟨knX7_isSo, az_tw 621 rfl rfl, az_tw 622 rfl rfl⟩
abbrev mX2_standsSo : az_Md := (yX2_standsSo, cX2_standsSo, 1, (some .boolean))
set_option maxRecDepth 100000 in
theorem knX2_standsSo : az_kn mX2_standsSo := ⟨az_tw 627 rfl rfl, by decide, ⟨by decide, by decide⟩, az_tw 65 rfl rfl, by decide⟩
set_option maxRecDepth 100000 in
theorem kvX2_standsSo : az_kv mX2_standsSo := ⟨knX2_standsSo, az_tw 625 rfl rfl, az_tw 626 rfl rfl⟩
abbrev mX7_rank : az_Md := (yX7_rank, cX7_rank, 2, (some .int))
set_option maxRecDepth 100000 in
theorem knX7_rank : az_kn mX7_rank := ⟨az_tw 633 rfl rfl, by decide, ⟨by decide, by decide⟩, az_tw 64 rfl rfl, by decide⟩
set_option maxRecDepth 100000 in
theorem kvX7_rank : az_kv mX7_rank := ⟨knX7_rank, az_tw 631 rfl rfl, az_tw 632 rfl rfl⟩
abbrev mX2_ranked : az_Md := (yX2_ranked, cX2_ranked, 5, (some .int))
set_option maxRecDepth 100000 in
theorem knX2_ranked : az_kn mX2_ranked := ⟨az_tw 637 rfl rfl, by decide, ⟨by decide, by decide⟩, az_tw 65 rfl rfl, by decide⟩
set_option maxRecDepth 100000 in
theorem kvX2_ranked : az_kv mX2_ranked := ⟨knX2_ranked, az_tw 635 rfl rfl, az_tw 636 rfl rfl⟩
abbrev mX2_isColder : az_Md := (yX2_isColder, cX2_isColder, 3, (some .boolean))
set_option maxRecDepth 100000 in
theorem knX2_isColder : az_kn mX2_isColder := ⟨az_tw 641 rfl rfl, by decide, ⟨by decide, by decide⟩, az_tw 65 rfl rfl, by decide⟩
set_option maxRecDepth 100000 in
theorem kvX2_isColder : az_kv mX2_isColder := ⟨knX2_isColder, az_tw 639 rfl rfl, az_tw 640 rfl rfl⟩
abbrev mX7_when : az_Md := (yX7_when, cX7_when, 4, (some .int))
set_option maxRecDepth 100000 in
theorem knX7_when : az_kn mX7_when := ⟨az_tw 645 rfl rfl, by decide, ⟨by decide, by decide⟩, az_tw 64 rfl rfl, by decide⟩
set_option maxRecDepth 100000 in
theorem kvX7_when : az_kv mX7_when := ⟨knX7_when, az_tw 643 rfl rfl, az_tw 644 rfl rfl⟩
abbrev mX2_firstSo : az_Md := (yX2_firstSo, cX2_firstSo, 3, (some .int))
set_option maxRecDepth 100000 in
theorem knX2_firstSo : az_kn mX2_firstSo := ⟨az_tw 649 rfl rfl, by decide, ⟨by decide, by decide⟩, az_tw 65 rfl rfl, by decide⟩
set_option maxRecDepth 100000 in
theorem kvX2_firstSo : az_kv mX2_firstSo := ⟨knX2_firstSo, az_tw 647 rfl rfl, az_tw 648 rfl rfl⟩
abbrev mX2_coolDown : az_Md := (yX2_coolDown, cX2_coolDown, 3, (Option.none : Option ClassFile.FieldType))
set_option maxRecDepth 100000 in
theorem knX2_coolDown : az_kn mX2_coolDown := ⟨az_tw 654 rfl rfl, by decide, ⟨by decide, by decide⟩, az_tw 65 rfl rfl, by decide⟩
set_option maxRecDepth 100000 in
theorem kvX2_coolDown : az_kv mX2_coolDown := ⟨knX2_coolDown, az_tw 652 rfl rfl, az_tw 653 rfl rfl⟩
abbrev mX7_ahead : az_Md := (yX7_ahead, cX7_ahead, 5, (some .int))
set_option maxRecDepth 100000 in
theorem knX7_ahead : az_kn mX7_ahead := ⟨az_tw 658 rfl rfl, by decide, ⟨by decide, by decide⟩, az_tw 64 rfl rfl, by decide⟩
set_option maxRecDepth 100000 in
theorem kvX7_ahead : az_kv mX7_ahead := ⟨knX7_ahead, az_tw 656 rfl rfl, az_tw 657 rfl rfl⟩
abbrev mX7_later : az_Md := (yX7_later, cX7_later, 4, (some .int))
set_option maxRecDepth 100000 in
theorem knX7_later : az_kn mX7_later := ⟨az_tw 663 rfl rfl, by decide, ⟨by decide, by decide⟩, az_tw 64 rfl rfl, by decide⟩
set_option maxRecDepth 100000 in
theorem kvX7_later : az_kv mX7_later := ⟨knX7_later, az_tw 661 rfl rfl, az_tw 662 rfl rfl⟩
abbrev mX7_feeds : az_Md := (yX7_feeds, cX7_feeds, 4, (some .int))
set_option maxRecDepth 100000 in
theorem knX7_feeds : az_kn mX7_feeds := ⟨az_tw 667 rfl rfl, by decide, ⟨by decide, by decide⟩, az_tw 64 rfl rfl, by decide⟩
set_option maxRecDepth 100000 in
theorem kvX7_feeds : az_kv mX7_feeds := ⟨knX7_feeds, az_tw 665 rfl rfl, az_tw 666 rfl rfl⟩
abbrev mX3_leastFeed : az_Md := (yX3_leastFeed, cX3_leastFeed, 6, (some .int))
set_option maxRecDepth 100000 in
theorem knX3_leastFeed : az_kn mX3_leastFeed := ⟨az_tw 671 rfl rfl, by decide, ⟨by decide, by decide⟩, az_tw 66 rfl rfl, by decide⟩
set_option maxRecDepth 100000 in
theorem kvX3_leastFeed : az_kv mX3_leastFeed := ⟨knX3_leastFeed, az_tw 669 rfl rfl, az_tw 670 rfl rfl⟩
abbrev mX2_feedMore : az_Md := (yX2_feedMore, cX2_feedMore, 3, (Option.none : Option ClassFile.FieldType))
set_option maxRecDepth 100000 in
theorem knX2_feedMore : az_kn mX2_feedMore := ⟨az_tw 677 rfl rfl, by decide, ⟨by decide, by decide⟩, az_tw 65 rfl rfl, by decide⟩
set_option maxRecDepth 100000 in
theorem kvX2_feedMore : az_kv mX2_feedMore := ⟨knX2_feedMore, az_tw 675 rfl rfl, az_tw 676 rfl rfl⟩
abbrev mX7_warm : az_Md := (yX7_warm, cX7_warm, 2, (some .int))
set_option maxRecDepth 100000 in
theorem knX7_warm : az_kn mX7_warm := ⟨az_tw 682 rfl rfl, by decide, ⟨by decide, by decide⟩, az_tw 64 rfl rfl, by decide⟩
set_option maxRecDepth 100000 in
theorem kvX7_warm : az_kv mX7_warm := ⟨knX7_warm, az_tw 680 rfl rfl, az_tw 681 rfl rfl⟩
abbrev mX3_fewestWarmed : az_Md := (yX3_fewestWarmed, cX3_fewestWarmed, 6, (some .int))
set_option maxRecDepth 100000 in
theorem knX3_fewestWarmed : az_kn mX3_fewestWarmed := ⟨az_tw 686 rfl rfl, by decide, ⟨by decide, by decide⟩, az_tw 66 rfl rfl, by decide⟩
set_option maxRecDepth 100000 in
theorem kvX3_fewestWarmed : az_kv mX3_fewestWarmed := ⟨knX3_fewestWarmed, az_tw 684 rfl rfl, az_tw 685 rfl rfl⟩
abbrev mJ6_bitCount_0f7a4 : az_Md := (yJ6_bitCount_0f7a4, cJ6_bitCount_0f7a4, 1, (some .int))
set_option maxRecDepth 100000 in
theorem knJ6_bitCount_0f7a4 : az_kn mJ6_bitCount_0f7a4 := ⟨az_tw 689 rfl rfl, by decide, ⟨by decide, by decide⟩, az_tw 80 rfl rfl, by decide⟩
set_option maxRecDepth 100000 in
theorem ksJ6_bitCount_0f7a4 : az_ks mJ6_bitCount_0f7a4 := ⟨knJ6_bitCount_0f7a4, az_tw 688 rfl rfl⟩
abbrev mX3_warmThese : az_Md := (yX3_warmThese, cX3_warmThese, 3, (Option.none : Option ClassFile.FieldType))
set_option maxRecDepth 100000 in
theorem knX3_warmThese : az_kn mX3_warmThese := ⟨az_tw 696 rfl rfl, by decide, ⟨by decide, by decide⟩, az_tw 66 rfl rfl, by decide⟩
set_option maxRecDepth 100000 in
theorem kvX3_warmThese : az_kv mX3_warmThese := ⟨knX3_warmThese, az_tw 695 rfl rfl, az_tw 10 rfl rfl⟩
abbrev mX7_out : az_Md := (yX7_out, cX7_out, 2, (some .int))
set_option maxRecDepth 100000 in
theorem knX7_out : az_kn mX7_out := ⟨az_tw 700 rfl rfl, by decide, ⟨by decide, by decide⟩, az_tw 64 rfl rfl, by decide⟩
set_option maxRecDepth 100000 in
theorem kvX7_out : az_kv mX7_out := ⟨knX7_out, az_tw 698 rfl rfl, az_tw 699 rfl rfl⟩
abbrev mX3_bestAway : az_Md := (yX3_bestAway, cX3_bestAway, 7, (some .int))
set_option maxRecDepth 100000 in
theorem knX3_bestAway : az_kn mX3_bestAway := ⟨az_tw 704 rfl rfl, by decide, ⟨by decide, by decide⟩, az_tw 66 rfl rfl, by decide⟩
set_option maxRecDepth 100000 in
theorem kvX3_bestAway : az_kv mX3_bestAway := ⟨knX3_bestAway, az_tw 702 rfl rfl, az_tw 703 rfl rfl⟩
abbrev mX2_leaveOut : az_Md := (yX2_leaveOut, cX2_leaveOut, 2, (Option.none : Option ClassFile.FieldType))
set_option maxRecDepth 100000 in
theorem knX2_leaveOut : az_kn mX2_leaveOut := ⟨az_tw 708 rfl rfl, by decide, ⟨by decide, by decide⟩, az_tw 65 rfl rfl, by decide⟩
set_option maxRecDepth 100000 in
theorem kvX2_leaveOut : az_kv mX2_leaveOut := ⟨knX2_leaveOut, az_tw 706 rfl rfl, az_tw 707 rfl rfl⟩
abbrev mX3_noneAsLast : az_Md := (yX3_noneAsLast, cX3_noneAsLast, 1, (some .int))
set_option maxRecDepth 100000 in
theorem knX3_noneAsLast : az_kn mX3_noneAsLast := ⟨az_tw 711 rfl rfl, by decide, ⟨by decide, by decide⟩, az_tw 66 rfl rfl, by decide⟩
set_option maxRecDepth 100000 in
theorem ksX3_noneAsLast : az_ks mX3_noneAsLast := ⟨knX3_noneAsLast, az_tw 710 rfl rfl⟩
abbrev mX7_prides : az_Md := (yX7_prides, cX7_prides, 5, (some .int))
set_option maxRecDepth 100000 in
theorem knX7_prides : az_kn mX7_prides := ⟨az_tw 715 rfl rfl, by decide, ⟨by decide, by decide⟩, az_tw 64 rfl rfl, by decide⟩
set_option maxRecDepth 100000 in
theorem kvX7_prides : az_kv mX7_prides := ⟨knX7_prides, az_tw 713 rfl rfl, az_tw 714 rfl rfl⟩
abbrev mX7_twosFault : az_Md := (yX7_twosFault, cX7_twosFault, 3, (some .int))
set_option maxRecDepth 100000 in
theorem knX7_twosFault : az_kn mX7_twosFault := ⟨az_tw 719 rfl rfl, by decide, ⟨by decide, by decide⟩, az_tw 64 rfl rfl, by decide⟩
set_option maxRecDepth 100000 in
theorem kvX7_twosFault : az_kv mX7_twosFault := ⟨knX7_twosFault, az_tw 718 rfl rfl, az_tw 11 rfl rfl⟩
abbrev mX7_areAirs : az_Md := (yX7_areAirs, cX7_areAirs, 3, (some .boolean))
set_option maxRecDepth 100000 in
theorem knX7_areAirs : az_kn mX7_areAirs := ⟨az_tw 722 rfl rfl, by decide, ⟨by decide, by decide⟩, az_tw 64 rfl rfl, by decide⟩
set_option maxRecDepth 100000 in
theorem ksX7_areAirs : az_ks mX7_areAirs := ⟨knX7_areAirs, az_tw 721 rfl rfl⟩
abbrev mX7_areWhethers : az_Md := (yX7_areWhethers, cX7_areWhethers, 3, (some .boolean))
set_option maxRecDepth 100000 in
theorem knX7_areWhethers : az_kn mX7_areWhethers := ⟨az_tw 726 rfl rfl, by decide, ⟨by decide, by decide⟩, az_tw 64 rfl rfl, by decide⟩
set_option maxRecDepth 100000 in
theorem ksX7_areWhethers : az_ks mX7_areWhethers := ⟨knX7_areWhethers, az_tw 725 rfl rfl⟩
abbrev mX3_pridesBy : az_Md := (yX3_pridesBy, cX3_pridesBy, 7, (some .int))
set_option maxRecDepth 100000 in
theorem knX3_pridesBy : az_kn mX3_pridesBy := ⟨az_tw 730 rfl rfl, by decide, ⟨by decide, by decide⟩, az_tw 66 rfl rfl, by decide⟩
set_option maxRecDepth 100000 in
theorem kvX3_pridesBy : az_kv mX3_pridesBy := ⟨knX3_pridesBy, az_tw 728 rfl rfl, az_tw 729 rfl rfl⟩
abbrev mX3_agreesPride : az_Md := (yX3_agreesPride, cX3_agreesPride, 6, (some .boolean))
set_option maxRecDepth 100000 in
theorem knX3_agreesPride : az_kn mX3_agreesPride := ⟨az_tw 734 rfl rfl, by decide, ⟨by decide, by decide⟩, az_tw 66 rfl rfl, by decide⟩
set_option maxRecDepth 100000 in
theorem kvX3_agreesPride : az_kv mX3_agreesPride := ⟨knX3_agreesPride, az_tw 733 rfl rfl, az_tw 12 rfl rfl⟩
abbrev mX7_kinds : az_Md := (yX7_kinds, cX7_kinds, 5, (some .int))
set_option maxRecDepth 100000 in
theorem knX7_kinds : az_kn mX7_kinds := ⟨az_tw 741 rfl rfl, by decide, ⟨by decide, by decide⟩, az_tw 64 rfl rfl, by decide⟩
set_option maxRecDepth 100000 in
theorem kvX7_kinds : az_kv mX7_kinds := ⟨knX7_kinds, az_tw 739 rfl rfl, az_tw 740 rfl rfl⟩
abbrev mX3_kindsBy : az_Md := (yX3_kindsBy, cX3_kindsBy, 7, (some .int))
set_option maxRecDepth 100000 in
theorem knX3_kindsBy : az_kn mX3_kindsBy := ⟨az_tw 745 rfl rfl, by decide, ⟨by decide, by decide⟩, az_tw 66 rfl rfl, by decide⟩
set_option maxRecDepth 100000 in
theorem kvX3_kindsBy : az_kv mX3_kindsBy := ⟨knX3_kindsBy, az_tw 743 rfl rfl, az_tw 744 rfl rfl⟩
abbrev mX3_agreesKind : az_Md := (yX3_agreesKind, cX3_agreesKind, 6, (some .boolean))
set_option maxRecDepth 100000 in
theorem knX3_agreesKind : az_kn mX3_agreesKind := ⟨az_tw 749 rfl rfl, by decide, ⟨by decide, by decide⟩, az_tw 66 rfl rfl, by decide⟩
set_option maxRecDepth 100000 in
theorem kvX3_agreesKind : az_kv mX3_agreesKind := ⟨knX3_agreesKind, az_tw 748 rfl rfl, az_tw 13 rfl rfl⟩
abbrev mX7_airs : az_Md := (yX7_airs, cX7_airs, 7, (some .int))
set_option maxRecDepth 100000 in
theorem knX7_airs : az_kn mX7_airs := ⟨az_tw 754 rfl rfl, by decide, ⟨by decide, by decide⟩, az_tw 64 rfl rfl, by decide⟩
set_option maxRecDepth 100000 in
theorem kvX7_airs : az_kv mX7_airs := ⟨knX7_airs, az_tw 752 rfl rfl, az_tw 753 rfl rfl⟩
abbrev mX7_clash : az_Md := (yX7_clash, cX7_clash, 4, (some .int))
set_option maxRecDepth 100000 in
theorem knX7_clash : az_kn mX7_clash := ⟨az_tw 758 rfl rfl, by decide, ⟨by decide, by decide⟩, az_tw 64 rfl rfl, by decide⟩
set_option maxRecDepth 100000 in
theorem kvX7_clash : az_kv mX7_clash := ⟨knX7_clash, az_tw 756 rfl rfl, az_tw 757 rfl rfl⟩
abbrev mX0_firstClash : az_Md := (yX0_firstClash, cX0_firstClash, 5, (some .int))
set_option maxRecDepth 100000 in
theorem knX0_firstClash : az_kn mX0_firstClash := ⟨az_tw 762 rfl rfl, by decide, ⟨by decide, by decide⟩, az_tw 69 rfl rfl, by decide⟩
set_option maxRecDepth 100000 in
theorem kvX0_firstClash : az_kv mX0_firstClash := ⟨knX0_firstClash, az_tw 760 rfl rfl, az_tw 761 rfl rfl⟩
abbrev mJ7_fill_53178 : az_Md := (yJ7_fill_53178, cJ7_fill_53178, 4, (Option.none : Option ClassFile.FieldType))
set_option maxRecDepth 100000 in
theorem knJ7_fill_53178 : az_kn mJ7_fill_53178 := ⟨az_tw 767 rfl rfl, by decide, ⟨by decide, by decide⟩, az_tw 73 rfl rfl, by decide⟩
set_option maxRecDepth 100000 in
theorem ksJ7_fill_53178 : az_ks mJ7_fill_53178 := ⟨knJ7_fill_53178, az_tw 766 rfl rfl⟩
abbrev mX0_putAbove : az_Md := (yX0_putAbove, cX0_putAbove, 9, (some .boolean))
set_option maxRecDepth 100000 in
theorem knX0_putAbove : az_kn mX0_putAbove := ⟨az_tw 772 rfl rfl, by decide, ⟨by decide, by decide⟩, az_tw 69 rfl rfl, by decide⟩
set_option maxRecDepth 100000 in
theorem kvX0_putAbove : az_kv mX0_putAbove := ⟨knX0_putAbove, az_tw 771 rfl rfl, az_tw 14 rfl rfl⟩
abbrev mX0_isBelow : az_Md := (yX0_isBelow, cX0_isBelow, 3, (some .boolean))
set_option maxRecDepth 100000 in
theorem knX0_isBelow : az_kn mX0_isBelow := ⟨az_tw 776 rfl rfl, by decide, ⟨by decide, by decide⟩, az_tw 69 rfl rfl, by decide⟩
set_option maxRecDepth 100000 in
theorem kvX0_isBelow : az_kv mX0_isBelow := ⟨knX0_isBelow, az_tw 775 rfl rfl, az_tw 15 rfl rfl⟩
abbrev mX7_orders : az_Md := (yX7_orders, cX7_orders, 4, (some .int))
set_option maxRecDepth 100000 in
theorem knX7_orders : az_kn mX7_orders := ⟨az_tw 780 rfl rfl, by decide, ⟨by decide, by decide⟩, az_tw 64 rfl rfl, by decide⟩
set_option maxRecDepth 100000 in
theorem kvX7_orders : az_kv mX7_orders := ⟨knX7_orders, az_tw 778 rfl rfl, az_tw 779 rfl rfl⟩
abbrev mX7_bowlsFault : az_Md := (yX7_bowlsFault, cX7_bowlsFault, 4, (some .int))
set_option maxRecDepth 100000 in
theorem knX7_bowlsFault : az_kn mX7_bowlsFault := ⟨az_tw 784 rfl rfl, by decide, ⟨by decide, by decide⟩, az_tw 64 rfl rfl, by decide⟩
set_option maxRecDepth 100000 in
theorem kvX7_bowlsFault : az_kv mX7_bowlsFault := ⟨knX7_bowlsFault, az_tw 783 rfl rfl, az_tw 16 rfl rfl⟩
abbrev mX0_countOrders : az_Md := (yX0_countOrders, cX0_countOrders, 7, (some .int))
set_option maxRecDepth 100000 in
theorem knX0_countOrders : az_kn mX0_countOrders := ⟨az_tw 788 rfl rfl, by decide, ⟨by decide, by decide⟩, az_tw 69 rfl rfl, by decide⟩
set_option maxRecDepth 100000 in
theorem kvX0_countOrders : az_kv mX0_countOrders := ⟨knX0_countOrders, az_tw 786 rfl rfl, az_tw 787 rfl rfl⟩
abbrev mX7_next : az_Md := (yX7_next, cX7_next, 4, (some .int))
set_option maxRecDepth 100000 in
theorem knX7_next : az_kn mX7_next := ⟨az_tw 792 rfl rfl, by decide, ⟨by decide, by decide⟩, az_tw 64 rfl rfl, by decide⟩
set_option maxRecDepth 100000 in
theorem kvX7_next : az_kv mX7_next := ⟨knX7_next, az_tw 790 rfl rfl, az_tw 791 rfl rfl⟩
abbrev mX0_bestTwo : az_Md := (yX0_bestTwo, cX0_bestTwo, 8, (some .int))
set_option maxRecDepth 100000 in
theorem knX0_bestTwo : az_kn mX0_bestTwo := ⟨az_tw 796 rfl rfl, by decide, ⟨by decide, by decide⟩, az_tw 69 rfl rfl, by decide⟩
set_option maxRecDepth 100000 in
theorem kvX0_bestTwo : az_kv mX0_bestTwo := ⟨knX0_bestTwo, az_tw 794 rfl rfl, az_tw 795 rfl rfl⟩
abbrev mX7_mayBe : az_Md := (yX7_mayBe, cX7_mayBe, 4, (some .int))
set_option maxRecDepth 100000 in
theorem knX7_mayBe : az_kn mX7_mayBe := ⟨az_tw 801 rfl rfl, by decide, ⟨by decide, by decide⟩, az_tw 64 rfl rfl, by decide⟩
set_option maxRecDepth 100000 in
theorem kvX7_mayBe : az_kv mX7_mayBe := ⟨knX7_mayBe, az_tw 799 rfl rfl, az_tw 800 rfl rfl⟩
abbrev mX0_underNobody : az_Md := (yX0_underNobody, cX0_underNobody, 3, (some .int))
set_option maxRecDepth 100000 in
theorem knX0_underNobody : az_kn mX0_underNobody := ⟨az_tw 805 rfl rfl, by decide, ⟨by decide, by decide⟩, az_tw 69 rfl rfl, by decide⟩
set_option maxRecDepth 100000 in
theorem kvX0_underNobody : az_kv mX0_underNobody := ⟨knX0_underNobody, az_tw 803 rfl rfl, az_tw 804 rfl rfl⟩
abbrev mX7_wrongBowls : az_Md := (yX7_wrongBowls, cX7_wrongBowls, 8, (some .int))
set_option maxRecDepth 100000 in
theorem knX7_wrongBowls : az_kn mX7_wrongBowls := ⟨az_tw 809 rfl rfl, by decide, ⟨by decide, by decide⟩, az_tw 64 rfl rfl, by decide⟩
set_option maxRecDepth 100000 in
theorem kvX7_wrongBowls : az_kv mX7_wrongBowls := ⟨knX7_wrongBowls, az_tw 807 rfl rfl, az_tw 808 rfl rfl⟩
abbrev mX7_byTurns : az_Md := (yX7_byTurns, cX7_byTurns, 2, (some .int))
set_option maxRecDepth 100000 in
theorem knX7_byTurns : az_kn mX7_byTurns := ⟨az_tw 814 rfl rfl, by decide, ⟨by decide, by decide⟩, az_tw 64 rfl rfl, by decide⟩
set_option maxRecDepth 100000 in
theorem kvX7_byTurns : az_kv mX7_byTurns := ⟨knX7_byTurns, az_tw 812 rfl rfl, az_tw 813 rfl rfl⟩
abbrev mX6_canMakeSo : az_Md := (yX6_canMakeSo, cX6_canMakeSo, 4, (some .boolean))
set_option maxRecDepth 100000 in
theorem knX6_canMakeSo : az_kn mX6_canMakeSo := ⟨az_tw 818 rfl rfl, by decide, ⟨by decide, by decide⟩, az_tw 68 rfl rfl, by decide⟩
set_option maxRecDepth 100000 in
theorem kvX6_canMakeSo : az_kv mX6_canMakeSo := ⟨knX6_canMakeSo, az_tw 816 rfl rfl, az_tw 817 rfl rfl⟩
abbrev mX6_comesSo : az_Md := (yX6_comesSo, cX6_comesSo, 5, (some .boolean))
set_option maxRecDepth 100000 in
theorem knX6_comesSo : az_kn mX6_comesSo := ⟨az_tw 824 rfl rfl, by decide, ⟨by decide, by decide⟩, az_tw 68 rfl rfl, by decide⟩
set_option maxRecDepth 100000 in
theorem kvX6_comesSo : az_kv mX6_comesSo := ⟨knX6_comesSo, az_tw 823 rfl rfl, az_tw 17 rfl rfl⟩
abbrev mX6_endsSo : az_Md := (yX6_endsSo, cX6_endsSo, 3, (some .boolean))
set_option maxRecDepth 100000 in
theorem knX6_endsSo : az_kn mX6_endsSo := ⟨az_tw 828 rfl rfl, by decide, ⟨by decide, by decide⟩, az_tw 68 rfl rfl, by decide⟩
set_option maxRecDepth 100000 in
theorem kvX6_endsSo : az_kv mX6_endsSo := ⟨knX6_endsSo, az_tw 827 rfl rfl, az_tw 18 rfl rfl⟩
abbrev mX6_comesSoBy : az_Md := (yX6_comesSoBy, cX6_comesSoBy, 8, (some .boolean))
set_option maxRecDepth 100000 in
theorem knX6_comesSoBy : az_kn mX6_comesSoBy := ⟨az_tw 833 rfl rfl, by decide, ⟨by decide, by decide⟩, az_tw 68 rfl rfl, by decide⟩
set_option maxRecDepth 100000 in
theorem kvX6_comesSoBy : az_kv mX6_comesSoBy := ⟨knX6_comesSoBy, az_tw 832 rfl rfl, az_tw 19 rfl rfl⟩
abbrev mX7_odds : az_Md := (yX7_odds, cX7_odds, 3, (some .int))
set_option maxRecDepth 100000 in
theorem knX7_odds : az_kn mX7_odds := ⟨az_tw 837 rfl rfl, by decide, ⟨by decide, by decide⟩, az_tw 64 rfl rfl, by decide⟩
set_option maxRecDepth 100000 in
theorem kvX7_odds : az_kv mX7_odds := ⟨knX7_odds, az_tw 835 rfl rfl, az_tw 836 rfl rfl⟩
abbrev mX1_spread : az_Md := (yX1_spread, cX1_spread, 4, (Option.none : Option ClassFile.FieldType))
set_option maxRecDepth 100000 in
theorem knX1_spread : az_kn mX1_spread := ⟨az_tw 841 rfl rfl, by decide, ⟨by decide, by decide⟩, az_tw 67 rfl rfl, by decide⟩
set_option maxRecDepth 100000 in
theorem kvX1_spread : az_kv mX1_spread := ⟨knX1_spread, az_tw 839 rfl rfl, az_tw 840 rfl rfl⟩
abbrev mX1_dropSoWays : az_Md := (yX1_dropSoWays, cX1_dropSoWays, 2, (Option.none : Option ClassFile.FieldType))
set_option maxRecDepth 100000 in
theorem knX1_dropSoWays : az_kn mX1_dropSoWays := ⟨az_tw 848 rfl rfl, by decide, ⟨by decide, by decide⟩, az_tw 67 rfl rfl, by decide⟩
set_option maxRecDepth 100000 in
theorem kvX1_dropSoWays : az_kv mX1_dropSoWays := ⟨knX1_dropSoWays, az_tw 847 rfl rfl, az_tw 20 rfl rfl⟩
abbrev mX1_fallOnce : az_Md := (yX1_fallOnce, cX1_fallOnce, 4, (Option.none : Option ClassFile.FieldType))
set_option maxRecDepth 100000 in
theorem knX1_fallOnce : az_kn mX1_fallOnce := ⟨az_tw 852 rfl rfl, by decide, ⟨by decide, by decide⟩, az_tw 67 rfl rfl, by decide⟩
set_option maxRecDepth 100000 in
theorem ksX1_fallOnce : az_ks mX1_fallOnce := ⟨knX1_fallOnce, az_tw 851 rfl rfl⟩
abbrev mX1_likely : az_Md := (yX1_likely, cX1_likely, 3, (some .int))
set_option maxRecDepth 100000 in
theorem knX1_likely : az_kn mX1_likely := ⟨az_tw 858 rfl rfl, by decide, ⟨by decide, by decide⟩, az_tw 67 rfl rfl, by decide⟩
set_option maxRecDepth 100000 in
theorem kvX1_likely : az_kv mX1_likely := ⟨knX1_likely, az_tw 856 rfl rfl, az_tw 857 rfl rfl⟩
abbrev mX1_meanAir : az_Md := (yX1_meanAir, cX1_meanAir, 4, (some .int))
set_option maxRecDepth 100000 in
theorem knX1_meanAir : az_kn mX1_meanAir := ⟨az_tw 863 rfl rfl, by decide, ⟨by decide, by decide⟩, az_tw 67 rfl rfl, by decide⟩
set_option maxRecDepth 100000 in
theorem kvX1_meanAir : az_kv mX1_meanAir := ⟨knX1_meanAir, az_tw 861 rfl rfl, az_tw 862 rfl rfl⟩
abbrev mX7_warmest : az_Md := (yX7_warmest, cX7_warmest, 3, (some .int))
set_option maxRecDepth 100000 in
theorem knX7_warmest : az_kn mX7_warmest := ⟨az_tw 868 rfl rfl, by decide, ⟨by decide, by decide⟩, az_tw 64 rfl rfl, by decide⟩
set_option maxRecDepth 100000 in
theorem kvX7_warmest : az_kv mX7_warmest := ⟨knX7_warmest, az_tw 866 rfl rfl, az_tw 867 rfl rfl⟩
abbrev mX7_brandyFor : az_Md := (yX7_brandyFor, cX7_brandyFor, 4, (some .int))
set_option maxRecDepth 100000 in
theorem knX7_brandyFor : az_kn mX7_brandyFor := ⟨az_tw 872 rfl rfl, by decide, ⟨by decide, by decide⟩, az_tw 64 rfl rfl, by decide⟩
set_option maxRecDepth 100000 in
theorem kvX7_brandyFor : az_kv mX7_brandyFor := ⟨knX7_brandyFor, az_tw 870 rfl rfl, az_tw 871 rfl rfl⟩
abbrev mX7_fallFor : az_Md := (yX7_fallFor, cX7_fallFor, 4, (some .int))
set_option maxRecDepth 100000 in
theorem knX7_fallFor : az_kn mX7_fallFor := ⟨az_tw 876 rfl rfl, by decide, ⟨by decide, by decide⟩, az_tw 64 rfl rfl, by decide⟩
set_option maxRecDepth 100000 in
theorem kvX7_fallFor : az_kv mX7_fallFor := ⟨knX7_fallFor, az_tw 874 rfl rfl, az_tw 875 rfl rfl⟩
abbrev mX7_holdsOut : az_Md := (yX7_holdsOut, cX7_holdsOut, 2, (some .int))
set_option maxRecDepth 100000 in
theorem knX7_holdsOut : az_kn mX7_holdsOut := ⟨az_tw 880 rfl rfl, by decide, ⟨by decide, by decide⟩, az_tw 64 rfl rfl, by decide⟩
set_option maxRecDepth 100000 in
theorem kvX7_holdsOut : az_kv mX7_holdsOut := ⟨knX7_holdsOut, az_tw 878 rfl rfl, az_tw 879 rfl rfl⟩
abbrev mX3_firstHeard : az_Md := (yX3_firstHeard, cX3_firstHeard, 4, (some .int))
set_option maxRecDepth 100000 in
theorem knX3_firstHeard : az_kn mX3_firstHeard := ⟨az_tw 884 rfl rfl, by decide, ⟨by decide, by decide⟩, az_tw 66 rfl rfl, by decide⟩
set_option maxRecDepth 100000 in
theorem kvX3_firstHeard : az_kv mX3_firstHeard := ⟨knX3_firstHeard, az_tw 882 rfl rfl, az_tw 883 rfl rfl⟩
abbrev mX7_toughest : az_Md := (yX7_toughest, cX7_toughest, 2, (some .int))
set_option maxRecDepth 100000 in
theorem knX7_toughest : az_kn mX7_toughest := ⟨az_tw 889 rfl rfl, by decide, ⟨by decide, by decide⟩, az_tw 64 rfl rfl, by decide⟩
set_option maxRecDepth 100000 in
theorem kvX7_toughest : az_kv mX7_toughest := ⟨knX7_toughest, az_tw 887 rfl rfl, az_tw 888 rfl rfl⟩
abbrev mX3_bestHolder : az_Md := (yX3_bestHolder, cX3_bestHolder, 7, (some .int))
set_option maxRecDepth 100000 in
theorem knX3_bestHolder : az_kn mX3_bestHolder := ⟨az_tw 893 rfl rfl, by decide, ⟨by decide, by decide⟩, az_tw 66 rfl rfl, by decide⟩
set_option maxRecDepth 100000 in
theorem kvX3_bestHolder : az_kv mX3_bestHolder := ⟨knX3_bestHolder, az_tw 891 rfl rfl, az_tw 892 rfl rfl⟩
abbrev mX7_shivering : az_Md := (yX7_shivering, cX7_shivering, 3, (some .int))
set_option maxRecDepth 100000 in
theorem knX7_shivering : az_kn mX7_shivering := ⟨az_tw 898 rfl rfl, by decide, ⟨by decide, by decide⟩, az_tw 64 rfl rfl, by decide⟩
set_option maxRecDepth 100000 in
theorem kvX7_shivering : az_kv mX7_shivering := ⟨knX7_shivering, az_tw 896 rfl rfl, az_tw 897 rfl rfl⟩
abbrev mX7_lead : az_Md := (yX7_lead, cX7_lead, 3, (some .int))
set_option maxRecDepth 100000 in
theorem knX7_lead : az_kn mX7_lead := ⟨az_tw 902 rfl rfl, by decide, ⟨by decide, by decide⟩, az_tw 64 rfl rfl, by decide⟩
set_option maxRecDepth 100000 in
theorem kvX7_lead : az_kv mX7_lead := ⟨knX7_lead, az_tw 900 rfl rfl, az_tw 901 rfl rfl⟩
abbrev mX7_quiet : az_Md := (yX7_quiet, cX7_quiet, 1, (some .int))
set_option maxRecDepth 100000 in
theorem knX7_quiet : az_kn mX7_quiet := ⟨az_tw 906 rfl rfl, by decide, ⟨by decide, by decide⟩, az_tw 64 rfl rfl, by decide⟩
set_option maxRecDepth 100000 in
theorem kvX7_quiet : az_kv mX7_quiet := ⟨knX7_quiet, az_tw 904 rfl rfl, az_tw 905 rfl rfl⟩
abbrev mX3_feedAllQuiet : az_Md := (yX3_feedAllQuiet, cX3_feedAllQuiet, 4, (some .int))
set_option maxRecDepth 100000 in
theorem knX3_feedAllQuiet : az_kn mX3_feedAllQuiet := ⟨az_tw 910 rfl rfl, by decide, ⟨by decide, by decide⟩, az_tw 66 rfl rfl, by decide⟩
set_option maxRecDepth 100000 in
theorem kvX3_feedAllQuiet : az_kv mX3_feedAllQuiet := ⟨knX3_feedAllQuiet, az_tw 908 rfl rfl, az_tw 909 rfl rfl⟩
abbrev mX7_second : az_Md := (yX7_second, cX7_second, 3, (some .int))
set_option maxRecDepth 100000 in
theorem knX7_second : az_kn mX7_second := ⟨az_tw 914 rfl rfl, by decide, ⟨by decide, by decide⟩, az_tw 64 rfl rfl, by decide⟩
set_option maxRecDepth 100000 in
theorem kvX7_second : az_kv mX7_second := ⟨knX7_second, az_tw 912 rfl rfl, az_tw 913 rfl rfl⟩
abbrev mX7_gap : az_Md := (yX7_gap, cX7_gap, 4, (some .int))
set_option maxRecDepth 100000 in
theorem knX7_gap : az_kn mX7_gap := ⟨az_tw 919 rfl rfl, by decide, ⟨by decide, by decide⟩, az_tw 64 rfl rfl, by decide⟩
set_option maxRecDepth 100000 in
theorem kvX7_gap : az_kv mX7_gap := ⟨knX7_gap, az_tw 917 rfl rfl, az_tw 918 rfl rfl⟩
abbrev mX7_bites : az_Md := (yX7_bites, cX7_bites, 4, (some .int))
set_option maxRecDepth 100000 in
theorem knX7_bites : az_kn mX7_bites := ⟨az_tw 923 rfl rfl, by decide, ⟨by decide, by decide⟩, az_tw 64 rfl rfl, by decide⟩
set_option maxRecDepth 100000 in
theorem kvX7_bites : az_kv mX7_bites := ⟨knX7_bites, az_tw 921 rfl rfl, az_tw 922 rfl rfl⟩
abbrev mX7_all : az_Md := (yX7_all, cX7_all, 2, (some .int))
set_option maxRecDepth 100000 in
theorem knX7_all : az_kn mX7_all := ⟨az_tw 927 rfl rfl, by decide, ⟨by decide, by decide⟩, az_tw 64 rfl rfl, by decide⟩
set_option maxRecDepth 100000 in
theorem kvX7_all : az_kv mX7_all := ⟨knX7_all, az_tw 925 rfl rfl, az_tw 926 rfl rfl⟩
abbrev mX3_leastForEach : az_Md := (yX3_leastForEach, cX3_leastForEach, 5, (some .int))
set_option maxRecDepth 100000 in
theorem knX3_leastForEach : az_kn mX3_leastForEach := ⟨az_tw 931 rfl rfl, by decide, ⟨by decide, by decide⟩, az_tw 66 rfl rfl, by decide⟩
set_option maxRecDepth 100000 in
theorem kvX3_leastForEach : az_kv mX3_leastForEach := ⟨knX3_leastForEach, az_tw 929 rfl rfl, az_tw 930 rfl rfl⟩
abbrev mX7_ofKind : az_Md := (yX7_ofKind, cX7_ofKind, 2, (some .int))
set_option maxRecDepth 100000 in
theorem knX7_ofKind : az_kn mX7_ofKind := ⟨az_tw 935 rfl rfl, by decide, ⟨by decide, by decide⟩, az_tw 64 rfl rfl, by decide⟩
set_option maxRecDepth 100000 in
theorem kvX7_ofKind : az_kv mX7_ofKind := ⟨knX7_ofKind, az_tw 933 rfl rfl, az_tw 934 rfl rfl⟩
abbrev mX2_countOf : az_Md := (yX2_countOf, cX2_countOf, 4, (some .int))
set_option maxRecDepth 100000 in
theorem knX2_countOf : az_kn mX2_countOf := ⟨az_tw 939 rfl rfl, by decide, ⟨by decide, by decide⟩, az_tw 65 rfl rfl, by decide⟩
set_option maxRecDepth 100000 in
theorem kvX2_countOf : az_kv mX2_countOf := ⟨knX2_countOf, az_tw 937 rfl rfl, az_tw 938 rfl rfl⟩
abbrev mX7_judge : az_Md := (yX7_judge, cX7_judge, 4, (some .int))
set_option maxRecDepth 100000 in
theorem knX7_judge : az_kn mX7_judge := ⟨az_tw 943 rfl rfl, by decide, ⟨by decide, by decide⟩, az_tw 64 rfl rfl, by decide⟩
set_option maxRecDepth 100000 in
theorem kvX7_judge : az_kv mX7_judge := ⟨knX7_judge, az_tw 941 rfl rfl, az_tw 942 rfl rfl⟩
abbrev mX3_firstWrong : az_Md := (yX3_firstWrong, cX3_firstWrong, 5, (some .int))
set_option maxRecDepth 100000 in
theorem knX3_firstWrong : az_kn mX3_firstWrong := ⟨az_tw 947 rfl rfl, by decide, ⟨by decide, by decide⟩, az_tw 66 rfl rfl, by decide⟩
set_option maxRecDepth 100000 in
theorem kvX3_firstWrong : az_kv mX3_firstWrong := ⟨knX3_firstWrong, az_tw 945 rfl rfl, az_tw 946 rfl rfl⟩
abbrev mX7_days : az_Md := (yX7_days, cX7_days, 3, (some .int))
set_option maxRecDepth 100000 in
theorem knX7_days : az_kn mX7_days := ⟨az_tw 952 rfl rfl, by decide, ⟨by decide, by decide⟩, az_tw 64 rfl rfl, by decide⟩
set_option maxRecDepth 100000 in
theorem kvX7_days : az_kv mX7_days := ⟨knX7_days, az_tw 950 rfl rfl, az_tw 951 rfl rfl⟩
abbrev mX2_passDay : az_Md := (yX2_passDay, cX2_passDay, 1, (Option.none : Option ClassFile.FieldType))
set_option maxRecDepth 100000 in
theorem knX2_passDay : az_kn mX2_passDay := ⟨az_tw 956 rfl rfl, by decide, ⟨by decide, by decide⟩, az_tw 65 rfl rfl, by decide⟩
set_option maxRecDepth 100000 in
theorem kvX2_passDay : az_kv mX2_passDay := ⟨knX2_passDay, az_tw 954 rfl rfl, az_tw 955 rfl rfl⟩
abbrev mX7_drawn : az_Md := (yX7_drawn, cX7_drawn, 4, (some .int))
set_option maxRecDepth 100000 in
theorem knX7_drawn : az_kn mX7_drawn := ⟨az_tw 960 rfl rfl, by decide, ⟨by decide, by decide⟩, az_tw 64 rfl rfl, by decide⟩
set_option maxRecDepth 100000 in
theorem kvX7_drawn : az_kv mX7_drawn := ⟨knX7_drawn, az_tw 958 rfl rfl, az_tw 959 rfl rfl⟩
abbrev mX2_drawBelow : az_Md := (yX2_drawBelow, cX2_drawBelow, 2, (some .int))
set_option maxRecDepth 100000 in
theorem knX2_drawBelow : az_kn mX2_drawBelow := ⟨az_tw 964 rfl rfl, by decide, ⟨by decide, by decide⟩, az_tw 65 rfl rfl, by decide⟩
set_option maxRecDepth 100000 in
theorem kvX2_drawBelow : az_kv mX2_drawBelow := ⟨knX2_drawBelow, az_tw 962 rfl rfl, az_tw 963 rfl rfl⟩
abbrev mX7_seed : az_Md := (yX7_seed, cX7_seed, 3, (some .int))
set_option maxRecDepth 100000 in
theorem knX7_seed : az_kn mX7_seed := ⟨az_tw 970 rfl rfl, by decide, ⟨by decide, by decide⟩, az_tw 64 rfl rfl, by decide⟩
set_option maxRecDepth 100000 in
theorem kvX7_seed : az_kv mX7_seed := ⟨knX7_seed, az_tw 968 rfl rfl, az_tw 969 rfl rfl⟩
abbrev mX7_image : az_Md := (yX7_image, cX7_image, 1, (some .int))
set_option maxRecDepth 100000 in
theorem knX7_image : az_kn mX7_image := ⟨az_tw 974 rfl rfl, by decide, ⟨by decide, by decide⟩, az_tw 64 rfl rfl, by decide⟩
set_option maxRecDepth 100000 in
theorem kvX7_image : az_kv mX7_image := ⟨knX7_image, az_tw 972 rfl rfl, az_tw 973 rfl rfl⟩
abbrev mX7_back : az_Md := (yX7_back, cX7_back, 2, (some .int))
set_option maxRecDepth 100000 in
theorem knX7_back : az_kn mX7_back := ⟨az_tw 978 rfl rfl, by decide, ⟨by decide, by decide⟩, az_tw 64 rfl rfl, by decide⟩
set_option maxRecDepth 100000 in
theorem kvX7_back : az_kv mX7_back := ⟨knX7_back, az_tw 976 rfl rfl, az_tw 977 rfl rfl⟩
abbrev mX7_status : az_Md := (yX7_status, cX7_status, 2, (some .int))
set_option maxRecDepth 100000 in
theorem knX7_status : az_kn mX7_status := ⟨az_tw 982 rfl rfl, by decide, ⟨by decide, by decide⟩, az_tw 64 rfl rfl, by decide⟩
set_option maxRecDepth 100000 in
theorem kvX7_status : az_kv mX7_status := ⟨knX7_status, az_tw 980 rfl rfl, az_tw 981 rfl rfl⟩
abbrev mX2_allFed : az_Md := (yX2_allFed, cX2_allFed, 3, (some .int))
set_option maxRecDepth 100000 in
theorem knX2_allFed : az_kn mX2_allFed := ⟨az_tw 986 rfl rfl, by decide, ⟨by decide, by decide⟩, az_tw 65 rfl rfl, by decide⟩
set_option maxRecDepth 100000 in
theorem kvX2_allFed : az_kv mX2_allFed := ⟨knX2_allFed, az_tw 984 rfl rfl, az_tw 985 rfl rfl⟩
abbrev mX7_shelvesInUse : az_Md := (yX7_shelvesInUse, cX7_shelvesInUse, 3, (some .int))
set_option maxRecDepth 100000 in
theorem knX7_shelvesInUse : az_kn mX7_shelvesInUse := ⟨az_tw 990 rfl rfl, by decide, ⟨by decide, by decide⟩, az_tw 64 rfl rfl, by decide⟩
set_option maxRecDepth 100000 in
theorem kvX7_shelvesInUse : az_kv mX7_shelvesInUse := ⟨knX7_shelvesInUse, az_tw 989 rfl rfl, az_tw 21 rfl rfl⟩
abbrev mX8_init : az_Md := (yX8_init, cX8_init, 1, (Option.none : Option ClassFile.FieldType))
set_option maxRecDepth 100000 in
theorem knX8_init : az_kn mX8_init := ⟨az_tw 995 rfl rfl, by decide, ⟨by decide, by decide⟩, az_tw 72 rfl rfl, by decide⟩
set_option maxRecDepth 100000 in
theorem kiX8_init : az_ki mX8_init := ⟨knX8_init, az_tw 994 rfl rfl, rfl, rfl⟩
abbrev mX8_row : az_Md := (yX8_row, cX8_row, 5, (some .int))
set_option maxRecDepth 100000 in
theorem knX8_row : az_kn mX8_row := ⟨az_tw 1131 rfl rfl, by decide, ⟨by decide, by decide⟩, az_tw 72 rfl rfl, by decide⟩
set_option maxRecDepth 100000 in
theorem kvX8_row : az_kv mX8_row := ⟨knX8_row, az_tw 1129 rfl rfl, az_tw 1130 rfl rfl⟩
abbrev mX8_in : az_Md := (yX8_in, cX8_in, 6, (some .boolean))
set_option maxRecDepth 100000 in
theorem knX8_in : az_kn mX8_in := ⟨az_tw 1135 rfl rfl, by decide, ⟨by decide, by decide⟩, az_tw 72 rfl rfl, by decide⟩
set_option maxRecDepth 100000 in
theorem ksX8_in : az_ks mX8_in := ⟨knX8_in, az_tw 1134 rfl rfl⟩
abbrev mX8_refuse : az_Md := (yX8_refuse, cX8_refuse, 2, (some .int))
set_option maxRecDepth 100000 in
theorem knX8_refuse : az_kn mX8_refuse := ⟨az_tw 1141 rfl rfl, by decide, ⟨by decide, by decide⟩, az_tw 72 rfl rfl, by decide⟩
set_option maxRecDepth 100000 in
theorem kvX8_refuse : az_kv mX8_refuse := ⟨knX8_refuse, az_tw 1140 rfl rfl, az_tw 22 rfl rfl⟩
abbrev mX8_set : az_Md := (yX8_set, cX8_set, 6, (some .int))
set_option maxRecDepth 100000 in
theorem knX8_set : az_kn mX8_set := ⟨az_tw 1145 rfl rfl, by decide, ⟨by decide, by decide⟩, az_tw 72 rfl rfl, by decide⟩
set_option maxRecDepth 100000 in
theorem kvX8_set : az_kv mX8_set := ⟨knX8_set, az_tw 1143 rfl rfl, az_tw 1144 rfl rfl⟩
abbrev mX8_noRow : az_Md := (yX8_noRow, cX8_noRow, 2, (some .int))
set_option maxRecDepth 100000 in
theorem knX8_noRow : az_kn mX8_noRow := ⟨az_tw 1149 rfl rfl, by decide, ⟨by decide, by decide⟩, az_tw 72 rfl rfl, by decide⟩
set_option maxRecDepth 100000 in
theorem kvX8_noRow : az_kv mX8_noRow := ⟨knX8_noRow, az_tw 1148 rfl rfl, az_tw 23 rfl rfl⟩
abbrev mX8_fit : az_Md := (yX8_fit, cX8_fit, 3, (some .long))
set_option maxRecDepth 100000 in
theorem knX8_fit : az_kn mX8_fit := ⟨az_tw 1152 rfl rfl, by decide, ⟨by decide, by decide⟩, az_tw 72 rfl rfl, by decide⟩
set_option maxRecDepth 100000 in
theorem ksX8_fit : az_ks mX8_fit := ⟨knX8_fit, az_tw 1151 rfl rfl⟩
abbrev mX8_copy : az_Md := (yX8_copy, cX8_copy, 7, (some .int))
set_option maxRecDepth 100000 in
theorem knX8_copy : az_kn mX8_copy := ⟨az_tw 1156 rfl rfl, by decide, ⟨by decide, by decide⟩, az_tw 72 rfl rfl, by decide⟩
set_option maxRecDepth 100000 in
theorem kvX8_copy : az_kv mX8_copy := ⟨knX8_copy, az_tw 1154 rfl rfl, az_tw 1155 rfl rfl⟩
abbrev mX8_element : az_Md := (yX8_element, cX8_element, 3, (some .long))
set_option maxRecDepth 100000 in
theorem knX8_element : az_kn mX8_element := ⟨az_tw 1160 rfl rfl, by decide, ⟨by decide, by decide⟩, az_tw 72 rfl rfl, by decide⟩
set_option maxRecDepth 100000 in
theorem kvX8_element : az_kv mX8_element := ⟨knX8_element, az_tw 1158 rfl rfl, az_tw 1159 rfl rfl⟩
abbrev mX8_holds : az_Md := (yX8_holds, cX8_holds, 2, (some .int))
set_option maxRecDepth 100000 in
theorem knX8_holds : az_kn mX8_holds := ⟨az_tw 1164 rfl rfl, by decide, ⟨by decide, by decide⟩, az_tw 72 rfl rfl, by decide⟩
set_option maxRecDepth 100000 in
theorem kvX8_holds : az_kv mX8_holds := ⟨knX8_holds, az_tw 1162 rfl rfl, az_tw 1163 rfl rfl⟩
abbrev mX8_show : az_Md := (yX8_show, cX8_show, 3, (some .int))
set_option maxRecDepth 100000 in
theorem knX8_show : az_kn mX8_show := ⟨az_tw 1168 rfl rfl, by decide, ⟨by decide, by decide⟩, az_tw 72 rfl rfl, by decide⟩
set_option maxRecDepth 100000 in
theorem kvX8_show : az_kv mX8_show := ⟨knX8_show, az_tw 1166 rfl rfl, az_tw 1167 rfl rfl⟩
abbrev mX8_isPerson : az_Md := (yX8_isPerson, cX8_isPerson, 3, (some .boolean))
set_option maxRecDepth 100000 in
theorem knX8_isPerson : az_kn mX8_isPerson := ⟨az_tw 1172 rfl rfl, by decide, ⟨by decide, by decide⟩, az_tw 72 rfl rfl, by decide⟩
set_option maxRecDepth 100000 in
theorem kvX8_isPerson : az_kv mX8_isPerson := ⟨knX8_isPerson, az_tw 1171 rfl rfl, az_tw 24 rfl rfl⟩
abbrev mX8_says : az_Md := (yX8_says, cX8_says, 3, (some .int))
set_option maxRecDepth 100000 in
theorem knX8_says : az_kn mX8_says := ⟨az_tw 1176 rfl rfl, by decide, ⟨by decide, by decide⟩, az_tw 72 rfl rfl, by decide⟩
set_option maxRecDepth 100000 in
theorem kvX8_says : az_kv mX8_says := ⟨knX8_says, az_tw 1174 rfl rfl, az_tw 1175 rfl rfl⟩
abbrev mX8_isUnder : az_Md := (yX8_isUnder, cX8_isUnder, 2, (some .boolean))
set_option maxRecDepth 100000 in
theorem knX8_isUnder : az_kn mX8_isUnder := ⟨az_tw 1180 rfl rfl, by decide, ⟨by decide, by decide⟩, az_tw 72 rfl rfl, by decide⟩
set_option maxRecDepth 100000 in
theorem ksX8_isUnder : az_ks mX8_isUnder := ⟨knX8_isUnder, az_tw 1179 rfl rfl⟩
abbrev mX8_cold : az_Md := (yX8_cold, cX8_cold, 3, (some .int))
set_option maxRecDepth 100000 in
theorem knX8_cold : az_kn mX8_cold := ⟨az_tw 1184 rfl rfl, by decide, ⟨by decide, by decide⟩, az_tw 72 rfl rfl, by decide⟩
set_option maxRecDepth 100000 in
theorem kvX8_cold : az_kv mX8_cold := ⟨knX8_cold, az_tw 1183 rfl rfl, az_tw 25 rfl rfl⟩
abbrev mX8_held : az_Md := (yX8_held, cX8_held, 1, (some .int))
set_option maxRecDepth 100000 in
theorem knX8_held : az_kn mX8_held := ⟨az_tw 1187 rfl rfl, by decide, ⟨by decide, by decide⟩, az_tw 72 rfl rfl, by decide⟩
set_option maxRecDepth 100000 in
theorem ksX8_held : az_ks mX8_held := ⟨knX8_held, az_tw 1186 rfl rfl⟩
abbrev mX8_isLoved : az_Md := (yX8_isLoved, cX8_isLoved, 3, (some .boolean))
set_option maxRecDepth 100000 in
theorem knX8_isLoved : az_kn mX8_isLoved := ⟨az_tw 1191 rfl rfl, by decide, ⟨by decide, by decide⟩, az_tw 72 rfl rfl, by decide⟩
set_option maxRecDepth 100000 in
theorem kvX8_isLoved : az_kv mX8_isLoved := ⟨knX8_isLoved, az_tw 1190 rfl rfl, az_tw 26 rfl rfl⟩
abbrev mX8_person : az_Md := (yX8_person, cX8_person, 4, (some .int))
set_option maxRecDepth 100000 in
theorem knX8_person : az_kn mX8_person := ⟨az_tw 1195 rfl rfl, by decide, ⟨by decide, by decide⟩, az_tw 72 rfl rfl, by decide⟩
set_option maxRecDepth 100000 in
theorem kvX8_person : az_kv mX8_person := ⟨knX8_person, az_tw 1193 rfl rfl, az_tw 1194 rfl rfl⟩
abbrev mX8_addPerson : az_Md := (yX8_addPerson, cX8_addPerson, 4, (Option.none : Option ClassFile.FieldType))
set_option maxRecDepth 100000 in
theorem knX8_addPerson : az_kn mX8_addPerson := ⟨az_tw 1201 rfl rfl, by decide, ⟨by decide, by decide⟩, az_tw 72 rfl rfl, by decide⟩
set_option maxRecDepth 100000 in
theorem kvX8_addPerson : az_kv mX8_addPerson := ⟨knX8_addPerson, az_tw 1200 rfl rfl, az_tw 27 rfl rfl⟩
abbrev mX8_give : az_Md := (yX8_give, cX8_give, 5, (some .int))
set_option maxRecDepth 100000 in
theorem knX8_give : az_kn mX8_give := ⟨az_tw 1205 rfl rfl, by decide, ⟨by decide, by decide⟩, az_tw 72 rfl rfl, by decide⟩
set_option maxRecDepth 100000 in
theorem kvX8_give : az_kv mX8_give := ⟨knX8_give, az_tw 1203 rfl rfl, az_tw 1204 rfl rfl⟩
abbrev mX8_tell : az_Md := (yX8_tell, cX8_tell, 4, (some .int))
set_option maxRecDepth 100000 in
theorem knX8_tell : az_kn mX8_tell := ⟨az_tw 1210 rfl rfl, by decide, ⟨by decide, by decide⟩, az_tw 72 rfl rfl, by decide⟩
set_option maxRecDepth 100000 in
theorem kvX8_tell : az_kv mX8_tell := ⟨knX8_tell, az_tw 1208 rfl rfl, az_tw 1209 rfl rfl⟩
abbrev mX8_thaw : az_Md := (yX8_thaw, cX8_thaw, 2, (some .int))
set_option maxRecDepth 100000 in
theorem knX8_thaw : az_kn mX8_thaw := ⟨az_tw 1216 rfl rfl, by decide, ⟨by decide, by decide⟩, az_tw 72 rfl rfl, by decide⟩
set_option maxRecDepth 100000 in
theorem kvX8_thaw : az_kv mX8_thaw := ⟨knX8_thaw, az_tw 1214 rfl rfl, az_tw 1215 rfl rfl⟩
abbrev mX8_feed : az_Md := (yX8_feed, cX8_feed, 2, (some .int))
set_option maxRecDepth 100000 in
theorem knX8_feed : az_kn mX8_feed := ⟨az_tw 1220 rfl rfl, by decide, ⟨by decide, by decide⟩, az_tw 72 rfl rfl, by decide⟩
set_option maxRecDepth 100000 in
theorem kvX8_feed : az_kv mX8_feed := ⟨knX8_feed, az_tw 1218 rfl rfl, az_tw 1219 rfl rfl⟩
abbrev mX8_wipe : az_Md := (yX8_wipe, cX8_wipe, 2, (some .int))
set_option maxRecDepth 100000 in
theorem knX8_wipe : az_kn mX8_wipe := ⟨az_tw 1225 rfl rfl, by decide, ⟨by decide, by decide⟩, az_tw 72 rfl rfl, by decide⟩
set_option maxRecDepth 100000 in
theorem kvX8_wipe : az_kv mX8_wipe := ⟨knX8_wipe, az_tw 1223 rfl rfl, az_tw 1224 rfl rfl⟩
abbrev mX8_country : az_Md := (yX8_country, cX8_country, 2, (some .int))
set_option maxRecDepth 100000 in
theorem knX8_country : az_kn mX8_country := ⟨az_tw 1229 rfl rfl, by decide, ⟨by decide, by decide⟩, az_tw 72 rfl rfl, by decide⟩
set_option maxRecDepth 100000 in
theorem kvX8_country : az_kv mX8_country := ⟨knX8_country, az_tw 1227 rfl rfl, az_tw 1228 rfl rfl⟩
abbrev mX8_takeFrom : az_Md := (yX8_takeFrom, cX8_takeFrom, 2, (Option.none : Option ClassFile.FieldType))
set_option maxRecDepth 100000 in
theorem knX8_takeFrom : az_kn mX8_takeFrom := ⟨az_tw 1235 rfl rfl, by decide, ⟨by decide, by decide⟩, az_tw 72 rfl rfl, by decide⟩
set_option maxRecDepth 100000 in
theorem kvX8_takeFrom : az_kv mX8_takeFrom := ⟨knX8_takeFrom, az_tw 1234 rfl rfl, az_tw 28 rfl rfl⟩
abbrev mX8_copied : az_Md := (yX8_copied, cX8_copied, 3, (Option.none : Option ClassFile.FieldType))
set_option maxRecDepth 100000 in
theorem knX8_copied : az_kn mX8_copied := ⟨az_tw 1238 rfl rfl, by decide, ⟨by decide, by decide⟩, az_tw 72 rfl rfl, by decide⟩
set_option maxRecDepth 100000 in
theorem ksX8_copied : az_ks mX8_copied := ⟨knX8_copied, az_tw 1237 rfl rfl⟩
abbrev mX8_readAll : az_Md := (yX8_readAll, cX8_readAll, 1, (some .boolean))
set_option maxRecDepth 100000 in
theorem knX8_readAll : az_kn mX8_readAll := ⟨az_tw 1242 rfl rfl, by decide, ⟨by decide, by decide⟩, az_tw 72 rfl rfl, by decide⟩
set_option maxRecDepth 100000 in
theorem kvX8_readAll : az_kv mX8_readAll := ⟨knX8_readAll, az_tw 1241 rfl rfl, az_tw 29 rfl rfl⟩
abbrev mX8_look : az_Md := (yX8_look, cX8_look, 1, (Option.none : Option ClassFile.FieldType))
set_option maxRecDepth 100000 in
theorem knX8_look : az_kn mX8_look := ⟨az_tw 1246 rfl rfl, by decide, ⟨by decide, by decide⟩, az_tw 72 rfl rfl, by decide⟩
set_option maxRecDepth 100000 in
theorem kvX8_look : az_kv mX8_look := ⟨knX8_look, az_tw 1245 rfl rfl, az_tw 30 rfl rfl⟩
abbrev mX8_isLetter : az_Md := (yX8_isLetter, cX8_isLetter, 1, (some .boolean))
set_option maxRecDepth 100000 in
theorem knX8_isLetter : az_kn mX8_isLetter := ⟨az_tw 1249 rfl rfl, by decide, ⟨by decide, by decide⟩, az_tw 72 rfl rfl, by decide⟩
set_option maxRecDepth 100000 in
theorem ksX8_isLetter : az_ks mX8_isLetter := ⟨knX8_isLetter, az_tw 1248 rfl rfl⟩
abbrev mX8_isDigit : az_Md := (yX8_isDigit, cX8_isDigit, 1, (some .boolean))
set_option maxRecDepth 100000 in
theorem knX8_isDigit : az_kn mX8_isDigit := ⟨az_tw 1252 rfl rfl, by decide, ⟨by decide, by decide⟩, az_tw 72 rfl rfl, by decide⟩
set_option maxRecDepth 100000 in
theorem ksX8_isDigit : az_ks mX8_isDigit := ⟨knX8_isDigit, az_tw 1251 rfl rfl⟩
abbrev mX8_statement : az_Md := (yX8_statement, cX8_statement, 2, (some .boolean))
set_option maxRecDepth 100000 in
theorem knX8_statement : az_kn mX8_statement := ⟨az_tw 1256 rfl rfl, by decide, ⟨by decide, by decide⟩, az_tw 72 rfl rfl, by decide⟩
set_option maxRecDepth 100000 in
theorem kvX8_statement : az_kv mX8_statement := ⟨knX8_statement, az_tw 1255 rfl rfl, az_tw 31 rfl rfl⟩
abbrev mX8_isWord : az_Md := (yX8_isWord, cX8_isWord, 3, (some .boolean))
set_option maxRecDepth 100000 in
theorem knX8_isWord : az_kn mX8_isWord := ⟨az_tw 1261 rfl rfl, by decide, ⟨by decide, by decide⟩, az_tw 72 rfl rfl, by decide⟩
set_option maxRecDepth 100000 in
theorem kvX8_isWord : az_kv mX8_isWord := ⟨knX8_isWord, az_tw 1260 rfl rfl, az_tw 32 rfl rfl⟩
abbrev mX8_tells : az_Md := (yX8_tells, cX8_tells, 3, (some .boolean))
set_option maxRecDepth 100000 in
theorem knX8_tells : az_kn mX8_tells := ⟨az_tw 1267 rfl rfl, by decide, ⟨by decide, by decide⟩, az_tw 72 rfl rfl, by decide⟩
set_option maxRecDepth 100000 in
theorem kvX8_tells : az_kv mX8_tells := ⟨knX8_tells, az_tw 1266 rfl rfl, az_tw 33 rfl rfl⟩
abbrev mX8_number : az_Md := (yX8_number, cX8_number, 4, (some .boolean))
set_option maxRecDepth 100000 in
theorem knX8_number : az_kn mX8_number := ⟨az_tw 1271 rfl rfl, by decide, ⟨by decide, by decide⟩, az_tw 72 rfl rfl, by decide⟩
set_option maxRecDepth 100000 in
theorem kvX8_number : az_kv mX8_number := ⟨knX8_number, az_tw 1270 rfl rfl, az_tw 34 rfl rfl⟩
abbrev mX8_wrong : az_Md := (yX8_wrong, cX8_wrong, 1, (some .boolean))
set_option maxRecDepth 100000 in
theorem knX8_wrong : az_kn mX8_wrong := ⟨az_tw 1275 rfl rfl, by decide, ⟨by decide, by decide⟩, az_tw 72 rfl rfl, by decide⟩
set_option maxRecDepth 100000 in
theorem kvX8_wrong : az_kv mX8_wrong := ⟨knX8_wrong, az_tw 1274 rfl rfl, az_tw 35 rfl rfl⟩
abbrev mX8_tellsOne : az_Md := (yX8_tellsOne, cX8_tellsOne, 3, (some .boolean))
set_option maxRecDepth 100000 in
theorem knX8_tellsOne : az_kn mX8_tellsOne := ⟨az_tw 1281 rfl rfl, by decide, ⟨by decide, by decide⟩, az_tw 72 rfl rfl, by decide⟩
set_option maxRecDepth 100000 in
theorem kvX8_tellsOne : az_kv mX8_tellsOne := ⟨knX8_tellsOne, az_tw 1280 rfl rfl, az_tw 36 rfl rfl⟩
abbrev mX8_personOf : az_Md := (yX8_personOf, cX8_personOf, 3, (some .int))
set_option maxRecDepth 100000 in
theorem knX8_personOf : az_kn mX8_personOf := ⟨az_tw 1289 rfl rfl, by decide, ⟨by decide, by decide⟩, az_tw 72 rfl rfl, by decide⟩
set_option maxRecDepth 100000 in
theorem kvX8_personOf : az_kv mX8_personOf := ⟨knX8_personOf, az_tw 1287 rfl rfl, az_tw 1288 rfl rfl⟩
abbrev mX8_limit : az_Md := (yX8_limit, cX8_limit, 2, (some .int))
set_option maxRecDepth 100000 in
theorem knX8_limit : az_kn mX8_limit := ⟨az_tw 1294 rfl rfl, by decide, ⟨by decide, by decide⟩, az_tw 72 rfl rfl, by decide⟩
set_option maxRecDepth 100000 in
theorem kvX8_limit : az_kv mX8_limit := ⟨knX8_limit, az_tw 1293 rfl rfl, az_tw 37 rfl rfl⟩
abbrev mX8_speaks : az_Md := (yX8_speaks, cX8_speaks, 2, (some .int))
set_option maxRecDepth 100000 in
theorem knX8_speaks : az_kn mX8_speaks := ⟨az_tw 1298 rfl rfl, by decide, ⟨by decide, by decide⟩, az_tw 72 rfl rfl, by decide⟩
set_option maxRecDepth 100000 in
theorem kvX8_speaks : az_kv mX8_speaks := ⟨knX8_speaks, az_tw 1296 rfl rfl, az_tw 1297 rfl rfl⟩
abbrev mX8_speaksNow : az_Md := (yX8_speaksNow, cX8_speaksNow, 2, (some .boolean))
set_option maxRecDepth 100000 in
theorem knX8_speaksNow : az_kn mX8_speaksNow := ⟨az_tw 1302 rfl rfl, by decide, ⟨by decide, by decide⟩, az_tw 72 rfl rfl, by decide⟩
set_option maxRecDepth 100000 in
theorem kvX8_speaksNow : az_kv mX8_speaksNow := ⟨knX8_speaksNow, az_tw 1301 rfl rfl, az_tw 38 rfl rfl⟩
abbrev mX8_coldest : az_Md := (yX8_coldest, cX8_coldest, 1, (some .int))
set_option maxRecDepth 100000 in
theorem knX8_coldest : az_kn mX8_coldest := ⟨az_tw 1306 rfl rfl, by decide, ⟨by decide, by decide⟩, az_tw 72 rfl rfl, by decide⟩
set_option maxRecDepth 100000 in
theorem kvX8_coldest : az_kv mX8_coldest := ⟨knX8_coldest, az_tw 1304 rfl rfl, az_tw 1305 rfl rfl⟩
abbrev mX8_coldestOf : az_Md := (yX8_coldestOf, cX8_coldestOf, 3, (some .int))
set_option maxRecDepth 100000 in
theorem knX8_coldestOf : az_kn mX8_coldestOf := ⟨az_tw 1310 rfl rfl, by decide, ⟨by decide, by decide⟩, az_tw 72 rfl rfl, by decide⟩
set_option maxRecDepth 100000 in
theorem kvX8_coldestOf : az_kv mX8_coldestOf := ⟨knX8_coldestOf, az_tw 1309 rfl rfl, az_tw 39 rfl rfl⟩
abbrev mX8_speaking : az_Md := (yX8_speaking, cX8_speaking, 3, (some .int))
set_option maxRecDepth 100000 in
theorem knX8_speaking : az_kn mX8_speaking := ⟨az_tw 1314 rfl rfl, by decide, ⟨by decide, by decide⟩, az_tw 72 rfl rfl, by decide⟩
set_option maxRecDepth 100000 in
theorem kvX8_speaking : az_kv mX8_speaking := ⟨knX8_speaking, az_tw 1312 rfl rfl, az_tw 1313 rfl rfl⟩
abbrev mX8_isSo : az_Md := (yX8_isSo, cX8_isSo, 1, (some .int))
set_option maxRecDepth 100000 in
theorem knX8_isSo : az_kn mX8_isSo := ⟨az_tw 1318 rfl rfl, by decide, ⟨by decide, by decide⟩, az_tw 72 rfl rfl, by decide⟩
set_option maxRecDepth 100000 in
theorem kvX8_isSo : az_kv mX8_isSo := ⟨knX8_isSo, az_tw 1316 rfl rfl, az_tw 1317 rfl rfl⟩
abbrev mX8_isSoNow : az_Md := (yX8_isSoNow, cX8_isSoNow, 2, (some .boolean))
set_option maxRecDepth 100000 in
theorem knX8_isSoNow : az_kn mX8_isSoNow := ⟨az_tw 1322 rfl rfl, by decide, ⟨by decide, by decide⟩, az_tw 72 rfl rfl, by decide⟩
set_option maxRecDepth 100000 in
theorem kvX8_isSoNow : az_kv mX8_isSoNow := ⟨knX8_isSoNow, az_tw 1321 rfl rfl, az_tw 40 rfl rfl⟩
abbrev mX8_rank : az_Md := (yX8_rank, cX8_rank, 2, (some .int))
set_option maxRecDepth 100000 in
theorem knX8_rank : az_kn mX8_rank := ⟨az_tw 1326 rfl rfl, by decide, ⟨by decide, by decide⟩, az_tw 72 rfl rfl, by decide⟩
set_option maxRecDepth 100000 in
theorem kvX8_rank : az_kv mX8_rank := ⟨knX8_rank, az_tw 1324 rfl rfl, az_tw 1325 rfl rfl⟩
abbrev mX8_ranked : az_Md := (yX8_ranked, cX8_ranked, 3, (some .int))
set_option maxRecDepth 100000 in
theorem knX8_ranked : az_kn mX8_ranked := ⟨az_tw 1330 rfl rfl, by decide, ⟨by decide, by decide⟩, az_tw 72 rfl rfl, by decide⟩
set_option maxRecDepth 100000 in
theorem kvX8_ranked : az_kv mX8_ranked := ⟨knX8_ranked, az_tw 1329 rfl rfl, az_tw 41 rfl rfl⟩
abbrev mX8_rankOf : az_Md := (yX8_rankOf, cX8_rankOf, 4, (some .int))
set_option maxRecDepth 100000 in
theorem knX8_rankOf : az_kn mX8_rankOf := ⟨az_tw 1334 rfl rfl, by decide, ⟨by decide, by decide⟩, az_tw 72 rfl rfl, by decide⟩
set_option maxRecDepth 100000 in
theorem kvX8_rankOf : az_kv mX8_rankOf := ⟨knX8_rankOf, az_tw 1333 rfl rfl, az_tw 42 rfl rfl⟩
abbrev mX8_shivering : az_Md := (yX8_shivering, cX8_shivering, 3, (some .int))
set_option maxRecDepth 100000 in
theorem knX8_shivering : az_kn mX8_shivering := ⟨az_tw 1338 rfl rfl, by decide, ⟨by decide, by decide⟩, az_tw 72 rfl rfl, by decide⟩
set_option maxRecDepth 100000 in
theorem kvX8_shivering : az_kv mX8_shivering := ⟨knX8_shivering, az_tw 1336 rfl rfl, az_tw 1337 rfl rfl⟩
abbrev mX8_lead : az_Md := (yX8_lead, cX8_lead, 1, (some .int))
set_option maxRecDepth 100000 in
theorem knX8_lead : az_kn mX8_lead := ⟨az_tw 1342 rfl rfl, by decide, ⟨by decide, by decide⟩, az_tw 72 rfl rfl, by decide⟩
set_option maxRecDepth 100000 in
theorem kvX8_lead : az_kv mX8_lead := ⟨knX8_lead, az_tw 1340 rfl rfl, az_tw 1341 rfl rfl⟩
abbrev mX8_second : az_Md := (yX8_second, cX8_second, 3, (some .int))
set_option maxRecDepth 100000 in
theorem knX8_second : az_kn mX8_second := ⟨az_tw 1346 rfl rfl, by decide, ⟨by decide, by decide⟩, az_tw 72 rfl rfl, by decide⟩
set_option maxRecDepth 100000 in
theorem kvX8_second : az_kv mX8_second := ⟨knX8_second, az_tw 1344 rfl rfl, az_tw 1345 rfl rfl⟩
abbrev mX8_ofKind : az_Md := (yX8_ofKind, cX8_ofKind, 4, (some .int))
set_option maxRecDepth 100000 in
theorem knX8_ofKind : az_kn mX8_ofKind := ⟨az_tw 1350 rfl rfl, by decide, ⟨by decide, by decide⟩, az_tw 72 rfl rfl, by decide⟩
set_option maxRecDepth 100000 in
theorem kvX8_ofKind : az_kv mX8_ofKind := ⟨knX8_ofKind, az_tw 1348 rfl rfl, az_tw 1349 rfl rfl⟩
abbrev mX8_when : az_Md := (yX8_when, cX8_when, 3, (some .int))
set_option maxRecDepth 100000 in
theorem knX8_when : az_kn mX8_when := ⟨az_tw 1354 rfl rfl, by decide, ⟨by decide, by decide⟩, az_tw 72 rfl rfl, by decide⟩
set_option maxRecDepth 100000 in
theorem kvX8_when : az_kv mX8_when := ⟨knX8_when, az_tw 1352 rfl rfl, az_tw 1353 rfl rfl⟩
abbrev mX8_keeps : az_Md := (yX8_keeps, cX8_keeps, 2, (Option.none : Option ClassFile.FieldType))
set_option maxRecDepth 100000 in
theorem knX8_keeps : az_kn mX8_keeps := ⟨az_tw 1358 rfl rfl, by decide, ⟨by decide, by decide⟩, az_tw 72 rfl rfl, by decide⟩
set_option maxRecDepth 100000 in
theorem kvX8_keeps : az_kv mX8_keeps := ⟨knX8_keeps, az_tw 1357 rfl rfl, az_tw 43 rfl rfl⟩
abbrev mX8_whenSo : az_Md := (yX8_whenSo, cX8_whenSo, 2, (some .int))
set_option maxRecDepth 100000 in
theorem knX8_whenSo : az_kn mX8_whenSo := ⟨az_tw 1362 rfl rfl, by decide, ⟨by decide, by decide⟩, az_tw 72 rfl rfl, by decide⟩
set_option maxRecDepth 100000 in
theorem kvX8_whenSo : az_kv mX8_whenSo := ⟨knX8_whenSo, az_tw 1361 rfl rfl, az_tw 44 rfl rfl⟩
abbrev mX8_cools : az_Md := (yX8_cools, cX8_cools, 2, (Option.none : Option ClassFile.FieldType))
set_option maxRecDepth 100000 in
theorem knX8_cools : az_kn mX8_cools := ⟨az_tw 1366 rfl rfl, by decide, ⟨by decide, by decide⟩, az_tw 72 rfl rfl, by decide⟩
set_option maxRecDepth 100000 in
theorem kvX8_cools : az_kv mX8_cools := ⟨knX8_cools, az_tw 1365 rfl rfl, az_tw 45 rfl rfl⟩
abbrev mX8_goesBack : az_Md := (yX8_goesBack, cX8_goesBack, 2, (Option.none : Option ClassFile.FieldType))
set_option maxRecDepth 100000 in
theorem knX8_goesBack : az_kn mX8_goesBack := ⟨az_tw 1370 rfl rfl, by decide, ⟨by decide, by decide⟩, az_tw 72 rfl rfl, by decide⟩
set_option maxRecDepth 100000 in
theorem kvX8_goesBack : az_kv mX8_goesBack := ⟨knX8_goesBack, az_tw 1369 rfl rfl, az_tw 46 rfl rfl⟩
abbrev mX8_ahead : az_Md := (yX8_ahead, cX8_ahead, 5, (some .int))
set_option maxRecDepth 100000 in
theorem knX8_ahead : az_kn mX8_ahead := ⟨az_tw 1374 rfl rfl, by decide, ⟨by decide, by decide⟩, az_tw 72 rfl rfl, by decide⟩
set_option maxRecDepth 100000 in
theorem kvX8_ahead : az_kv mX8_ahead := ⟨knX8_ahead, az_tw 1372 rfl rfl, az_tw 1373 rfl rfl⟩
abbrev mX8_later : az_Md := (yX8_later, cX8_later, 4, (some .int))
set_option maxRecDepth 100000 in
theorem knX8_later : az_kn mX8_later := ⟨az_tw 1379 rfl rfl, by decide, ⟨by decide, by decide⟩, az_tw 72 rfl rfl, by decide⟩
set_option maxRecDepth 100000 in
theorem kvX8_later : az_kv mX8_later := ⟨knX8_later, az_tw 1377 rfl rfl, az_tw 1378 rfl rfl⟩
abbrev mX8_holdsOut : az_Md := (yX8_holdsOut, cX8_holdsOut, 3, (some .int))
set_option maxRecDepth 100000 in
theorem knX8_holdsOut : az_kn mX8_holdsOut := ⟨az_tw 1383 rfl rfl, by decide, ⟨by decide, by decide⟩, az_tw 72 rfl rfl, by decide⟩
set_option maxRecDepth 100000 in
theorem kvX8_holdsOut : az_kv mX8_holdsOut := ⟨knX8_holdsOut, az_tw 1381 rfl rfl, az_tw 1382 rfl rfl⟩
abbrev mX8_lasts : az_Md := (yX8_lasts, cX8_lasts, 3, (some .int))
set_option maxRecDepth 100000 in
theorem knX8_lasts : az_kn mX8_lasts := ⟨az_tw 1387 rfl rfl, by decide, ⟨by decide, by decide⟩, az_tw 72 rfl rfl, by decide⟩
set_option maxRecDepth 100000 in
theorem kvX8_lasts : az_kv mX8_lasts := ⟨knX8_lasts, az_tw 1386 rfl rfl, az_tw 47 rfl rfl⟩
abbrev mX8_toughest : az_Md := (yX8_toughest, cX8_toughest, 4, (some .int))
set_option maxRecDepth 100000 in
theorem knX8_toughest : az_kn mX8_toughest := ⟨az_tw 1391 rfl rfl, by decide, ⟨by decide, by decide⟩, az_tw 72 rfl rfl, by decide⟩
set_option maxRecDepth 100000 in
theorem kvX8_toughest : az_kv mX8_toughest := ⟨knX8_toughest, az_tw 1389 rfl rfl, az_tw 1390 rfl rfl⟩
abbrev mX8_feeds : az_Md := (yX8_feeds, cX8_feeds, 3, (some .int))
set_option maxRecDepth 100000 in
theorem knX8_feeds : az_kn mX8_feeds := ⟨az_tw 1395 rfl rfl, by decide, ⟨by decide, by decide⟩, az_tw 72 rfl rfl, by decide⟩
set_option maxRecDepth 100000 in
theorem kvX8_feeds : az_kv mX8_feeds := ⟨knX8_feeds, az_tw 1393 rfl rfl, az_tw 1394 rfl rfl⟩
abbrev mX8_findFeed : az_Md := (yX8_findFeed, cX8_findFeed, 4, (Option.none : Option ClassFile.FieldType))
set_option maxRecDepth 100000 in
theorem knX8_findFeed : az_kn mX8_findFeed := ⟨az_tw 1400 rfl rfl, by decide, ⟨by decide, by decide⟩, az_tw 72 rfl rfl, by decide⟩
set_option maxRecDepth 100000 in
theorem kvX8_findFeed : az_kv mX8_findFeed := ⟨knX8_findFeed, az_tw 1399 rfl rfl, az_tw 48 rfl rfl⟩
abbrev mX8_isLater : az_Md := (yX8_isLater, cX8_isLater, 5, (some .boolean))
set_option maxRecDepth 100000 in
theorem knX8_isLater : az_kn mX8_isLater := ⟨az_tw 1404 rfl rfl, by decide, ⟨by decide, by decide⟩, az_tw 72 rfl rfl, by decide⟩
set_option maxRecDepth 100000 in
theorem kvX8_isLater : az_kv mX8_isLater := ⟨knX8_isLater, az_tw 1403 rfl rfl, az_tw 49 rfl rfl⟩
abbrev mX8_full : az_Md := (yX8_full, cX8_full, 1, (some .int))
set_option maxRecDepth 100000 in
theorem knX8_full : az_kn mX8_full := ⟨az_tw 1407 rfl rfl, by decide, ⟨by decide, by decide⟩, az_tw 72 rfl rfl, by decide⟩
set_option maxRecDepth 100000 in
theorem ksX8_full : az_ks mX8_full := ⟨knX8_full, az_tw 1406 rfl rfl⟩
abbrev mX8_all : az_Md := (yX8_all, cX8_all, 3, (some .int))
set_option maxRecDepth 100000 in
theorem knX8_all : az_kn mX8_all := ⟨az_tw 1411 rfl rfl, by decide, ⟨by decide, by decide⟩, az_tw 72 rfl rfl, by decide⟩
set_option maxRecDepth 100000 in
theorem kvX8_all : az_kv mX8_all := ⟨knX8_all, az_tw 1409 rfl rfl, az_tw 1410 rfl rfl⟩
abbrev mX8_warm : az_Md := (yX8_warm, cX8_warm, 4, (some .int))
set_option maxRecDepth 100000 in
theorem knX8_warm : az_kn mX8_warm := ⟨az_tw 1415 rfl rfl, by decide, ⟨by decide, by decide⟩, az_tw 72 rfl rfl, by decide⟩
set_option maxRecDepth 100000 in
theorem kvX8_warm : az_kv mX8_warm := ⟨knX8_warm, az_tw 1413 rfl rfl, az_tw 1414 rfl rfl⟩
abbrev mX8_bits : az_Md := (yX8_bits, cX8_bits, 3, (some .int))
set_option maxRecDepth 100000 in
theorem knX8_bits : az_kn mX8_bits := ⟨az_tw 1418 rfl rfl, by decide, ⟨by decide, by decide⟩, az_tw 72 rfl rfl, by decide⟩
set_option maxRecDepth 100000 in
theorem ksX8_bits : az_ks mX8_bits := ⟨knX8_bits, az_tw 1417 rfl rfl⟩
abbrev mX8_isJust : az_Md := (yX8_isJust, cX8_isJust, 4, (some .boolean))
set_option maxRecDepth 100000 in
theorem knX8_isJust : az_kn mX8_isJust := ⟨az_tw 1422 rfl rfl, by decide, ⟨by decide, by decide⟩, az_tw 72 rfl rfl, by decide⟩
set_option maxRecDepth 100000 in
theorem kvX8_isJust : az_kv mX8_isJust := ⟨knX8_isJust, az_tw 1421 rfl rfl, az_tw 50 rfl rfl⟩
abbrev mX8_out : az_Md := (yX8_out, cX8_out, 5, (some .int))
set_option maxRecDepth 100000 in
theorem knX8_out : az_kn mX8_out := ⟨az_tw 1426 rfl rfl, by decide, ⟨by decide, by decide⟩, az_tw 72 rfl rfl, by decide⟩
set_option maxRecDepth 100000 in
theorem kvX8_out : az_kv mX8_out := ⟨knX8_out, az_tw 1424 rfl rfl, az_tw 1425 rfl rfl⟩
abbrev mX8_whenWithout : az_Md := (yX8_whenWithout, cX8_whenWithout, 3, (some .int))
set_option maxRecDepth 100000 in
theorem knX8_whenWithout : az_kn mX8_whenWithout := ⟨az_tw 1430 rfl rfl, by decide, ⟨by decide, by decide⟩, az_tw 72 rfl rfl, by decide⟩
set_option maxRecDepth 100000 in
theorem kvX8_whenWithout : az_kv mX8_whenWithout := ⟨knX8_whenWithout, az_tw 1429 rfl rfl, az_tw 51 rfl rfl⟩
abbrev mX8_quiet : az_Md := (yX8_quiet, cX8_quiet, 5, (some .int))
set_option maxRecDepth 100000 in
theorem knX8_quiet : az_kn mX8_quiet := ⟨az_tw 1434 rfl rfl, by decide, ⟨by decide, by decide⟩, az_tw 72 rfl rfl, by decide⟩
set_option maxRecDepth 100000 in
theorem kvX8_quiet : az_kv mX8_quiet := ⟨knX8_quiet, az_tw 1432 rfl rfl, az_tw 1433 rfl rfl⟩
abbrev mX8_gap : az_Md := (yX8_gap, cX8_gap, 4, (some .int))
set_option maxRecDepth 100000 in
theorem knX8_gap : az_kn mX8_gap := ⟨az_tw 1438 rfl rfl, by decide, ⟨by decide, by decide⟩, az_tw 72 rfl rfl, by decide⟩
set_option maxRecDepth 100000 in
theorem kvX8_gap : az_kv mX8_gap := ⟨knX8_gap, az_tw 1436 rfl rfl, az_tw 1437 rfl rfl⟩
abbrev mX8_airs : az_Md := (yX8_airs, cX8_airs, 7, (some .int))
set_option maxRecDepth 100000 in
theorem knX8_airs : az_kn mX8_airs := ⟨az_tw 1442 rfl rfl, by decide, ⟨by decide, by decide⟩, az_tw 72 rfl rfl, by decide⟩
set_option maxRecDepth 100000 in
theorem kvX8_airs : az_kv mX8_airs := ⟨knX8_airs, az_tw 1440 rfl rfl, az_tw 1441 rfl rfl⟩
abbrev mX8_warmest : az_Md := (yX8_warmest, cX8_warmest, 3, (some .int))
set_option maxRecDepth 100000 in
theorem knX8_warmest : az_kn mX8_warmest := ⟨az_tw 1446 rfl rfl, by decide, ⟨by decide, by decide⟩, az_tw 72 rfl rfl, by decide⟩
set_option maxRecDepth 100000 in
theorem kvX8_warmest : az_kv mX8_warmest := ⟨knX8_warmest, az_tw 1444 rfl rfl, az_tw 1445 rfl rfl⟩
abbrev mX8_bites : az_Md := (yX8_bites, cX8_bites, 4, (some .int))
set_option maxRecDepth 100000 in
theorem knX8_bites : az_kn mX8_bites := ⟨az_tw 1450 rfl rfl, by decide, ⟨by decide, by decide⟩, az_tw 72 rfl rfl, by decide⟩
set_option maxRecDepth 100000 in
theorem kvX8_bites : az_kv mX8_bites := ⟨knX8_bites, az_tw 1448 rfl rfl, az_tw 1449 rfl rfl⟩
abbrev mX8_brandyFor : az_Md := (yX8_brandyFor, cX8_brandyFor, 5, (some .int))
set_option maxRecDepth 100000 in
theorem knX8_brandyFor : az_kn mX8_brandyFor := ⟨az_tw 1454 rfl rfl, by decide, ⟨by decide, by decide⟩, az_tw 72 rfl rfl, by decide⟩
set_option maxRecDepth 100000 in
theorem kvX8_brandyFor : az_kv mX8_brandyFor := ⟨knX8_brandyFor, az_tw 1452 rfl rfl, az_tw 1453 rfl rfl⟩
abbrev mX8_fallFor : az_Md := (yX8_fallFor, cX8_fallFor, 4, (some .int))
set_option maxRecDepth 100000 in
theorem knX8_fallFor : az_kn mX8_fallFor := ⟨az_tw 1458 rfl rfl, by decide, ⟨by decide, by decide⟩, az_tw 72 rfl rfl, by decide⟩
set_option maxRecDepth 100000 in
theorem kvX8_fallFor : az_kv mX8_fallFor := ⟨knX8_fallFor, az_tw 1456 rfl rfl, az_tw 1457 rfl rfl⟩
abbrev mX8_prides : az_Md := (yX8_prides, cX8_prides, 8, (some .int))
set_option maxRecDepth 100000 in
theorem knX8_prides : az_kn mX8_prides := ⟨az_tw 1462 rfl rfl, by decide, ⟨by decide, by decide⟩, az_tw 72 rfl rfl, by decide⟩
set_option maxRecDepth 100000 in
theorem kvX8_prides : az_kv mX8_prides := ⟨knX8_prides, az_tw 1460 rfl rfl, az_tw 1461 rfl rfl⟩
abbrev mX8_noTwos : az_Md := (yX8_noTwos, cX8_noTwos, 5, (some .int))
set_option maxRecDepth 100000 in
theorem knX8_noTwos : az_kn mX8_noTwos := ⟨az_tw 1466 rfl rfl, by decide, ⟨by decide, by decide⟩, az_tw 72 rfl rfl, by decide⟩
set_option maxRecDepth 100000 in
theorem kvX8_noTwos : az_kv mX8_noTwos := ⟨knX8_noTwos, az_tw 1465 rfl rfl, az_tw 52 rfl rfl⟩
abbrev mX8_areAirs : az_Md := (yX8_areAirs, cX8_areAirs, 5, (some .boolean))
set_option maxRecDepth 100000 in
theorem knX8_areAirs : az_kn mX8_areAirs := ⟨az_tw 1470 rfl rfl, by decide, ⟨by decide, by decide⟩, az_tw 72 rfl rfl, by decide⟩
set_option maxRecDepth 100000 in
theorem kvX8_areAirs : az_kv mX8_areAirs := ⟨knX8_areAirs, az_tw 1469 rfl rfl, az_tw 53 rfl rfl⟩
abbrev mX8_isTold : az_Md := (yX8_isTold, cX8_isTold, 8, (some .boolean))
set_option maxRecDepth 100000 in
theorem knX8_isTold : az_kn mX8_isTold := ⟨az_tw 1474 rfl rfl, by decide, ⟨by decide, by decide⟩, az_tw 72 rfl rfl, by decide⟩
set_option maxRecDepth 100000 in
theorem kvX8_isTold : az_kv mX8_isTold := ⟨knX8_isTold, az_tw 1473 rfl rfl, az_tw 54 rfl rfl⟩
abbrev mX8_kinds : az_Md := (yX8_kinds, cX8_kinds, 8, (some .int))
set_option maxRecDepth 100000 in
theorem knX8_kinds : az_kn mX8_kinds := ⟨az_tw 1478 rfl rfl, by decide, ⟨by decide, by decide⟩, az_tw 72 rfl rfl, by decide⟩
set_option maxRecDepth 100000 in
theorem kvX8_kinds : az_kv mX8_kinds := ⟨knX8_kinds, az_tw 1476 rfl rfl, az_tw 1477 rfl rfl⟩
abbrev mX8_clash : az_Md := (yX8_clash, cX8_clash, 4, (some .int))
set_option maxRecDepth 100000 in
theorem knX8_clash : az_kn mX8_clash := ⟨az_tw 1482 rfl rfl, by decide, ⟨by decide, by decide⟩, az_tw 72 rfl rfl, by decide⟩
set_option maxRecDepth 100000 in
theorem kvX8_clash : az_kv mX8_clash := ⟨knX8_clash, az_tw 1480 rfl rfl, az_tw 1481 rfl rfl⟩
abbrev mX8_findClash : az_Md := (yX8_findClash, cX8_findClash, 8, (some .int))
set_option maxRecDepth 100000 in
theorem knX8_findClash : az_kn mX8_findClash := ⟨az_tw 1486 rfl rfl, by decide, ⟨by decide, by decide⟩, az_tw 72 rfl rfl, by decide⟩
set_option maxRecDepth 100000 in
theorem kvX8_findClash : az_kv mX8_findClash := ⟨knX8_findClash, az_tw 1485 rfl rfl, az_tw 55 rfl rfl⟩
abbrev mX8_tellBelow : az_Md := (yX8_tellBelow, cX8_tellBelow, 5, (Option.none : Option ClassFile.FieldType))
set_option maxRecDepth 100000 in
theorem knX8_tellBelow : az_kn mX8_tellBelow := ⟨az_tw 1490 rfl rfl, by decide, ⟨by decide, by decide⟩, az_tw 72 rfl rfl, by decide⟩
set_option maxRecDepth 100000 in
theorem kvX8_tellBelow : az_kv mX8_tellBelow := ⟨knX8_tellBelow, az_tw 1489 rfl rfl, az_tw 56 rfl rfl⟩
abbrev mX8_orders : az_Md := (yX8_orders, cX8_orders, 4, (some .int))
set_option maxRecDepth 100000 in
theorem knX8_orders : az_kn mX8_orders := ⟨az_tw 1494 rfl rfl, by decide, ⟨by decide, by decide⟩, az_tw 72 rfl rfl, by decide⟩
set_option maxRecDepth 100000 in
theorem kvX8_orders : az_kv mX8_orders := ⟨knX8_orders, az_tw 1492 rfl rfl, az_tw 1493 rfl rfl⟩
abbrev mX8_noBowls : az_Md := (yX8_noBowls, cX8_noBowls, 4, (some .int))
set_option maxRecDepth 100000 in
theorem knX8_noBowls : az_kn mX8_noBowls := ⟨az_tw 1498 rfl rfl, by decide, ⟨by decide, by decide⟩, az_tw 72 rfl rfl, by decide⟩
set_option maxRecDepth 100000 in
theorem kvX8_noBowls : az_kv mX8_noBowls := ⟨knX8_noBowls, az_tw 1497 rfl rfl, az_tw 57 rfl rfl⟩
abbrev mX8_countOrders : az_Md := (yX8_countOrders, cX8_countOrders, 7, (some .int))
set_option maxRecDepth 100000 in
theorem knX8_countOrders : az_kn mX8_countOrders := ⟨az_tw 1502 rfl rfl, by decide, ⟨by decide, by decide⟩, az_tw 72 rfl rfl, by decide⟩
set_option maxRecDepth 100000 in
theorem kvX8_countOrders : az_kv mX8_countOrders := ⟨knX8_countOrders, az_tw 1501 rfl rfl, az_tw 58 rfl rfl⟩
abbrev mX8_next : az_Md := (yX8_next, cX8_next, 11, (some .int))
set_option maxRecDepth 100000 in
theorem knX8_next : az_kn mX8_next := ⟨az_tw 1506 rfl rfl, by decide, ⟨by decide, by decide⟩, az_tw 72 rfl rfl, by decide⟩
set_option maxRecDepth 100000 in
theorem kvX8_next : az_kv mX8_next := ⟨knX8_next, az_tw 1504 rfl rfl, az_tw 1505 rfl rfl⟩
abbrev mX8_mayBe : az_Md := (yX8_mayBe, cX8_mayBe, 6, (some .int))
set_option maxRecDepth 100000 in
theorem knX8_mayBe : az_kn mX8_mayBe := ⟨az_tw 1510 rfl rfl, by decide, ⟨by decide, by decide⟩, az_tw 72 rfl rfl, by decide⟩
set_option maxRecDepth 100000 in
theorem kvX8_mayBe : az_kv mX8_mayBe := ⟨knX8_mayBe, az_tw 1508 rfl rfl, az_tw 1509 rfl rfl⟩
abbrev mX8_wrongBowls : az_Md := (yX8_wrongBowls, cX8_wrongBowls, 6, (some .int))
set_option maxRecDepth 100000 in
theorem knX8_wrongBowls : az_kn mX8_wrongBowls := ⟨az_tw 1514 rfl rfl, by decide, ⟨by decide, by decide⟩, az_tw 72 rfl rfl, by decide⟩
set_option maxRecDepth 100000 in
theorem kvX8_wrongBowls : az_kv mX8_wrongBowls := ⟨knX8_wrongBowls, az_tw 1512 rfl rfl, az_tw 1513 rfl rfl⟩
abbrev mX8_byTurns : az_Md := (yX8_byTurns, cX8_byTurns, 2, (some .int))
set_option maxRecDepth 100000 in
theorem knX8_byTurns : az_kn mX8_byTurns := ⟨az_tw 1518 rfl rfl, by decide, ⟨by decide, by decide⟩, az_tw 72 rfl rfl, by decide⟩
set_option maxRecDepth 100000 in
theorem kvX8_byTurns : az_kv mX8_byTurns := ⟨knX8_byTurns, az_tw 1516 rfl rfl, az_tw 1517 rfl rfl⟩
abbrev mX8_makes : az_Md := (yX8_makes, cX8_makes, 7, (some .boolean))
set_option maxRecDepth 100000 in
theorem knX8_makes : az_kn mX8_makes := ⟨az_tw 1522 rfl rfl, by decide, ⟨by decide, by decide⟩, az_tw 72 rfl rfl, by decide⟩
set_option maxRecDepth 100000 in
theorem kvX8_makes : az_kv mX8_makes := ⟨knX8_makes, az_tw 1521 rfl rfl, az_tw 59 rfl rfl⟩
abbrev mX8_odds : az_Md := (yX8_odds, cX8_odds, 4, (some .int))
set_option maxRecDepth 100000 in
theorem knX8_odds : az_kn mX8_odds := ⟨az_tw 1526 rfl rfl, by decide, ⟨by decide, by decide⟩, az_tw 72 rfl rfl, by decide⟩
set_option maxRecDepth 100000 in
theorem kvX8_odds : az_kv mX8_odds := ⟨knX8_odds, az_tw 1524 rfl rfl, az_tw 1525 rfl rfl⟩
abbrev mX8_fans : az_Md := (yX8_fans, cX8_fans, 7, (Option.none : Option ClassFile.FieldType))
set_option maxRecDepth 100000 in
theorem knX8_fans : az_kn mX8_fans := ⟨az_tw 1530 rfl rfl, by decide, ⟨by decide, by decide⟩, az_tw 72 rfl rfl, by decide⟩
set_option maxRecDepth 100000 in
theorem kvX8_fans : az_kv mX8_fans := ⟨knX8_fans, az_tw 1529 rfl rfl, az_tw 60 rfl rfl⟩
abbrev mX8_judge : az_Md := (yX8_judge, cX8_judge, 6, (some .int))
set_option maxRecDepth 100000 in
theorem knX8_judge : az_kn mX8_judge := ⟨az_tw 1535 rfl rfl, by decide, ⟨by decide, by decide⟩, az_tw 72 rfl rfl, by decide⟩
set_option maxRecDepth 100000 in
theorem kvX8_judge : az_kv mX8_judge := ⟨knX8_judge, az_tw 1533 rfl rfl, az_tw 1534 rfl rfl⟩
abbrev mX8_days : az_Md := (yX8_days, cX8_days, 3, (some .int))
set_option maxRecDepth 100000 in
theorem knX8_days : az_kn mX8_days := ⟨az_tw 1539 rfl rfl, by decide, ⟨by decide, by decide⟩, az_tw 72 rfl rfl, by decide⟩
set_option maxRecDepth 100000 in
theorem kvX8_days : az_kv mX8_days := ⟨knX8_days, az_tw 1537 rfl rfl, az_tw 1538 rfl rfl⟩
abbrev mX8_passes : az_Md := (yX8_passes, cX8_passes, 1, (Option.none : Option ClassFile.FieldType))
set_option maxRecDepth 100000 in
theorem knX8_passes : az_kn mX8_passes := ⟨az_tw 1543 rfl rfl, by decide, ⟨by decide, by decide⟩, az_tw 72 rfl rfl, by decide⟩
set_option maxRecDepth 100000 in
theorem kvX8_passes : az_kv mX8_passes := ⟨knX8_passes, az_tw 1542 rfl rfl, az_tw 61 rfl rfl⟩
abbrev mX8_drawn : az_Md := (yX8_drawn, cX8_drawn, 5, (some .int))
set_option maxRecDepth 100000 in
theorem knX8_drawn : az_kn mX8_drawn := ⟨az_tw 1547 rfl rfl, by decide, ⟨by decide, by decide⟩, az_tw 72 rfl rfl, by decide⟩
set_option maxRecDepth 100000 in
theorem kvX8_drawn : az_kv mX8_drawn := ⟨knX8_drawn, az_tw 1545 rfl rfl, az_tw 1546 rfl rfl⟩
abbrev mX8_drawBelow : az_Md := (yX8_drawBelow, cX8_drawBelow, 2, (some .int))
set_option maxRecDepth 100000 in
theorem knX8_drawBelow : az_kn mX8_drawBelow := ⟨az_tw 1551 rfl rfl, by decide, ⟨by decide, by decide⟩, az_tw 72 rfl rfl, by decide⟩
set_option maxRecDepth 100000 in
theorem kvX8_drawBelow : az_kv mX8_drawBelow := ⟨knX8_drawBelow, az_tw 1550 rfl rfl, az_tw 62 rfl rfl⟩
abbrev mX8_seed : az_Md := (yX8_seed, cX8_seed, 3, (some .int))
set_option maxRecDepth 100000 in
theorem knX8_seed : az_kn mX8_seed := ⟨az_tw 1556 rfl rfl, by decide, ⟨by decide, by decide⟩, az_tw 72 rfl rfl, by decide⟩
set_option maxRecDepth 100000 in
theorem kvX8_seed : az_kv mX8_seed := ⟨knX8_seed, az_tw 1554 rfl rfl, az_tw 1555 rfl rfl⟩
abbrev mX8_image : az_Md := (yX8_image, cX8_image, 1, (some .int))
set_option maxRecDepth 100000 in
theorem knX8_image : az_kn mX8_image := ⟨az_tw 1560 rfl rfl, by decide, ⟨by decide, by decide⟩, az_tw 72 rfl rfl, by decide⟩
set_option maxRecDepth 100000 in
theorem kvX8_image : az_kv mX8_image := ⟨knX8_image, az_tw 1558 rfl rfl, az_tw 1559 rfl rfl⟩
abbrev mX8_back : az_Md := (yX8_back, cX8_back, 2, (some .int))
set_option maxRecDepth 100000 in
theorem knX8_back : az_kn mX8_back := ⟨az_tw 1564 rfl rfl, by decide, ⟨by decide, by decide⟩, az_tw 72 rfl rfl, by decide⟩
set_option maxRecDepth 100000 in
theorem kvX8_back : az_kv mX8_back := ⟨knX8_back, az_tw 1562 rfl rfl, az_tw 1563 rfl rfl⟩
abbrev mX8_status : az_Md := (yX8_status, cX8_status, 4, (some .int))
set_option maxRecDepth 100000 in
theorem knX8_status : az_kn mX8_status := ⟨az_tw 1568 rfl rfl, by decide, ⟨by decide, by decide⟩, az_tw 72 rfl rfl, by decide⟩
set_option maxRecDepth 100000 in
theorem kvX8_status : az_kv mX8_status := ⟨knX8_status, az_tw 1566 rfl rfl, az_tw 1567 rfl rfl⟩
set_option maxRecDepth 100000 in
theorem flX7_10 : az_fl RX7 10 7 0 := ⟨RX7, TX7, 10, tyX7, clX7, by decide, Or.inl (az_tw 280 rfl rfl)⟩
set_option maxRecDepth 100000 in
theorem ffX7_10 : az_ff RX7 10 7 0 (tyX7 0) := ⟨RX7, TX7, 10, tyX7, clX7, by decide, az_tw 280 rfl rfl, rfl, tyX7_ok 0 (by decide), rfl⟩
set_option maxRecDepth 100000 in
theorem flX7_16 : az_fl RX7 16 7 1 := ⟨RX7, TX7, 10, tyX7, clX7, by decide, Or.inl (az_tw 281 rfl rfl)⟩
set_option maxRecDepth 100000 in
theorem ffX7_16 : az_ff RX7 16 7 1 (tyX7 1) := ⟨RX7, TX7, 10, tyX7, clX7, by decide, az_tw 281 rfl rfl, rfl, tyX7_ok 1 (by decide), rfl⟩
set_option maxRecDepth 100000 in
theorem flX7_22 : az_fl RX7 22 7 2 := ⟨RX7, TX7, 10, tyX7, clX7, by decide, Or.inl (az_tw 282 rfl rfl)⟩
set_option maxRecDepth 100000 in
theorem ffX7_22 : az_ff RX7 22 7 2 (tyX7 2) := ⟨RX7, TX7, 10, tyX7, clX7, by decide, az_tw 282 rfl rfl, rfl, tyX7_ok 2 (by decide), rfl⟩
set_option maxRecDepth 100000 in
theorem flX7_29 : az_fl RX7 29 7 3 := ⟨RX7, TX7, 10, tyX7, clX7, by decide, Or.inl (az_tw 283 rfl rfl)⟩
set_option maxRecDepth 100000 in
theorem ffX7_29 : az_ff RX7 29 7 3 (tyX7 3) := ⟨RX7, TX7, 10, tyX7, clX7, by decide, az_tw 283 rfl rfl, rfl, tyX7_ok 3 (by decide), rfl⟩
set_option maxRecDepth 100000 in
theorem flX7_36 : az_fl RX7 36 7 4 := ⟨RX7, TX7, 10, tyX7, clX7, by decide, Or.inl (az_tw 284 rfl rfl)⟩
set_option maxRecDepth 100000 in
theorem ffX7_36 : az_ff RX7 36 7 4 (tyX7 4) := ⟨RX7, TX7, 10, tyX7, clX7, by decide, az_tw 284 rfl rfl, rfl, tyX7_ok 4 (by decide), rfl⟩
set_option maxRecDepth 100000 in
theorem flX7_43 : az_fl RX7 43 7 5 := ⟨RX7, TX7, 10, tyX7, clX7, by decide, Or.inl (az_tw 285 rfl rfl)⟩
set_option maxRecDepth 100000 in
theorem ffX7_43 : az_ff RX7 43 7 5 (tyX7 5) := ⟨RX7, TX7, 10, tyX7, clX7, by decide, az_tw 285 rfl rfl, rfl, tyX7_ok 5 (by decide), rfl⟩
set_option maxRecDepth 100000 in
theorem flX7_50 : az_fl RX7 50 7 6 := ⟨RX7, TX7, 10, tyX7, clX7, by decide, Or.inl (az_tw 286 rfl rfl)⟩
set_option maxRecDepth 100000 in
theorem ffX7_50 : az_ff RX7 50 7 6 (tyX7 6) := ⟨RX7, TX7, 10, tyX7, clX7, by decide, az_tw 286 rfl rfl, rfl, tyX7_ok 6 (by decide), rfl⟩
set_option maxRecDepth 100000 in
theorem flX7_56 : az_fl RX7 56 7 7 := ⟨RX7, TX7, 10, tyX7, clX7, by decide, Or.inl (az_tw 287 rfl rfl)⟩
set_option maxRecDepth 100000 in
theorem ffX7_56 : az_ff RX7 56 7 7 (tyX7 7) := ⟨RX7, TX7, 10, tyX7, clX7, by decide, az_tw 287 rfl rfl, rfl, tyX7_ok 7 (by decide), rfl⟩
set_option maxRecDepth 100000 in
theorem flX7_60 : az_fl RX7 60 7 8 := ⟨RX7, TX7, 10, tyX7, clX7, by decide, Or.inl (az_tw 288 rfl rfl)⟩
set_option maxRecDepth 100000 in
theorem ffX7_60 : az_ff RX7 60 7 8 (tyX7 8) := ⟨RX7, TX7, 10, tyX7, clX7, by decide, az_tw 288 rfl rfl, rfl, tyX7_ok 8 (by decide), rfl⟩
set_option maxRecDepth 100000 in
theorem flX7_64 : az_fl RX7 64 7 9 := ⟨RX7, TX7, 10, tyX7, clX7, by decide, Or.inl (az_tw 289 rfl rfl)⟩
set_option maxRecDepth 100000 in
theorem fwX7_64 : az_fw RX7 64 7 9 .boolean := ⟨RX7, TX7, 10, tyX7, clX7, by decide, Or.inl (az_tw 289 rfl rfl), rfl, tyX7_ok 9 (by decide)⟩
set_option maxRecDepth 100000 in
theorem flX7_159 : az_lk RX7 159 "ColdestSaysSo" "MOST_GIVEN" "[I" := Or.inl (az_tw 446 rfl rfl)
set_option maxRecDepth 100000 in
theorem flX7_168 : az_lk RX7 168 "ColdestSaysSo" "MOST_TOLD" "[I" := Or.inl (az_tw 452 rfl rfl)
set_option maxRecDepth 100000 in
theorem flX7_347 : az_lk RX7 347 "ColdestSaysSo" "KIND_ABOVE" "[I" := Or.inl (az_tw 418 rfl rfl)
set_option maxRecDepth 100000 in
theorem flX0_9 : az_fl RX0 9 0 0 := ⟨RX0, TX0, 3, tyX0, clX0, by decide, Or.inl (az_tw 222 rfl rfl)⟩
set_option maxRecDepth 100000 in
theorem ffX0_9 : az_ff RX0 9 0 0 (tyX0 0) := ⟨RX0, TX0, 3, tyX0, clX0, by decide, az_tw 222 rfl rfl, rfl, tyX0_ok 0 (by decide), rfl⟩
set_option maxRecDepth 100000 in
theorem flX0_15 : az_fl RX0 15 0 1 := ⟨RX0, TX0, 3, tyX0, clX0, by decide, Or.inl (az_tw 223 rfl rfl)⟩
set_option maxRecDepth 100000 in
theorem ffX0_15 : az_ff RX0 15 0 1 (tyX0 1) := ⟨RX0, TX0, 3, tyX0, clX0, by decide, az_tw 223 rfl rfl, rfl, tyX0_ok 1 (by decide), rfl⟩
set_option maxRecDepth 100000 in
theorem flX0_18 : az_fl RX0 18 0 2 := ⟨RX0, TX0, 3, tyX0, clX0, by decide, Or.inl (az_tw 224 rfl rfl)⟩
set_option maxRecDepth 100000 in
theorem fwX0_18 : az_fw RX0 18 0 2 .int := ⟨RX0, TX0, 3, tyX0, clX0, by decide, Or.inl (az_tw 224 rfl rfl), rfl, tyX0_ok 2 (by decide)⟩
set_option maxRecDepth 100000 in
theorem flX1_12 : az_fl RX1 12 1 0 := ⟨RX1, TX1, 4, tyX1, clX1, by decide, Or.inl (az_tw 188 rfl rfl)⟩
set_option maxRecDepth 100000 in
theorem ffX1_12 : az_ff RX1 12 1 0 (tyX1 0) := ⟨RX1, TX1, 4, tyX1, clX1, by decide, az_tw 188 rfl rfl, rfl, tyX1_ok 0 (by decide), rfl⟩
set_option maxRecDepth 100000 in
theorem flX1_18 : az_fl RX1 18 1 1 := ⟨RX1, TX1, 4, tyX1, clX1, by decide, Or.inl (az_tw 189 rfl rfl)⟩
set_option maxRecDepth 100000 in
theorem ffX1_18 : az_ff RX1 18 1 1 (tyX1 1) := ⟨RX1, TX1, 4, tyX1, clX1, by decide, az_tw 189 rfl rfl, rfl, tyX1_ok 1 (by decide), rfl⟩
set_option maxRecDepth 100000 in
theorem flX1_22 : az_fl RX1 22 1 2 := ⟨RX1, TX1, 4, tyX1, clX1, by decide, Or.inl (az_tw 190 rfl rfl)⟩
set_option maxRecDepth 100000 in
theorem ffX1_22 : az_ff RX1 22 1 2 (tyX1 2) := ⟨RX1, TX1, 4, tyX1, clX1, by decide, az_tw 190 rfl rfl, rfl, tyX1_ok 2 (by decide), rfl⟩
set_option maxRecDepth 100000 in
theorem flX1_25 : az_fl RX1 25 1 3 := ⟨RX1, TX1, 4, tyX1, clX1, by decide, Or.inl (az_tw 191 rfl rfl)⟩
set_option maxRecDepth 100000 in
theorem fwX1_25 : az_fw RX1 25 1 3 .int := ⟨RX1, TX1, 4, tyX1, clX1, by decide, Or.inl (az_tw 191 rfl rfl), rfl, tyX1_ok 3 (by decide)⟩
set_option maxRecDepth 100000 in
theorem flX2_9 : az_fl RX2 9 2 0 := ⟨RX2, TX2, 14, tyX2, clX2, by decide, Or.inl (az_tw 95 rfl rfl)⟩
set_option maxRecDepth 100000 in
theorem ffX2_9 : az_ff RX2 9 2 0 (tyX2 0) := ⟨RX2, TX2, 14, tyX2, clX2, by decide, az_tw 95 rfl rfl, rfl, tyX2_ok 0 (by decide), rfl⟩
set_option maxRecDepth 100000 in
theorem flX2_15 : az_fl RX2 15 2 1 := ⟨RX2, TX2, 14, tyX2, clX2, by decide, Or.inl (az_tw 98 rfl rfl)⟩
set_option maxRecDepth 100000 in
theorem ffX2_15 : az_ff RX2 15 2 1 (tyX2 1) := ⟨RX2, TX2, 14, tyX2, clX2, by decide, az_tw 98 rfl rfl, rfl, tyX2_ok 1 (by decide), rfl⟩
set_option maxRecDepth 100000 in
theorem flX2_18 : az_fl RX2 18 2 2 := ⟨RX2, TX2, 14, tyX2, clX2, by decide, Or.inl (az_tw 100 rfl rfl)⟩
set_option maxRecDepth 100000 in
theorem ffX2_18 : az_ff RX2 18 2 2 (tyX2 2) := ⟨RX2, TX2, 14, tyX2, clX2, by decide, az_tw 100 rfl rfl, rfl, tyX2_ok 2 (by decide), rfl⟩
set_option maxRecDepth 100000 in
theorem flX2_21 : az_fl RX2 21 2 3 := ⟨RX2, TX2, 14, tyX2, clX2, by decide, Or.inl (az_tw 104 rfl rfl)⟩
set_option maxRecDepth 100000 in
theorem ffX2_21 : az_ff RX2 21 2 3 (tyX2 3) := ⟨RX2, TX2, 14, tyX2, clX2, by decide, az_tw 104 rfl rfl, rfl, tyX2_ok 3 (by decide), rfl⟩
set_option maxRecDepth 100000 in
theorem flX2_24 : az_fl RX2 24 2 4 := ⟨RX2, TX2, 14, tyX2, clX2, by decide, Or.inl (az_tw 107 rfl rfl)⟩
set_option maxRecDepth 100000 in
theorem ffX2_24 : az_ff RX2 24 2 4 (tyX2 4) := ⟨RX2, TX2, 14, tyX2, clX2, by decide, az_tw 107 rfl rfl, rfl, tyX2_ok 4 (by decide), rfl⟩
set_option maxRecDepth 100000 in
theorem flX2_27 : az_fl RX2 27 2 5 := ⟨RX2, TX2, 14, tyX2, clX2, by decide, Or.inl (az_tw 112 rfl rfl)⟩
set_option maxRecDepth 100000 in
theorem fwX2_27 : az_fw RX2 27 2 5 .int := ⟨RX2, TX2, 14, tyX2, clX2, by decide, Or.inl (az_tw 112 rfl rfl), rfl, tyX2_ok 5 (by decide)⟩
set_option maxRecDepth 100000 in
theorem flX2_31 : az_fl RX2 31 2 6 := ⟨RX2, TX2, 14, tyX2, clX2, by decide, Or.inl (az_tw 117 rfl rfl)⟩
set_option maxRecDepth 100000 in
theorem fwX2_31 : az_fw RX2 31 2 6 .int := ⟨RX2, TX2, 14, tyX2, clX2, by decide, Or.inl (az_tw 117 rfl rfl), rfl, tyX2_ok 6 (by decide)⟩
set_option maxRecDepth 100000 in
theorem flX2_34 : az_fl RX2 34 2 7 := ⟨RX2, TX2, 14, tyX2, clX2, by decide, Or.inl (az_tw 121 rfl rfl)⟩
set_option maxRecDepth 100000 in
theorem fwX2_34 : az_fw RX2 34 2 7 .int := ⟨RX2, TX2, 14, tyX2, clX2, by decide, Or.inl (az_tw 121 rfl rfl), rfl, tyX2_ok 7 (by decide)⟩
set_option maxRecDepth 100000 in
theorem flX2_37 : az_fl RX2 37 2 8 := ⟨RX2, TX2, 14, tyX2, clX2, by decide, Or.inl (az_tw 124 rfl rfl)⟩
set_option maxRecDepth 100000 in
theorem fwX2_37 : az_fw RX2 37 2 8 .int := ⟨RX2, TX2, 14, tyX2, clX2, by decide, Or.inl (az_tw 124 rfl rfl), rfl, tyX2_ok 8 (by decide)⟩
set_option maxRecDepth 100000 in
theorem flX2_40 : az_fl RX2 40 2 9 := ⟨RX2, TX2, 14, tyX2, clX2, by decide, Or.inl (az_tw 126 rfl rfl)⟩
set_option maxRecDepth 100000 in
theorem fwX2_40 : az_fw RX2 40 2 9 .int := ⟨RX2, TX2, 14, tyX2, clX2, by decide, Or.inl (az_tw 126 rfl rfl), rfl, tyX2_ok 9 (by decide)⟩
set_option maxRecDepth 100000 in
theorem flX2_43 : az_fl RX2 43 2 10 := ⟨RX2, TX2, 14, tyX2, clX2, by decide, Or.inl (az_tw 128 rfl rfl)⟩
set_option maxRecDepth 100000 in
theorem fwX2_43 : az_fw RX2 43 2 10 .int := ⟨RX2, TX2, 14, tyX2, clX2, by decide, Or.inl (az_tw 128 rfl rfl), rfl, tyX2_ok 10 (by decide)⟩
set_option maxRecDepth 100000 in
theorem flX2_46 : az_fl RX2 46 2 11 := ⟨RX2, TX2, 14, tyX2, clX2, by decide, Or.inl (az_tw 130 rfl rfl)⟩
set_option maxRecDepth 100000 in
theorem fwX2_46 : az_fw RX2 46 2 11 .int := ⟨RX2, TX2, 14, tyX2, clX2, by decide, Or.inl (az_tw 130 rfl rfl), rfl, tyX2_ok 11 (by decide)⟩
set_option maxRecDepth 100000 in
theorem flX2_49 : az_fl RX2 49 2 12 := ⟨RX2, TX2, 14, tyX2, clX2, by decide, Or.inl (az_tw 132 rfl rfl)⟩
set_option maxRecDepth 100000 in
theorem fwX2_49 : az_fw RX2 49 2 12 .int := ⟨RX2, TX2, 14, tyX2, clX2, by decide, Or.inl (az_tw 132 rfl rfl), rfl, tyX2_ok 12 (by decide)⟩
set_option maxRecDepth 100000 in
theorem flX2_52 : az_fl RX2 52 2 13 := ⟨RX2, TX2, 14, tyX2, clX2, by decide, Or.inl (az_tw 133 rfl rfl)⟩
set_option maxRecDepth 100000 in
theorem fwX2_52 : az_fw RX2 52 2 13 .int := ⟨RX2, TX2, 14, tyX2, clX2, by decide, Or.inl (az_tw 133 rfl rfl), rfl, tyX2_ok 13 (by decide)⟩
set_option maxRecDepth 100000 in
theorem flX3_12 : az_fl RX3 12 3 0 := ⟨RX3, TX3, 2, tyX3, clX3, by decide, Or.inl (az_tw 172 rfl rfl)⟩
set_option maxRecDepth 100000 in
theorem ffX3_12 : az_ff RX3 12 3 0 (tyX3 0) := ⟨RX3, TX3, 2, tyX3, clX3, by decide, az_tw 172 rfl rfl, rfl, tyX3_ok 0 (by decide), rfl⟩
set_option maxRecDepth 100000 in
theorem flX3_18 : az_fl RX3 18 3 1 := ⟨RX3, TX3, 2, tyX3, clX3, by decide, Or.inl (az_tw 173 rfl rfl)⟩
set_option maxRecDepth 100000 in
theorem fwX3_18 : az_fw RX3 18 3 1 .int := ⟨RX3, TX3, 2, tyX3, clX3, by decide, Or.inl (az_tw 173 rfl rfl), rfl, tyX3_ok 1 (by decide)⟩
set_option maxRecDepth 100000 in
theorem flX4_9 : az_fl RX4 9 4 0 := ⟨RX4, TX4, 4, tyX4, clX4, by decide, Or.inl (az_tw 262 rfl rfl)⟩
set_option maxRecDepth 100000 in
theorem ffX4_9 : az_ff RX4 9 4 0 (tyX4 0) := ⟨RX4, TX4, 4, tyX4, clX4, by decide, az_tw 262 rfl rfl, rfl, tyX4_ok 0 (by decide), rfl⟩
set_option maxRecDepth 100000 in
theorem flX4_15 : az_fl RX4 15 4 1 := ⟨RX4, TX4, 4, tyX4, clX4, by decide, Or.inl (az_tw 264 rfl rfl)⟩
set_option maxRecDepth 100000 in
theorem fwX4_15 : az_fw RX4 15 4 1 .int := ⟨RX4, TX4, 4, tyX4, clX4, by decide, Or.inl (az_tw 264 rfl rfl), rfl, tyX4_ok 1 (by decide)⟩
set_option maxRecDepth 100000 in
theorem flX4_19 : az_fl RX4 19 4 2 := ⟨RX4, TX4, 4, tyX4, clX4, by decide, Or.inl (az_tw 266 rfl rfl)⟩
set_option maxRecDepth 100000 in
theorem fwX4_19 : az_fw RX4 19 4 2 .int := ⟨RX4, TX4, 4, tyX4, clX4, by decide, Or.inl (az_tw 266 rfl rfl), rfl, tyX4_ok 2 (by decide)⟩
set_option maxRecDepth 100000 in
theorem flX4_22 : az_fl RX4 22 4 3 := ⟨RX4, TX4, 4, tyX4, clX4, by decide, Or.inl (az_tw 268 rfl rfl)⟩
set_option maxRecDepth 100000 in
theorem fwX4_22 : az_fw RX4 22 4 3 .int := ⟨RX4, TX4, 4, tyX4, clX4, by decide, Or.inl (az_tw 268 rfl rfl), rfl, tyX4_ok 3 (by decide)⟩
set_option maxRecDepth 100000 in
theorem flX5_9 : az_fl RX5 9 5 0 := ⟨RX5, TX5, 5, tyX5, clX5, by decide, Or.inl (az_tw 238 rfl rfl)⟩
set_option maxRecDepth 100000 in
theorem ffX5_9 : az_ff RX5 9 5 0 (tyX5 0) := ⟨RX5, TX5, 5, tyX5, clX5, by decide, az_tw 238 rfl rfl, rfl, tyX5_ok 0 (by decide), rfl⟩
set_option maxRecDepth 100000 in
theorem flX5_15 : az_fl RX5 15 5 1 := ⟨RX5, TX5, 5, tyX5, clX5, by decide, Or.inl (az_tw 239 rfl rfl)⟩
set_option maxRecDepth 100000 in
theorem fwX5_15 : az_fw RX5 15 5 1 .int := ⟨RX5, TX5, 5, tyX5, clX5, by decide, Or.inl (az_tw 239 rfl rfl), rfl, tyX5_ok 1 (by decide)⟩
set_option maxRecDepth 100000 in
theorem flX5_19 : az_fl RX5 19 5 2 := ⟨RX5, TX5, 5, tyX5, clX5, by decide, Or.inl (az_tw 241 rfl rfl)⟩
set_option maxRecDepth 100000 in
theorem fwX5_19 : az_fw RX5 19 5 2 .int := ⟨RX5, TX5, 5, tyX5, clX5, by decide, Or.inl (az_tw 241 rfl rfl), rfl, tyX5_ok 2 (by decide)⟩
set_option maxRecDepth 100000 in
theorem flX5_22 : az_fl RX5 22 5 3 := ⟨RX5, TX5, 5, tyX5, clX5, by decide, Or.inl (az_tw 242 rfl rfl)⟩
set_option maxRecDepth 100000 in
theorem fwX5_22 : az_fw RX5 22 5 3 .int := ⟨RX5, TX5, 5, tyX5, clX5, by decide, Or.inl (az_tw 242 rfl rfl), rfl, tyX5_ok 3 (by decide)⟩
set_option maxRecDepth 100000 in
theorem flX5_25 : az_fl RX5 25 5 4 := ⟨RX5, TX5, 5, tyX5, clX5, by decide, Or.inl (az_tw 243 rfl rfl)⟩
set_option maxRecDepth 100000 in
theorem fwX5_25 : az_fw RX5 25 5 4 .int := ⟨RX5, TX5, 5, tyX5, clX5, by decide, Or.inl (az_tw 243 rfl rfl), rfl, tyX5_ok 4 (by decide)⟩
set_option maxRecDepth 100000 in
theorem flX6_12 : az_fl RX6 12 6 0 := ⟨RX6, TX6, 2, tyX6, clX6, by decide, Or.inl (az_tw 209 rfl rfl)⟩
set_option maxRecDepth 100000 in
theorem ffX6_12 : az_ff RX6 12 6 0 (tyX6 0) := ⟨RX6, TX6, 2, tyX6, clX6, by decide, az_tw 209 rfl rfl, rfl, tyX6_ok 0 (by decide), rfl⟩
set_option maxRecDepth 100000 in
theorem flX6_18 : az_fl RX6 18 6 1 := ⟨RX6, TX6, 2, tyX6, clX6, by decide, Or.inl (az_tw 210 rfl rfl)⟩
set_option maxRecDepth 100000 in
theorem ffX6_18 : az_ff RX6 18 6 1 (tyX6 1) := ⟨RX6, TX6, 2, tyX6, clX6, by decide, az_tw 210 rfl rfl, rfl, tyX6_ok 1 (by decide), rfl⟩
set_option maxRecDepth 100000 in
theorem flX8_7 : az_fl RX8 7 8 0 := ⟨RX8, TX8, 42, tyX8, clX8, by decide, Or.inl (az_tw 1001 rfl rfl)⟩
set_option maxRecDepth 100000 in
theorem ffX8_7 : az_ff RX8 7 8 0 (tyX8 0) := ⟨RX8, TX8, 42, tyX8, clX8, by decide, az_tw 1001 rfl rfl, rfl, tyX8_ok 0 (by decide), rfl⟩
set_option maxRecDepth 100000 in
theorem flX8_13 : az_fl RX8 13 8 1 := ⟨RX8, TX8, 42, tyX8, clX8, by decide, Or.inl (az_tw 1002 rfl rfl)⟩
set_option maxRecDepth 100000 in
theorem ffX8_13 : az_ff RX8 13 8 1 (tyX8 1) := ⟨RX8, TX8, 42, tyX8, clX8, by decide, az_tw 1002 rfl rfl, rfl, tyX8_ok 1 (by decide), rfl⟩
set_option maxRecDepth 100000 in
theorem flX8_16 : az_fl RX8 16 8 2 := ⟨RX8, TX8, 42, tyX8, clX8, by decide, Or.inl (az_tw 1003 rfl rfl)⟩
set_option maxRecDepth 100000 in
theorem ffX8_16 : az_ff RX8 16 8 2 (tyX8 2) := ⟨RX8, TX8, 42, tyX8, clX8, by decide, az_tw 1003 rfl rfl, rfl, tyX8_ok 2 (by decide), rfl⟩
set_option maxRecDepth 100000 in
theorem flX8_21 : az_fl RX8 21 8 3 := ⟨RX8, TX8, 42, tyX8, clX8, by decide, Or.inl (az_tw 1004 rfl rfl)⟩
set_option maxRecDepth 100000 in
theorem ffX8_21 : az_ff RX8 21 8 3 (tyX8 3) := ⟨RX8, TX8, 42, tyX8, clX8, by decide, az_tw 1004 rfl rfl, rfl, tyX8_ok 3 (by decide), rfl⟩
set_option maxRecDepth 100000 in
theorem flX8_24 : az_fl RX8 24 8 4 := ⟨RX8, TX8, 42, tyX8, clX8, by decide, Or.inl (az_tw 1005 rfl rfl)⟩
set_option maxRecDepth 100000 in
theorem ffX8_24 : az_ff RX8 24 8 4 (tyX8 4) := ⟨RX8, TX8, 42, tyX8, clX8, by decide, az_tw 1005 rfl rfl, rfl, tyX8_ok 4 (by decide), rfl⟩
set_option maxRecDepth 100000 in
theorem flX8_28 : az_fl RX8 28 8 5 := ⟨RX8, TX8, 42, tyX8, clX8, by decide, Or.inl (az_tw 1006 rfl rfl)⟩
set_option maxRecDepth 100000 in
theorem ffX8_28 : az_ff RX8 28 8 5 (tyX8 5) := ⟨RX8, TX8, 42, tyX8, clX8, by decide, az_tw 1006 rfl rfl, rfl, tyX8_ok 5 (by decide), rfl⟩
set_option maxRecDepth 100000 in
theorem flX8_31 : az_fl RX8 31 8 6 := ⟨RX8, TX8, 42, tyX8, clX8, by decide, Or.inl (az_tw 1007 rfl rfl)⟩
set_option maxRecDepth 100000 in
theorem ffX8_31 : az_ff RX8 31 8 6 (tyX8 6) := ⟨RX8, TX8, 42, tyX8, clX8, by decide, az_tw 1007 rfl rfl, rfl, tyX8_ok 6 (by decide), rfl⟩
set_option maxRecDepth 100000 in
theorem flX8_34 : az_fl RX8 34 8 8 := ⟨RX8, TX8, 42, tyX8, clX8, by decide, Or.inl (az_tw 1009 rfl rfl)⟩
set_option maxRecDepth 100000 in
theorem ffX8_34 : az_ff RX8 34 8 8 (tyX8 8) := ⟨RX8, TX8, 42, tyX8, clX8, by decide, az_tw 1009 rfl rfl, rfl, tyX8_ok 8 (by decide), rfl⟩
set_option maxRecDepth 100000 in
theorem flX8_37 : az_fl RX8 37 8 9 := ⟨RX8, TX8, 42, tyX8, clX8, by decide, Or.inl (az_tw 1010 rfl rfl)⟩
set_option maxRecDepth 100000 in
theorem fwX8_37 : az_fw RX8 37 8 9 .int := ⟨RX8, TX8, 42, tyX8, clX8, by decide, Or.inl (az_tw 1010 rfl rfl), rfl, tyX8_ok 9 (by decide)⟩
set_option maxRecDepth 100000 in
theorem flX8_41 : az_fl RX8 41 8 10 := ⟨RX8, TX8, 42, tyX8, clX8, by decide, Or.inl (az_tw 1011 rfl rfl)⟩
set_option maxRecDepth 100000 in
theorem fwX8_41 : az_fw RX8 41 8 10 .int := ⟨RX8, TX8, 42, tyX8, clX8, by decide, Or.inl (az_tw 1011 rfl rfl), rfl, tyX8_ok 10 (by decide)⟩
set_option maxRecDepth 100000 in
theorem flX8_44 : az_fl RX8 44 8 12 := ⟨RX8, TX8, 42, tyX8, clX8, by decide, Or.inl (az_tw 1013 rfl rfl)⟩
set_option maxRecDepth 100000 in
theorem fwX8_44 : az_fw RX8 44 8 12 .int := ⟨RX8, TX8, 42, tyX8, clX8, by decide, Or.inl (az_tw 1013 rfl rfl), rfl, tyX8_ok 12 (by decide)⟩
set_option maxRecDepth 100000 in
theorem flX8_47 : az_fl RX8 47 8 13 := ⟨RX8, TX8, 42, tyX8, clX8, by decide, Or.inl (az_tw 1014 rfl rfl)⟩
set_option maxRecDepth 100000 in
theorem fwX8_47 : az_fw RX8 47 8 13 .int := ⟨RX8, TX8, 42, tyX8, clX8, by decide, Or.inl (az_tw 1014 rfl rfl), rfl, tyX8_ok 13 (by decide)⟩
set_option maxRecDepth 100000 in
theorem flX8_50 : az_fl RX8 50 8 15 := ⟨RX8, TX8, 42, tyX8, clX8, by decide, Or.inl (az_tw 1016 rfl rfl)⟩
set_option maxRecDepth 100000 in
theorem ffX8_50 : az_ff RX8 50 8 15 (tyX8 15) := ⟨RX8, TX8, 42, tyX8, clX8, by decide, az_tw 1016 rfl rfl, rfl, tyX8_ok 15 (by decide), rfl⟩
set_option maxRecDepth 100000 in
theorem flX8_53 : az_fl RX8 53 8 16 := ⟨RX8, TX8, 42, tyX8, clX8, by decide, Or.inl (az_tw 1017 rfl rfl)⟩
set_option maxRecDepth 100000 in
theorem ffX8_53 : az_ff RX8 53 8 16 (tyX8 16) := ⟨RX8, TX8, 42, tyX8, clX8, by decide, az_tw 1017 rfl rfl, rfl, tyX8_ok 16 (by decide), rfl⟩
set_option maxRecDepth 100000 in
theorem flX8_56 : az_fl RX8 56 8 17 := ⟨RX8, TX8, 42, tyX8, clX8, by decide, Or.inl (az_tw 1018 rfl rfl)⟩
set_option maxRecDepth 100000 in
theorem ffX8_56 : az_ff RX8 56 8 17 (tyX8 17) := ⟨RX8, TX8, 42, tyX8, clX8, by decide, az_tw 1018 rfl rfl, rfl, tyX8_ok 17 (by decide), rfl⟩
set_option maxRecDepth 100000 in
theorem flX8_59 : az_fl RX8 59 8 18 := ⟨RX8, TX8, 42, tyX8, clX8, by decide, Or.inl (az_tw 1019 rfl rfl)⟩
set_option maxRecDepth 100000 in
theorem ffX8_59 : az_ff RX8 59 8 18 (tyX8 18) := ⟨RX8, TX8, 42, tyX8, clX8, by decide, az_tw 1019 rfl rfl, rfl, tyX8_ok 18 (by decide), rfl⟩
set_option maxRecDepth 100000 in
theorem flX8_62 : az_fl RX8 62 8 19 := ⟨RX8, TX8, 42, tyX8, clX8, by decide, Or.inl (az_tw 1020 rfl rfl)⟩
set_option maxRecDepth 100000 in
theorem ffX8_62 : az_ff RX8 62 8 19 (tyX8 19) := ⟨RX8, TX8, 42, tyX8, clX8, by decide, az_tw 1020 rfl rfl, rfl, tyX8_ok 19 (by decide), rfl⟩
set_option maxRecDepth 100000 in
theorem flX8_65 : az_fl RX8 65 8 20 := ⟨RX8, TX8, 42, tyX8, clX8, by decide, Or.inl (az_tw 1021 rfl rfl)⟩
set_option maxRecDepth 100000 in
theorem fwX8_65 : az_fw RX8 65 8 20 .int := ⟨RX8, TX8, 42, tyX8, clX8, by decide, Or.inl (az_tw 1021 rfl rfl), rfl, tyX8_ok 20 (by decide)⟩
set_option maxRecDepth 100000 in
theorem flX8_68 : az_fl RX8 68 8 28 := ⟨RX8, TX8, 42, tyX8, clX8, by decide, Or.inl (az_tw 1029 rfl rfl)⟩
set_option maxRecDepth 100000 in
theorem ffX8_68 : az_ff RX8 68 8 28 (tyX8 28) := ⟨RX8, TX8, 42, tyX8, clX8, by decide, az_tw 1029 rfl rfl, rfl, tyX8_ok 28 (by decide), rfl⟩
set_option maxRecDepth 100000 in
theorem flX8_71 : az_fl RX8 71 8 30 := ⟨RX8, TX8, 42, tyX8, clX8, by decide, Or.inl (az_tw 1031 rfl rfl)⟩
set_option maxRecDepth 100000 in
theorem fwX8_71 : az_fw RX8 71 8 30 .int := ⟨RX8, TX8, 42, tyX8, clX8, by decide, Or.inl (az_tw 1031 rfl rfl), rfl, tyX8_ok 30 (by decide)⟩
set_option maxRecDepth 100000 in
theorem flX8_74 : az_fl RX8 74 8 33 := ⟨RX8, TX8, 42, tyX8, clX8, by decide, Or.inl (az_tw 1034 rfl rfl)⟩
set_option maxRecDepth 100000 in
theorem ffX8_74 : az_ff RX8 74 8 33 (tyX8 33) := ⟨RX8, TX8, 42, tyX8, clX8, by decide, az_tw 1034 rfl rfl, rfl, tyX8_ok 33 (by decide), rfl⟩
set_option maxRecDepth 100000 in
theorem flX8_77 : az_fl RX8 77 8 37 := ⟨RX8, TX8, 42, tyX8, clX8, by decide, Or.inl (az_tw 1038 rfl rfl)⟩
set_option maxRecDepth 100000 in
theorem ffX8_77 : az_ff RX8 77 8 37 (tyX8 37) := ⟨RX8, TX8, 42, tyX8, clX8, by decide, az_tw 1038 rfl rfl, rfl, tyX8_ok 37 (by decide), rfl⟩
set_option maxRecDepth 100000 in
theorem flX8_80 : az_fl RX8 80 8 38 := ⟨RX8, TX8, 42, tyX8, clX8, by decide, Or.inl (az_tw 1039 rfl rfl)⟩
set_option maxRecDepth 100000 in
theorem ffX8_80 : az_ff RX8 80 8 38 (tyX8 38) := ⟨RX8, TX8, 42, tyX8, clX8, by decide, az_tw 1039 rfl rfl, rfl, tyX8_ok 38 (by decide), rfl⟩
set_option maxRecDepth 100000 in
theorem flX8_85 : az_fl RX8 85 8 41 := ⟨RX8, TX8, 42, tyX8, clX8, by decide, Or.inl (az_tw 1042 rfl rfl)⟩
set_option maxRecDepth 100000 in
theorem ffX8_85 : az_ff RX8 85 8 41 (tyX8 41) := ⟨RX8, TX8, 42, tyX8, clX8, by decide, az_tw 1042 rfl rfl, rfl, tyX8_ok 41 (by decide), rfl⟩
set_option maxRecDepth 100000 in
theorem flX8_88 : az_fl RX8 88 8 14 := ⟨RX8, TX8, 42, tyX8, clX8, by decide, Or.inl (az_tw 1015 rfl rfl)⟩
set_option maxRecDepth 100000 in
theorem fwX8_88 : az_fw RX8 88 8 14 .int := ⟨RX8, TX8, 42, tyX8, clX8, by decide, Or.inl (az_tw 1015 rfl rfl), rfl, tyX8_ok 14 (by decide)⟩
set_option maxRecDepth 100000 in
theorem flX8_139 : az_fl RX8 139 8 11 := ⟨RX8, TX8, 42, tyX8, clX8, by decide, Or.inl (az_tw 1012 rfl rfl)⟩
set_option maxRecDepth 100000 in
theorem fwX8_139 : az_fw RX8 139 8 11 .int := ⟨RX8, TX8, 42, tyX8, clX8, by decide, Or.inl (az_tw 1012 rfl rfl), rfl, tyX8_ok 11 (by decide)⟩
set_option maxRecDepth 100000 in
theorem flX8_144 : az_fl RX8 144 8 7 := ⟨RX8, TX8, 42, tyX8, clX8, by decide, Or.inl (az_tw 1008 rfl rfl)⟩
set_option maxRecDepth 100000 in
theorem fwX8_144 : az_fw RX8 144 8 7 .int := ⟨RX8, TX8, 42, tyX8, clX8, by decide, Or.inl (az_tw 1008 rfl rfl), rfl, tyX8_ok 7 (by decide)⟩
set_option maxRecDepth 100000 in
theorem flX8_147 : az_fl RX8 147 8 23 := ⟨RX8, TX8, 42, tyX8, clX8, by decide, Or.inl (az_tw 1024 rfl rfl)⟩
set_option maxRecDepth 100000 in
theorem fwX8_147 : az_fw RX8 147 8 23 .int := ⟨RX8, TX8, 42, tyX8, clX8, by decide, Or.inl (az_tw 1024 rfl rfl), rfl, tyX8_ok 23 (by decide)⟩
set_option maxRecDepth 100000 in
theorem flX8_150 : az_fl RX8 150 8 25 := ⟨RX8, TX8, 42, tyX8, clX8, by decide, Or.inl (az_tw 1026 rfl rfl)⟩
set_option maxRecDepth 100000 in
theorem fwX8_150 : az_fw RX8 150 8 25 .int := ⟨RX8, TX8, 42, tyX8, clX8, by decide, Or.inl (az_tw 1026 rfl rfl), rfl, tyX8_ok 25 (by decide)⟩
set_option maxRecDepth 100000 in
theorem flX8_153 : az_fl RX8 153 8 26 := ⟨RX8, TX8, 42, tyX8, clX8, by decide, Or.inl (az_tw 1027 rfl rfl)⟩
set_option maxRecDepth 100000 in
theorem fwX8_153 : az_fw RX8 153 8 26 .int := ⟨RX8, TX8, 42, tyX8, clX8, by decide, Or.inl (az_tw 1027 rfl rfl), rfl, tyX8_ok 26 (by decide)⟩
set_option maxRecDepth 100000 in
theorem flX8_156 : az_fl RX8 156 8 24 := ⟨RX8, TX8, 42, tyX8, clX8, by decide, Or.inl (az_tw 1025 rfl rfl)⟩
set_option maxRecDepth 100000 in
theorem fwX8_156 : az_fw RX8 156 8 24 .int := ⟨RX8, TX8, 42, tyX8, clX8, by decide, Or.inl (az_tw 1025 rfl rfl), rfl, tyX8_ok 24 (by decide)⟩
set_option maxRecDepth 100000 in
theorem flX8_166 : az_fl RX8 166 8 27 := ⟨RX8, TX8, 42, tyX8, clX8, by decide, Or.inl (az_tw 1028 rfl rfl)⟩
set_option maxRecDepth 100000 in
theorem fwX8_166 : az_fw RX8 166 8 27 .int := ⟨RX8, TX8, 42, tyX8, clX8, by decide, Or.inl (az_tw 1028 rfl rfl), rfl, tyX8_ok 27 (by decide)⟩
set_option maxRecDepth 100000 in
theorem flX8_209 : az_fl RX8 209 8 29 := ⟨RX8, TX8, 42, tyX8, clX8, by decide, Or.inl (az_tw 1030 rfl rfl)⟩
set_option maxRecDepth 100000 in
theorem fwX8_209 : az_fw RX8 209 8 29 .int := ⟨RX8, TX8, 42, tyX8, clX8, by decide, Or.inl (az_tw 1030 rfl rfl), rfl, tyX8_ok 29 (by decide)⟩
set_option maxRecDepth 100000 in
theorem flX8_215 : az_fl RX8 215 8 22 := ⟨RX8, TX8, 42, tyX8, clX8, by decide, Or.inl (az_tw 1023 rfl rfl)⟩
set_option maxRecDepth 100000 in
theorem fwX8_215 : az_fw RX8 215 8 22 (tyX8 22) := ⟨RX8, TX8, 42, tyX8, clX8, by decide, Or.inl (az_tw 1023 rfl rfl), rfl, tyX8_ok 22 (by decide)⟩
set_option maxRecDepth 100000 in
theorem flX8_253 : az_fl RX8 253 8 31 := ⟨RX8, TX8, 42, tyX8, clX8, by decide, Or.inl (az_tw 1032 rfl rfl)⟩
set_option maxRecDepth 100000 in
theorem fwX8_253 : az_fw RX8 253 8 31 .int := ⟨RX8, TX8, 42, tyX8, clX8, by decide, Or.inl (az_tw 1032 rfl rfl), rfl, tyX8_ok 31 (by decide)⟩
set_option maxRecDepth 100000 in
theorem flX8_256 : az_fl RX8 256 8 32 := ⟨RX8, TX8, 42, tyX8, clX8, by decide, Or.inl (az_tw 1033 rfl rfl)⟩
set_option maxRecDepth 100000 in
theorem fwX8_256 : az_fw RX8 256 8 32 .int := ⟨RX8, TX8, 42, tyX8, clX8, by decide, Or.inl (az_tw 1033 rfl rfl), rfl, tyX8_ok 32 (by decide)⟩
set_option maxRecDepth 100000 in
theorem flX8_262 : az_fl RX8 262 8 34 := ⟨RX8, TX8, 42, tyX8, clX8, by decide, Or.inl (az_tw 1035 rfl rfl)⟩
set_option maxRecDepth 100000 in
theorem fwX8_262 : az_fw RX8 262 8 34 .int := ⟨RX8, TX8, 42, tyX8, clX8, by decide, Or.inl (az_tw 1035 rfl rfl), rfl, tyX8_ok 34 (by decide)⟩
set_option maxRecDepth 100000 in
theorem flX8_285 : az_fl RX8 285 8 35 := ⟨RX8, TX8, 42, tyX8, clX8, by decide, Or.inl (az_tw 1036 rfl rfl)⟩
set_option maxRecDepth 100000 in
theorem fwX8_285 : az_fw RX8 285 8 35 .int := ⟨RX8, TX8, 42, tyX8, clX8, by decide, Or.inl (az_tw 1036 rfl rfl), rfl, tyX8_ok 35 (by decide)⟩
set_option maxRecDepth 100000 in
theorem flX8_288 : az_fl RX8 288 8 36 := ⟨RX8, TX8, 42, tyX8, clX8, by decide, Or.inl (az_tw 1037 rfl rfl)⟩
set_option maxRecDepth 100000 in
theorem fwX8_288 : az_fw RX8 288 8 36 .int := ⟨RX8, TX8, 42, tyX8, clX8, by decide, Or.inl (az_tw 1037 rfl rfl), rfl, tyX8_ok 36 (by decide)⟩
set_option maxRecDepth 100000 in
theorem flX8_336 : az_fl RX8 336 8 39 := ⟨RX8, TX8, 42, tyX8, clX8, by decide, Or.inl (az_tw 1040 rfl rfl)⟩
set_option maxRecDepth 100000 in
theorem fwX8_336 : az_fw RX8 336 8 39 .int := ⟨RX8, TX8, 42, tyX8, clX8, by decide, Or.inl (az_tw 1040 rfl rfl), rfl, tyX8_ok 39 (by decide)⟩
set_option maxRecDepth 100000 in
theorem flX8_339 : az_fl RX8 339 8 40 := ⟨RX8, TX8, 42, tyX8, clX8, by decide, Or.inl (az_tw 1041 rfl rfl)⟩
set_option maxRecDepth 100000 in
theorem fwX8_339 : az_fw RX8 339 8 40 .int := ⟨RX8, TX8, 42, tyX8, clX8, by decide, Or.inl (az_tw 1041 rfl rfl), rfl, tyX8_ok 40 (by decide)⟩
set_option maxRecDepth 100000 in
theorem flX8_359 : az_fl RX8 359 8 21 := ⟨RX8, TX8, 42, tyX8, clX8, by decide, Or.inl (az_tw 1022 rfl rfl)⟩
set_option maxRecDepth 100000 in
theorem fwX8_359 : az_fw RX8 359 8 21 (tyX8 21) := ⟨RX8, TX8, 42, tyX8, clX8, by decide, Or.inl (az_tw 1022 rfl rfl), rfl, tyX8_ok 21 (by decide)⟩
set_option maxRecDepth 100000 in
theorem flJ0_9 : Cond.fieldLink RJ0 9 "java/lang/String" "value" "[B" ∈ az_tb := az_tw 1572 rfl rfl
set_option maxRecDepth 100000 in
theorem flJ0_15 : Cond.fieldLink RJ0 15 "java/lang/String" "coder" "B" ∈ az_tb := az_tw 1573 rfl rfl
set_option maxRecDepth 100000 in
theorem flJ0_38 : Cond.fieldLink RJ0 38 "java/lang/String" "COMPACT_STRINGS" "Z" ∈ az_tb := az_tw 526 rfl rfl
set_option maxRecDepth 100000 in
theorem flJ0_1053 : Cond.fieldLink RJ0 1053 "jdk/internal/util/Preconditions" "SIOOBE_FORMATTER" "Ljava/util/function/BiFunction;" ∈ az_tb := az_tw 542 rfl rfl
set_option maxRecDepth 100000 in
theorem flJ2_44 : Cond.fieldLink RJ2 44 "java/lang/StringUTF16" "$assertionsDisabled" "Z" ∈ az_tb := az_tw 560 rfl rfl
set_option maxRecDepth 100000 in
theorem flJ2_59 : Cond.fieldLink RJ2 59 "java/lang/StringUTF16" "HI_BYTE_SHIFT" "I" ∈ az_tb := az_tw 562 rfl rfl
set_option maxRecDepth 100000 in
theorem flJ2_63 : Cond.fieldLink RJ2 63 "java/lang/StringUTF16" "LO_BYTE_SHIFT" "I" ∈ az_tb := az_tw 564 rfl rfl
theorem flX7_103 : az_fl RX7 103 4 1 := ⟨RX4, TX4, 4, tyX4, clX4, by decide, Or.inr ⟨"ColdestSaysSo", List.mem_of_getElem? (i := 38) rfl⟩⟩
theorem fwX7_103 : az_fw RX7 103 4 1 .int := ⟨RX4, TX4, 4, tyX4, clX4, by decide, Or.inr ⟨"ColdestSaysSo", List.mem_of_getElem? (i := 38) rfl⟩, rfl, tyX4_ok 1 (by decide)⟩
theorem flX7_110 : az_fl RX7 110 4 0 := ⟨RX4, TX4, 4, tyX4, clX4, by decide, Or.inr ⟨"ColdestSaysSo", List.mem_of_getElem? (i := 37) rfl⟩⟩
theorem flX7_124 : az_fl RX7 124 4 3 := ⟨RX4, TX4, 4, tyX4, clX4, by decide, Or.inr ⟨"ColdestSaysSo", List.mem_of_getElem? (i := 40) rfl⟩⟩
theorem fwX7_124 : az_fw RX7 124 4 3 .int := ⟨RX4, TX4, 4, tyX4, clX4, by decide, Or.inr ⟨"ColdestSaysSo", List.mem_of_getElem? (i := 40) rfl⟩, rfl, tyX4_ok 3 (by decide)⟩
theorem flX7_140 : az_fl RX7 140 2 0 := ⟨RX2, TX2, 14, tyX2, clX2, by decide, Or.inr ⟨"ColdestSaysSo", List.mem_of_getElem? (i := 2) rfl⟩⟩
theorem flX7_146 : az_fl RX7 146 2 2 := ⟨RX2, TX2, 14, tyX2, clX2, by decide, Or.inr ⟨"ColdestSaysSo", List.mem_of_getElem? (i := 5) rfl⟩⟩
theorem flX7_162 : az_fl RX7 162 2 3 := ⟨RX2, TX2, 14, tyX2, clX2, by decide, Or.inr ⟨"ColdestSaysSo", List.mem_of_getElem? (i := 8) rfl⟩⟩
theorem flX7_165 : az_fl RX7 165 2 4 := ⟨RX2, TX2, 14, tyX2, clX2, by decide, Or.inr ⟨"ColdestSaysSo", List.mem_of_getElem? (i := 11) rfl⟩⟩
theorem flX7_174 : az_fl RX7 174 2 9 := ⟨RX2, TX2, 14, tyX2, clX2, by decide, Or.inr ⟨"ColdestSaysSo", List.mem_of_getElem? (i := 23) rfl⟩⟩
theorem fwX7_174 : az_fw RX7 174 2 9 .int := ⟨RX2, TX2, 14, tyX2, clX2, by decide, Or.inr ⟨"ColdestSaysSo", List.mem_of_getElem? (i := 23) rfl⟩, rfl, tyX2_ok 9 (by decide)⟩
theorem flX7_201 : az_fl RX7 201 2 1 := ⟨RX2, TX2, 14, tyX2, clX2, by decide, Or.inr ⟨"ColdestSaysSo", List.mem_of_getElem? (i := 3) rfl⟩⟩
theorem flX7_213 : az_fl RX7 213 2 5 := ⟨RX2, TX2, 14, tyX2, clX2, by decide, Or.inr ⟨"ColdestSaysSo", List.mem_of_getElem? (i := 16) rfl⟩⟩
theorem fwX7_213 : az_fw RX7 213 2 5 .int := ⟨RX2, TX2, 14, tyX2, clX2, by decide, Or.inr ⟨"ColdestSaysSo", List.mem_of_getElem? (i := 16) rfl⟩, rfl, tyX2_ok 5 (by decide)⟩
theorem flX7_228 : az_fl RX7 228 2 6 := ⟨RX2, TX2, 14, tyX2, clX2, by decide, Or.inr ⟨"ColdestSaysSo", List.mem_of_getElem? (i := 19) rfl⟩⟩
theorem fwX7_228 : az_fw RX7 228 2 6 .int := ⟨RX2, TX2, 14, tyX2, clX2, by decide, Or.inr ⟨"ColdestSaysSo", List.mem_of_getElem? (i := 19) rfl⟩, rfl, tyX2_ok 6 (by decide)⟩
theorem flX7_235 : az_fl RX7 235 3 1 := ⟨RX3, TX3, 2, tyX3, clX3, by decide, Or.inr ⟨"ColdestSaysSo", List.mem_of_getElem? (i := 28) rfl⟩⟩
theorem fwX7_235 : az_fw RX7 235 3 1 .int := ⟨RX3, TX3, 2, tyX3, clX3, by decide, Or.inr ⟨"ColdestSaysSo", List.mem_of_getElem? (i := 28) rfl⟩, rfl, tyX3_ok 1 (by decide)⟩
theorem flX7_238 : az_fl RX7 238 2 10 := ⟨RX2, TX2, 14, tyX2, clX2, by decide, Or.inr ⟨"ColdestSaysSo", List.mem_of_getElem? (i := 24) rfl⟩⟩
theorem fwX7_238 : az_fw RX7 238 2 10 .int := ⟨RX2, TX2, 14, tyX2, clX2, by decide, Or.inr ⟨"ColdestSaysSo", List.mem_of_getElem? (i := 24) rfl⟩, rfl, tyX2_ok 10 (by decide)⟩
theorem flX7_298 : az_fl RX7 298 2 7 := ⟨RX2, TX2, 14, tyX2, clX2, by decide, Or.inr ⟨"ColdestSaysSo", List.mem_of_getElem? (i := 21) rfl⟩⟩
theorem fwX7_298 : az_fw RX7 298 2 7 .int := ⟨RX2, TX2, 14, tyX2, clX2, by decide, Or.inr ⟨"ColdestSaysSo", List.mem_of_getElem? (i := 21) rfl⟩, rfl, tyX2_ok 7 (by decide)⟩
theorem flX7_332 : az_fl RX7 332 2 11 := ⟨RX2, TX2, 14, tyX2, clX2, by decide, Or.inr ⟨"ColdestSaysSo", List.mem_of_getElem? (i := 25) rfl⟩⟩
theorem fwX7_332 : az_fw RX7 332 2 11 .int := ⟨RX2, TX2, 14, tyX2, clX2, by decide, Or.inr ⟨"ColdestSaysSo", List.mem_of_getElem? (i := 25) rfl⟩, rfl, tyX2_ok 11 (by decide)⟩
theorem flX7_335 : az_fl RX7 335 2 8 := ⟨RX2, TX2, 14, tyX2, clX2, by decide, Or.inr ⟨"ColdestSaysSo", List.mem_of_getElem? (i := 22) rfl⟩⟩
theorem fwX7_335 : az_fw RX7 335 2 8 .int := ⟨RX2, TX2, 14, tyX2, clX2, by decide, Or.inr ⟨"ColdestSaysSo", List.mem_of_getElem? (i := 22) rfl⟩, rfl, tyX2_ok 8 (by decide)⟩
theorem flX7_341 : az_fl RX7 341 5 1 := ⟨RX5, TX5, 5, tyX5, clX5, by decide, Or.inr ⟨"ColdestSaysSo", List.mem_of_getElem? (i := 35) rfl⟩⟩
theorem fwX7_341 : az_fw RX7 341 5 1 .int := ⟨RX5, TX5, 5, tyX5, clX5, by decide, Or.inr ⟨"ColdestSaysSo", List.mem_of_getElem? (i := 35) rfl⟩, rfl, tyX5_ok 1 (by decide)⟩
theorem flX7_350 : az_fl RX7 350 4 2 := ⟨RX4, TX4, 4, tyX4, clX4, by decide, Or.inr ⟨"ColdestSaysSo", List.mem_of_getElem? (i := 39) rfl⟩⟩
theorem fwX7_350 : az_fw RX7 350 4 2 .int := ⟨RX4, TX4, 4, tyX4, clX4, by decide, Or.inr ⟨"ColdestSaysSo", List.mem_of_getElem? (i := 39) rfl⟩, rfl, tyX4_ok 2 (by decide)⟩
theorem flX1_39 : az_fl RX1 39 2 6 := ⟨RX2, TX2, 14, tyX2, clX2, by decide, Or.inr ⟨"ColdestSaysSo", List.mem_of_getElem? (i := 17) rfl⟩⟩
theorem fwX1_39 : az_fw RX1 39 2 6 .int := ⟨RX2, TX2, 14, tyX2, clX2, by decide, Or.inr ⟨"ColdestSaysSo", List.mem_of_getElem? (i := 17) rfl⟩, rfl, tyX2_ok 6 (by decide)⟩
theorem flX1_46 : az_fl RX1 46 2 7 := ⟨RX2, TX2, 14, tyX2, clX2, by decide, Or.inr ⟨"ColdestSaysSo", List.mem_of_getElem? (i := 20) rfl⟩⟩
theorem fwX1_46 : az_fw RX1 46 2 7 .int := ⟨RX2, TX2, 14, tyX2, clX2, by decide, Or.inr ⟨"ColdestSaysSo", List.mem_of_getElem? (i := 20) rfl⟩, rfl, tyX2_ok 7 (by decide)⟩
theorem flX3_34 : az_fl RX3 34 2 5 := ⟨RX2, TX2, 14, tyX2, clX2, by decide, Or.inr ⟨"ColdestSaysSo", List.mem_of_getElem? (i := 14) rfl⟩⟩
theorem fwX3_34 : az_fw RX3 34 2 5 .int := ⟨RX2, TX2, 14, tyX2, clX2, by decide, Or.inr ⟨"ColdestSaysSo", List.mem_of_getElem? (i := 14) rfl⟩, rfl, tyX2_ok 5 (by decide)⟩
theorem flX3_71 : az_fl RX3 71 2 2 := ⟨RX2, TX2, 14, tyX2, clX2, by decide, Or.inr ⟨"ColdestSaysSo", List.mem_of_getElem? (i := 6) rfl⟩⟩
theorem flX3_81 : az_fl RX3 81 2 6 := ⟨RX2, TX2, 14, tyX2, clX2, by decide, Or.inr ⟨"ColdestSaysSo", List.mem_of_getElem? (i := 18) rfl⟩⟩
theorem fwX3_81 : az_fw RX3 81 2 6 .int := ⟨RX2, TX2, 14, tyX2, clX2, by decide, Or.inr ⟨"ColdestSaysSo", List.mem_of_getElem? (i := 18) rfl⟩, rfl, tyX2_ok 6 (by decide)⟩
theorem flX3_95 : az_fl RX3 95 2 4 := ⟨RX2, TX2, 14, tyX2, clX2, by decide, Or.inr ⟨"ColdestSaysSo", List.mem_of_getElem? (i := 12) rfl⟩⟩
theorem flX5_57 : az_fl RX5 57 2 4 := ⟨RX2, TX2, 14, tyX2, clX2, by decide, Or.inr ⟨"ColdestSaysSo", List.mem_of_getElem? (i := 10) rfl⟩⟩
theorem flX5_60 : az_fl RX5 60 2 5 := ⟨RX2, TX2, 14, tyX2, clX2, by decide, Or.inr ⟨"ColdestSaysSo", List.mem_of_getElem? (i := 15) rfl⟩⟩
theorem fwX5_60 : az_fw RX5 60 2 5 .int := ⟨RX2, TX2, 14, tyX2, clX2, by decide, Or.inr ⟨"ColdestSaysSo", List.mem_of_getElem? (i := 15) rfl⟩, rfl, tyX2_ok 5 (by decide)⟩
theorem flX5_69 : az_fl RX5 69 2 3 := ⟨RX2, TX2, 14, tyX2, clX2, by decide, Or.inr ⟨"ColdestSaysSo", List.mem_of_getElem? (i := 7) rfl⟩⟩
theorem flX5_79 : az_lk RX5 79 "ColdestSaysSo" "MOST_TOLD" "[I" := Or.inr ⟨"ColdestSaysSo", List.mem_of_getElem? (i := 42) rfl⟩
theorem flX6_26 : az_fl RX6 26 2 5 := ⟨RX2, TX2, 14, tyX2, clX2, by decide, Or.inr ⟨"ColdestSaysSo", List.mem_of_getElem? (i := 13) rfl⟩⟩
theorem fwX6_26 : az_fw RX6 26 2 5 .int := ⟨RX2, TX2, 14, tyX2, clX2, by decide, Or.inr ⟨"ColdestSaysSo", List.mem_of_getElem? (i := 13) rfl⟩, rfl, tyX2_ok 5 (by decide)⟩
theorem flX6_30 : az_fl RX6 30 2 0 := ⟨RX2, TX2, 14, tyX2, clX2, by decide, Or.inr ⟨"ColdestSaysSo", List.mem_of_getElem? (i := 1) rfl⟩⟩
theorem flX6_45 : az_fl RX6 45 2 4 := ⟨RX2, TX2, 14, tyX2, clX2, by decide, Or.inr ⟨"ColdestSaysSo", List.mem_of_getElem? (i := 9) rfl⟩⟩
theorem flX6_52 : az_fl RX6 52 2 2 := ⟨RX2, TX2, 14, tyX2, clX2, by decide, Or.inr ⟨"ColdestSaysSo", List.mem_of_getElem? (i := 4) rfl⟩⟩
set_option maxRecDepth 100000 in
theorem mlX7_1 : Cond.methodLink RX7 1 Lib.objectInit ∈ az_tb := az_tw 86 rfl rfl
set_option maxRecDepth 100000 in
theorem mlX7_69 : az_sl RX7 69 yX7_isShelf := Or.inl (az_tw 315 rfl rfl)
set_option maxRecDepth 100000 in
theorem mlX7_73 : az_sl RX7 73 yX7_isWithin := Or.inl (az_tw 318 rfl rfl)
set_option maxRecDepth 100000 in
theorem mlX7_77 : Cond.methodLink RX7 77 yX7_refuse ∈ az_tb := az_tw 321 rfl rfl
set_option maxRecDepth 100000 in
theorem mlX7_81 : Cond.methodLink RX7 81 yX4_holdRow ∈ az_tb := az_tw 325 rfl rfl
set_option maxRecDepth 100000 in
theorem mlX7_85 : Cond.methodLink RX7 85 yX7_rowFault ∈ az_tb := az_tw 342 rfl rfl
set_option maxRecDepth 100000 in
theorem mlX7_89 : Cond.methodLink RX7 89 yX4_hasPlace ∈ az_tb := az_tw 359 rfl rfl
set_option maxRecDepth 100000 in
theorem mlX7_92 : Cond.methodLink RX7 92 yX4_put ∈ az_tb := az_tw 363 rfl rfl
set_option maxRecDepth 100000 in
theorem mlX7_96 : Cond.methodLink RX7 96 yX4_holdsOne ∈ az_tb := az_tw 346 rfl rfl
set_option maxRecDepth 100000 in
theorem mlX7_100 : Cond.methodLink RX7 100 yX4_isBare ∈ az_tb := az_tw 350 rfl rfl
set_option maxRecDepth 100000 in
theorem mlX7_107 : Cond.methodLink RX7 107 yX4_hasStretch ∈ az_tb := az_tw 376 rfl rfl
set_option maxRecDepth 100000 in
theorem mlX7_114 : Cond.methodLink RX7 114 arraycopyName ∈ az_tb := az_tw 380 rfl rfl
set_option maxRecDepth 100000 in
theorem mlX7_120 : Cond.methodLink RX7 120 yX4_at ∈ az_tb := az_tw 387 rfl rfl
set_option maxRecDepth 100000 in
theorem mlX7_127 : Cond.methodLink RX7 127 yX2_hasOne ∈ az_tb := az_tw 399 rfl rfl
set_option maxRecDepth 100000 in
theorem mlX7_130 : Cond.methodLink RX7 130 yX4_holdOne ∈ az_tb := az_tw 403 rfl rfl
set_option maxRecDepth 100000 in
theorem mlX7_134 : az_sl RX7 134 yX7_isKind := Or.inl (az_tw 411 rfl rfl)
set_option maxRecDepth 100000 in
theorem mlX7_137 : Cond.methodLink RX7 137 yX4_holdsRow ∈ az_tb := az_tw 414 rfl rfl
set_option maxRecDepth 100000 in
theorem mlX7_143 : az_sl RX7 143 yX7_isOfOrUnder := Or.inl (az_tw 415 rfl rfl)
set_option maxRecDepth 100000 in
theorem mlX7_149 : Cond.methodLink RX7 149 yX2_coldAs ∈ az_tb := az_tw 420 rfl rfl
set_option maxRecDepth 100000 in
theorem mlX7_152 : Cond.methodLink RX7 152 yX2_isFull ∈ az_tb := az_tw 430 rfl rfl
set_option maxRecDepth 100000 in
theorem mlX7_155 : Cond.methodLink RX7 155 yX2_settle ∈ az_tb := az_tw 434 rfl rfl
set_option maxRecDepth 100000 in
theorem mlX7_171 : Cond.methodLink RX7 171 yX2_change ∈ az_tb := az_tw 454 rfl rfl
set_option maxRecDepth 100000 in
theorem mlX7_177 : az_sl RX7 177 yX7_asNumber := Or.inl (az_tw 462 rfl rfl)
set_option maxRecDepth 100000 in
theorem mlX7_181 : Cond.methodLink RX7 181 yX5_isFull ∈ az_tb := az_tw 467 rfl rfl
set_option maxRecDepth 100000 in
theorem mlX7_182 : Cond.methodLink RX7 182 yX5_append ∈ az_tb := az_tw 471 rfl rfl
set_option maxRecDepth 100000 in
theorem mlX7_185 : Cond.methodLink RX7 185 yX5_clear ∈ az_tb := az_tw 480 rfl rfl
set_option maxRecDepth 100000 in
theorem mlX7_189 : Cond.methodLink RX7 189 yX3_begin ∈ az_tb := az_tw 488 rfl rfl
set_option maxRecDepth 100000 in
theorem mlX7_193 : Cond.methodLink RX7 193 yX5_readInto ∈ az_tb := az_tw 497 rfl rfl
set_option maxRecDepth 100000 in
theorem mlX7_197 : Cond.methodLink RX7 197 yX2_load ∈ az_tb := az_tw 588 rfl rfl
set_option maxRecDepth 100000 in
theorem mlX7_204 : Cond.methodLink RX7 204 yX2_limitBy ∈ az_tb := az_tw 594 rfl rfl
set_option maxRecDepth 100000 in
theorem mlX7_207 : Cond.methodLink RX7 207 yX2_isHeard ∈ az_tb := az_tw 602 rfl rfl
set_option maxRecDepth 100000 in
theorem mlX7_210 : Cond.methodLink RX7 210 yX2_coldestOne ∈ az_tb := az_tw 612 rfl rfl
set_option maxRecDepth 100000 in
theorem mlX7_216 : Cond.methodLink RX7 216 yX2_standsSo ∈ az_tb := az_tw 624 rfl rfl
set_option maxRecDepth 100000 in
theorem mlX7_219 : Cond.methodLink RX7 219 yX2_ranked ∈ az_tb := az_tw 634 rfl rfl
set_option maxRecDepth 100000 in
theorem mlX7_222 : Cond.methodLink RX7 222 yX2_firstSo ∈ az_tb := az_tw 646 rfl rfl
set_option maxRecDepth 100000 in
theorem mlX7_225 : Cond.methodLink RX7 225 yX2_coolDown ∈ az_tb := az_tw 659 rfl rfl
set_option maxRecDepth 100000 in
theorem mlX7_231 : Cond.methodLink RX7 231 yX3_leastFeed ∈ az_tb := az_tw 668 rfl rfl
set_option maxRecDepth 100000 in
theorem mlX7_241 : Cond.methodLink RX7 241 yX3_fewestWarmed ∈ az_tb := az_tw 683 rfl rfl
set_option maxRecDepth 100000 in
theorem mlX7_244 : Cond.methodLink RX7 244 yX3_bestAway ∈ az_tb := az_tw 701 rfl rfl
set_option maxRecDepth 100000 in
theorem mlX7_248 : Cond.methodLink RX7 248 yX7_twosFault ∈ az_tb := az_tw 716 rfl rfl
set_option maxRecDepth 100000 in
theorem mlX7_251 : az_sl RX7 251 yX7_areAirs := Or.inl (az_tw 720 rfl rfl)
set_option maxRecDepth 100000 in
theorem mlX7_255 : az_sl RX7 255 yX7_areWhethers := Or.inl (az_tw 724 rfl rfl)
set_option maxRecDepth 100000 in
theorem mlX7_258 : Cond.methodLink RX7 258 yX3_pridesBy ∈ az_tb := az_tw 727 rfl rfl
set_option maxRecDepth 100000 in
theorem mlX7_262 : Cond.methodLink RX7 262 yX3_kindsBy ∈ az_tb := az_tw 742 rfl rfl
set_option maxRecDepth 100000 in
theorem mlX7_265 : Cond.methodLink RX7 265 yX0_firstClash ∈ az_tb := az_tw 759 rfl rfl
set_option maxRecDepth 100000 in
theorem mlX7_269 : Cond.methodLink RX7 269 yX7_bowlsFault ∈ az_tb := az_tw 781 rfl rfl
set_option maxRecDepth 100000 in
theorem mlX7_272 : Cond.methodLink RX7 272 yX0_countOrders ∈ az_tb := az_tw 785 rfl rfl
set_option maxRecDepth 100000 in
theorem mlX7_275 : Cond.methodLink RX7 275 yX0_bestTwo ∈ az_tb := az_tw 793 rfl rfl
set_option maxRecDepth 100000 in
theorem mlX7_278 : Cond.methodLink RX7 278 yX0_underNobody ∈ az_tb := az_tw 802 rfl rfl
set_option maxRecDepth 100000 in
theorem mlX7_281 : Cond.methodLink RX7 281 yX2_isColder ∈ az_tb := az_tw 810 rfl rfl
set_option maxRecDepth 100000 in
theorem mlX7_284 : Cond.methodLink RX7 284 yX6_canMakeSo ∈ az_tb := az_tw 815 rfl rfl
set_option maxRecDepth 100000 in
theorem mlX7_288 : Cond.methodLink RX7 288 yX1_spread ∈ az_tb := az_tw 838 rfl rfl
set_option maxRecDepth 100000 in
theorem mlX7_292 : Cond.methodLink RX7 292 yX1_likely ∈ az_tb := az_tw 855 rfl rfl
set_option maxRecDepth 100000 in
theorem mlX7_295 : Cond.methodLink RX7 295 yX1_meanAir ∈ az_tb := az_tw 860 rfl rfl
set_option maxRecDepth 100000 in
theorem mlX7_301 : Cond.methodLink RX7 301 yX3_firstHeard ∈ az_tb := az_tw 881 rfl rfl
set_option maxRecDepth 100000 in
theorem mlX7_304 : Cond.methodLink RX7 304 yX3_bestHolder ∈ az_tb := az_tw 890 rfl rfl
set_option maxRecDepth 100000 in
theorem mlX7_307 : Cond.methodLink RX7 307 yX3_feedAllQuiet ∈ az_tb := az_tw 907 rfl rfl
set_option maxRecDepth 100000 in
theorem mlX7_310 : Cond.methodLink RX7 310 yX2_leaveOut ∈ az_tb := az_tw 915 rfl rfl
set_option maxRecDepth 100000 in
theorem mlX7_313 : Cond.methodLink RX7 313 yX3_leastForEach ∈ az_tb := az_tw 928 rfl rfl
set_option maxRecDepth 100000 in
theorem mlX7_316 : Cond.methodLink RX7 316 yX2_countOf ∈ az_tb := az_tw 936 rfl rfl
set_option maxRecDepth 100000 in
theorem mlX7_319 : Cond.methodLink RX7 319 yX3_firstWrong ∈ az_tb := az_tw 944 rfl rfl
set_option maxRecDepth 100000 in
theorem mlX7_323 : Cond.methodLink RX7 323 yX2_passDay ∈ az_tb := az_tw 953 rfl rfl
set_option maxRecDepth 100000 in
theorem mlX7_326 : Cond.methodLink RX7 326 yX2_drawBelow ∈ az_tb := az_tw 961 rfl rfl
set_option maxRecDepth 100000 in
theorem mlX7_329 : Cond.methodLink RX7 329 yX2_feedMore ∈ az_tb := az_tw 966 rfl rfl
set_option maxRecDepth 100000 in
theorem mlX7_338 : Cond.methodLink RX7 338 yX2_allFed ∈ az_tb := az_tw 983 rfl rfl
set_option maxRecDepth 100000 in
theorem mlX7_344 : Cond.methodLink RX7 344 yX7_shelvesInUse ∈ az_tb := az_tw 987 rfl rfl
set_option maxRecDepth 100000 in
theorem mlX0_3 : Cond.methodLink RX0 3 Lib.objectInit ∈ az_tb := az_tw 221 rfl rfl
set_option maxRecDepth 100000 in
theorem mlX0_22 : Cond.methodLink RX0 22 Lib.Math.min.name ∈ az_tb := az_tw 763 rfl rfl
set_option maxRecDepth 100000 in
theorem mlX0_28 : Cond.methodLink RX0 28 Lib.Math.max.name ∈ az_tb := az_tw 764 rfl rfl
set_option maxRecDepth 100000 in
theorem mlX0_31 : az_sl RX0 31 yJ7_fill_53178 := Or.inl (az_tw 765 rfl rfl)
set_option maxRecDepth 100000 in
theorem mlX0_37 : Cond.methodLink RX0 37 yX4_at ∈ az_tb := az_tw 768 rfl rfl
set_option maxRecDepth 100000 in
theorem mlX0_43 : Cond.methodLink RX0 43 yX0_putAbove ∈ az_tb := az_tw 769 rfl rfl
set_option maxRecDepth 100000 in
theorem mlX0_47 : Cond.methodLink RX0 47 yX0_isBelow ∈ az_tb := az_tw 773 rfl rfl
set_option maxRecDepth 100000 in
theorem mlX0_51 : Cond.methodLink RX0 51 yX0_countOrders ∈ az_tb := az_tw 797 rfl rfl
set_option maxRecDepth 100000 in
theorem mlX1_3 : Cond.methodLink RX1 3 Lib.objectInit ∈ az_tb := az_tw 185 rfl rfl
set_option maxRecDepth 100000 in
theorem mlX1_29 : Cond.methodLink RX1 29 yX2_load ∈ az_tb := az_tw 842 rfl rfl
set_option maxRecDepth 100000 in
theorem mlX1_33 : az_sl RX1 33 yJ7_fill_53178 := Or.inl (az_tw 843 rfl rfl)
set_option maxRecDepth 100000 in
theorem mlX1_49 : Cond.methodLink RX1 49 yX1_dropSoWays ∈ az_tb := az_tw 845 rfl rfl
set_option maxRecDepth 100000 in
theorem mlX1_52 : az_sl RX1 52 yX1_fallOnce := Or.inl (az_tw 850 rfl rfl)
set_option maxRecDepth 100000 in
theorem mlX1_56 : Cond.methodLink RX1 56 yX2_coolDown ∈ az_tb := az_tw 854 rfl rfl
set_option maxRecDepth 100000 in
theorem mlX1_60 : Cond.methodLink RX1 60 Lib.Math.max.name ∈ az_tb := az_tw 853 rfl rfl
set_option maxRecDepth 100000 in
theorem mlX1_66 : Cond.methodLink RX1 66 yX2_standsSo ∈ az_tb := az_tw 849 rfl rfl
set_option maxRecDepth 100000 in
theorem mlX2_3 : Cond.methodLink RX2 3 Lib.objectInit ∈ az_tb := az_tw 94 rfl rfl
set_option maxRecDepth 100000 in
theorem mlX2_55 : Cond.methodLink RX2 55 arraycopyName ∈ az_tb := az_tw 496 rfl rfl
set_option maxRecDepth 100000 in
theorem mlX2_61 : Cond.methodLink RX2 61 yX2_isFull ∈ az_tb := az_tw 438 rfl rfl
set_option maxRecDepth 100000 in
theorem mlX2_69 : Cond.methodLink RX2 69 yX2_hasOne ∈ az_tb := az_tw 424 rfl rfl
set_option maxRecDepth 100000 in
theorem mlX2_73 : Cond.methodLink RX2 73 Lib.Math.max.name ∈ az_tb := az_tw 425 rfl rfl
set_option maxRecDepth 100000 in
theorem mlX2_79 : Cond.methodLink RX2 79 yX2_coldAs ∈ az_tb := az_tw 606 rfl rfl
set_option maxRecDepth 100000 in
theorem mlX2_82 : Cond.methodLink RX2 82 yX2_limitBy ∈ az_tb := az_tw 607 rfl rfl
set_option maxRecDepth 100000 in
theorem mlX2_85 : Cond.methodLink RX2 85 yX2_coldestOne ∈ az_tb := az_tw 628 rfl rfl
set_option maxRecDepth 100000 in
theorem mlX2_89 : Cond.methodLink RX2 89 yX2_isHeard ∈ az_tb := az_tw 629 rfl rfl
set_option maxRecDepth 100000 in
theorem mlX2_92 : Cond.methodLink RX2 92 yX2_isColder ∈ az_tb := az_tw 638 rfl rfl
set_option maxRecDepth 100000 in
theorem mlX2_96 : Cond.methodLink RX2 96 Lib.Math.min.name ∈ az_tb := az_tw 678 rfl rfl
set_option maxRecDepth 100000 in
theorem mlX2_99 : Cond.methodLink RX2 99 yX2_standsSo ∈ az_tb := az_tw 650 rfl rfl
set_option maxRecDepth 100000 in
theorem mlX2_102 : Cond.methodLink RX2 102 yX2_coolDown ∈ az_tb := az_tw 651 rfl rfl
set_option maxRecDepth 100000 in
theorem mlX3_3 : Cond.methodLink RX3 3 Lib.objectInit ∈ az_tb := az_tw 169 rfl rfl
set_option maxRecDepth 100000 in
theorem mlX3_22 : Cond.methodLink RX3 22 yX2_load ∈ az_tb := az_tw 492 rfl rfl
set_option maxRecDepth 100000 in
theorem mlX3_26 : Cond.methodLink RX3 26 yX3_begin ∈ az_tb := az_tw 672 rfl rfl
set_option maxRecDepth 100000 in
theorem mlX3_30 : Cond.methodLink RX3 30 yX2_firstSo ∈ az_tb := az_tw 673 rfl rfl
set_option maxRecDepth 100000 in
theorem mlX3_37 : Cond.methodLink RX3 37 yX2_feedMore ∈ az_tb := az_tw 674 rfl rfl
set_option maxRecDepth 100000 in
theorem mlX3_41 : az_sl RX3 41 yJ6_bitCount_0f7a4 := Or.inl (az_tw 687 rfl rfl)
set_option maxRecDepth 100000 in
theorem mlX3_46 : Cond.methodLink RX3 46 yX3_warmThese ∈ az_tb := az_tw 693 rfl rfl
set_option maxRecDepth 100000 in
theorem mlX3_50 : Cond.methodLink RX3 50 yX2_leaveOut ∈ az_tb := az_tw 705 rfl rfl
set_option maxRecDepth 100000 in
theorem mlX3_53 : az_sl RX3 53 yX3_noneAsLast := Or.inl (az_tw 709 rfl rfl)
set_option maxRecDepth 100000 in
theorem mlX3_56 : Cond.methodLink RX3 56 yX2_isHeard ∈ az_tb := az_tw 736 rfl rfl
set_option maxRecDepth 100000 in
theorem mlX3_60 : Cond.methodLink RX3 60 yX2_coolDown ∈ az_tb := az_tw 885 rfl rfl
set_option maxRecDepth 100000 in
theorem mlX3_63 : Cond.methodLink RX3 63 yX3_firstHeard ∈ az_tb := az_tw 894 rfl rfl
set_option maxRecDepth 100000 in
theorem mlX3_67 : Cond.methodLink RX3 67 yX3_agreesPride ∈ az_tb := az_tw 731 rfl rfl
set_option maxRecDepth 100000 in
theorem mlX3_75 : Cond.methodLink RX3 75 yX4_at ∈ az_tb := az_tw 735 rfl rfl
set_option maxRecDepth 100000 in
theorem mlX3_88 : Cond.methodLink RX3 88 yX3_agreesKind ∈ az_tb := az_tw 746 rfl rfl
set_option maxRecDepth 100000 in
theorem mlX3_91 : Cond.methodLink RX3 91 yX2_coldAs ∈ az_tb := az_tw 750 rfl rfl
set_option maxRecDepth 100000 in
theorem mlX3_98 : Cond.methodLink RX3 98 yX2_coldestOne ∈ az_tb := az_tw 948 rfl rfl
set_option maxRecDepth 100000 in
theorem mlX4_3 : Cond.methodLink RX4 3 Lib.objectInit ∈ az_tb := az_tw 261 rfl rfl
set_option maxRecDepth 100000 in
theorem mlX4_25 : Cond.methodLink RX4 25 yX4_holdsRow ∈ az_tb := az_tw 354 rfl rfl
set_option maxRecDepth 100000 in
theorem mlX4_29 : Cond.methodLink RX4 29 yX4_holdsOne ∈ az_tb := az_tw 358 rfl rfl
set_option maxRecDepth 100000 in
theorem mlX4_32 : az_sl RX4 32 yJ7_fill_d0a16 := Or.inl (az_tw 329 rfl rfl)
set_option maxRecDepth 100000 in
theorem mlX4_38 : Cond.methodLink RX4 38 Lib.Math.min.name ∈ az_tb := az_tw 332 rfl rfl
set_option maxRecDepth 100000 in
theorem mlX4_44 : Cond.methodLink RX4 44 Lib.Math.max.name ∈ az_tb := az_tw 335 rfl rfl
set_option maxRecDepth 100000 in
theorem mlX4_47 : Cond.methodLink RX4 47 yX4_hasPlace ∈ az_tb := az_tw 367 rfl rfl
set_option maxRecDepth 100000 in
theorem mlX4_51 : Cond.methodLink RX4 51 yX4_fit ∈ az_tb := az_tw 368 rfl rfl
set_option maxRecDepth 100000 in
theorem mlX5_3 : Cond.methodLink RX5 3 Lib.objectInit ∈ az_tb := az_tw 237 rfl rfl
set_option maxRecDepth 100000 in
theorem mlX5_28 : Cond.methodLink RX5 28 yX5_isFull ∈ az_tb := az_tw 475 rfl rfl
set_option maxRecDepth 100000 in
theorem mlX5_32 : Cond.methodLink RX5 32 yX5_step ∈ az_tb := az_tw 501 rfl rfl
set_option maxRecDepth 100000 in
theorem mlX5_35 : Cond.methodLink RX5 35 yX5_readStatement ∈ az_tb := az_tw 509 rfl rfl
set_option maxRecDepth 100000 in
theorem mlX5_39 : Cond.methodLink RX5 39 yX5_takesAllOf ∈ az_tb := az_tw 505 rfl rfl
set_option maxRecDepth 100000 in
theorem mlX5_45 : Cond.methodLink RX5 45 yX5_isWord ∈ az_tb := az_tw 514 rfl rfl
set_option maxRecDepth 100000 in
theorem mlX5_49 : Cond.methodLink RX5 49 yX2_isFull ∈ az_tb := az_tw 566 rfl rfl
set_option maxRecDepth 100000 in
theorem mlX5_52 : Cond.methodLink RX5 52 yX5_readPerson ∈ az_tb := az_tw 567 rfl rfl
set_option maxRecDepth 100000 in
theorem mlX5_63 : Cond.methodLink RX5 63 yX5_readPortion ∈ az_tb := az_tw 577 rfl rfl
set_option maxRecDepth 100000 in
theorem mlX5_82 : Cond.methodLink RX5 82 yX5_readNumber ∈ az_tb := az_tw 571 rfl rfl
set_option maxRecDepth 100000 in
theorem mlX5_86 : Cond.methodLink RX5 86 yX2_change ∈ az_tb := az_tw 587 rfl rfl
set_option maxRecDepth 100000 in
theorem mlX5_90 : Cond.methodLink RX5 90 yJ0_length_8abf5 ∈ az_tb := az_tw 518 rfl rfl
set_option maxRecDepth 100000 in
theorem mlX5_96 : Cond.methodLink RX5 96 yJ0_charAt_5068e ∈ az_tb := az_tw 528 rfl rfl
set_option maxRecDepth 100000 in
theorem mlX5_100 : Cond.methodLink RX5 100 yX2_settle ∈ az_tb := az_tw 575 rfl rfl
set_option maxRecDepth 100000 in
theorem mlX6_3 : Cond.methodLink RX6 3 Lib.objectInit ∈ az_tb := az_tw 206 rfl rfl
set_option maxRecDepth 100000 in
theorem mlX6_22 : Cond.methodLink RX6 22 yX2_load ∈ az_tb := az_tw 819 rfl rfl
set_option maxRecDepth 100000 in
theorem mlX6_33 : Cond.methodLink RX6 33 yX2_coldAs ∈ az_tb := az_tw 820 rfl rfl
set_option maxRecDepth 100000 in
theorem mlX6_37 : Cond.methodLink RX6 37 yX6_comesSo ∈ az_tb := az_tw 821 rfl rfl
set_option maxRecDepth 100000 in
theorem mlX6_41 : Cond.methodLink RX6 41 yX6_endsSo ∈ az_tb := az_tw 825 rfl rfl
set_option maxRecDepth 100000 in
theorem mlX6_48 : Cond.methodLink RX6 48 yX6_comesSoBy ∈ az_tb := az_tw 830 rfl rfl
set_option maxRecDepth 100000 in
theorem mlX6_55 : Cond.methodLink RX6 55 yX2_limitBy ∈ az_tb := az_tw 829 rfl rfl
set_option maxRecDepth 100000 in
theorem mlL_9 : az_sl RL 9 yX7_init := Or.inl (az_tw 83 rfl rfl)
set_option maxRecDepth 100000 in
theorem mlL_12 : az_sl RL 12 yX8_init := Or.inl (az_tw 993 rfl rfl)
set_option maxRecDepth 100000 in
theorem mlL_13 : Cond.methodLink RL 13 yX7_row ∈ az_tb := az_tw 311 rfl rfl
set_option maxRecDepth 100000 in
theorem mlL_17 : Cond.methodLink RL 17 yX8_row ∈ az_tb := az_tw 1128 rfl rfl
set_option maxRecDepth 100000 in
theorem mlL_20 : Cond.methodLink RL 20 yX7_set ∈ az_tb := az_tw 338 rfl rfl
set_option maxRecDepth 100000 in
theorem mlL_24 : Cond.methodLink RL 24 yX8_set ∈ az_tb := az_tw 1142 rfl rfl
set_option maxRecDepth 100000 in
theorem mlL_25 : Cond.methodLink RL 25 yX7_copy ∈ az_tb := az_tw 372 rfl rfl
set_option maxRecDepth 100000 in
theorem mlL_29 : Cond.methodLink RL 29 yX8_copy ∈ az_tb := az_tw 1153 rfl rfl
set_option maxRecDepth 100000 in
theorem mlL_30 : Cond.methodLink RL 30 yX7_element ∈ az_tb := az_tw 383 rfl rfl
set_option maxRecDepth 100000 in
theorem mlL_34 : Cond.methodLink RL 34 yX8_element ∈ az_tb := az_tw 1157 rfl rfl
set_option maxRecDepth 100000 in
theorem mlL_35 : Cond.methodLink RL 35 yX7_holds ∈ az_tb := az_tw 391 rfl rfl
set_option maxRecDepth 100000 in
theorem mlL_39 : Cond.methodLink RL 39 yX8_holds ∈ az_tb := az_tw 1161 rfl rfl
set_option maxRecDepth 100000 in
theorem mlL_40 : Cond.methodLink RL 40 yX7_show ∈ az_tb := az_tw 395 rfl rfl
set_option maxRecDepth 100000 in
theorem mlL_44 : Cond.methodLink RL 44 yX8_show ∈ az_tb := az_tw 1165 rfl rfl
set_option maxRecDepth 100000 in
theorem mlL_45 : Cond.methodLink RL 45 yX7_says ∈ az_tb := az_tw 407 rfl rfl
set_option maxRecDepth 100000 in
theorem mlL_48 : Cond.methodLink RL 48 yX8_says ∈ az_tb := az_tw 1173 rfl rfl
set_option maxRecDepth 100000 in
theorem mlL_49 : Cond.methodLink RL 49 yX7_person ∈ az_tb := az_tw 426 rfl rfl
set_option maxRecDepth 100000 in
theorem mlL_52 : Cond.methodLink RL 52 yX8_person ∈ az_tb := az_tw 1192 rfl rfl
set_option maxRecDepth 100000 in
theorem mlL_53 : Cond.methodLink RL 53 yX7_give ∈ az_tb := az_tw 442 rfl rfl
set_option maxRecDepth 100000 in
theorem mlL_56 : Cond.methodLink RL 56 yX8_give ∈ az_tb := az_tw 1202 rfl rfl
set_option maxRecDepth 100000 in
theorem mlL_57 : Cond.methodLink RL 57 yX7_tell ∈ az_tb := az_tw 448 rfl rfl
set_option maxRecDepth 100000 in
theorem mlL_60 : Cond.methodLink RL 60 yX8_tell ∈ az_tb := az_tw 1207 rfl rfl
set_option maxRecDepth 100000 in
theorem mlL_61 : Cond.methodLink RL 61 yX7_thaw ∈ az_tb := az_tw 458 rfl rfl
set_option maxRecDepth 100000 in
theorem mlL_65 : Cond.methodLink RL 65 yX8_thaw ∈ az_tb := az_tw 1213 rfl rfl
set_option maxRecDepth 100000 in
theorem mlL_66 : Cond.methodLink RL 66 yX7_feed ∈ az_tb := az_tw 463 rfl rfl
set_option maxRecDepth 100000 in
theorem mlL_69 : Cond.methodLink RL 69 yX8_feed ∈ az_tb := az_tw 1217 rfl rfl
set_option maxRecDepth 100000 in
theorem mlL_70 : Cond.methodLink RL 70 yX7_wipe ∈ az_tb := az_tw 476 rfl rfl
set_option maxRecDepth 100000 in
theorem mlL_73 : Cond.methodLink RL 73 yX8_wipe ∈ az_tb := az_tw 1222 rfl rfl
set_option maxRecDepth 100000 in
theorem mlL_74 : Cond.methodLink RL 74 yX7_country ∈ az_tb := az_tw 484 rfl rfl
set_option maxRecDepth 100000 in
theorem mlL_77 : Cond.methodLink RL 77 yX8_country ∈ az_tb := az_tw 1226 rfl rfl
set_option maxRecDepth 100000 in
theorem mlL_78 : Cond.methodLink RL 78 yX7_personOf ∈ az_tb := az_tw 590 rfl rfl
set_option maxRecDepth 100000 in
theorem mlL_81 : Cond.methodLink RL 81 yX8_personOf ∈ az_tb := az_tw 1286 rfl rfl
set_option maxRecDepth 100000 in
theorem mlL_82 : Cond.methodLink RL 82 yX7_speaks ∈ az_tb := az_tw 598 rfl rfl
set_option maxRecDepth 100000 in
theorem mlL_85 : Cond.methodLink RL 85 yX8_speaks ∈ az_tb := az_tw 1295 rfl rfl
set_option maxRecDepth 100000 in
theorem mlL_86 : Cond.methodLink RL 86 yX7_coldest ∈ az_tb := az_tw 608 rfl rfl
set_option maxRecDepth 100000 in
theorem mlL_89 : Cond.methodLink RL 89 yX8_coldest ∈ az_tb := az_tw 1303 rfl rfl
set_option maxRecDepth 100000 in
theorem mlL_90 : Cond.methodLink RL 90 yX7_speaking ∈ az_tb := az_tw 616 rfl rfl
set_option maxRecDepth 100000 in
theorem mlL_93 : Cond.methodLink RL 93 yX8_speaking ∈ az_tb := az_tw 1311 rfl rfl
set_option maxRecDepth 100000 in
theorem mlL_94 : Cond.methodLink RL 94 yX7_isSo ∈ az_tb := az_tw 620 rfl rfl
set_option maxRecDepth 100000 in
theorem mlL_97 : Cond.methodLink RL 97 yX8_isSo ∈ az_tb := az_tw 1315 rfl rfl
set_option maxRecDepth 100000 in
theorem mlL_98 : Cond.methodLink RL 98 yX7_rank ∈ az_tb := az_tw 630 rfl rfl
set_option maxRecDepth 100000 in
theorem mlL_101 : Cond.methodLink RL 101 yX8_rank ∈ az_tb := az_tw 1323 rfl rfl
set_option maxRecDepth 100000 in
theorem mlL_102 : Cond.methodLink RL 102 yX7_when ∈ az_tb := az_tw 642 rfl rfl
set_option maxRecDepth 100000 in
theorem mlL_105 : Cond.methodLink RL 105 yX8_when ∈ az_tb := az_tw 1351 rfl rfl
set_option maxRecDepth 100000 in
theorem mlL_106 : Cond.methodLink RL 106 yX7_ahead ∈ az_tb := az_tw 655 rfl rfl
set_option maxRecDepth 100000 in
theorem mlL_109 : Cond.methodLink RL 109 yX8_ahead ∈ az_tb := az_tw 1371 rfl rfl
set_option maxRecDepth 100000 in
theorem mlL_110 : Cond.methodLink RL 110 yX7_later ∈ az_tb := az_tw 660 rfl rfl
set_option maxRecDepth 100000 in
theorem mlL_113 : Cond.methodLink RL 113 yX8_later ∈ az_tb := az_tw 1376 rfl rfl
set_option maxRecDepth 100000 in
theorem mlL_114 : Cond.methodLink RL 114 yX7_feeds ∈ az_tb := az_tw 664 rfl rfl
set_option maxRecDepth 100000 in
theorem mlL_117 : Cond.methodLink RL 117 yX8_feeds ∈ az_tb := az_tw 1392 rfl rfl
set_option maxRecDepth 100000 in
theorem mlL_118 : Cond.methodLink RL 118 yX7_warm ∈ az_tb := az_tw 679 rfl rfl
set_option maxRecDepth 100000 in
theorem mlL_121 : Cond.methodLink RL 121 yX8_warm ∈ az_tb := az_tw 1412 rfl rfl
set_option maxRecDepth 100000 in
theorem mlL_122 : Cond.methodLink RL 122 yX7_out ∈ az_tb := az_tw 697 rfl rfl
set_option maxRecDepth 100000 in
theorem mlL_125 : Cond.methodLink RL 125 yX8_out ∈ az_tb := az_tw 1423 rfl rfl
set_option maxRecDepth 100000 in
theorem mlL_126 : Cond.methodLink RL 126 yX7_prides ∈ az_tb := az_tw 712 rfl rfl
set_option maxRecDepth 100000 in
theorem mlL_129 : Cond.methodLink RL 129 yX8_prides ∈ az_tb := az_tw 1459 rfl rfl
set_option maxRecDepth 100000 in
theorem mlL_130 : Cond.methodLink RL 130 yX7_kinds ∈ az_tb := az_tw 738 rfl rfl
set_option maxRecDepth 100000 in
theorem mlL_133 : Cond.methodLink RL 133 yX8_kinds ∈ az_tb := az_tw 1475 rfl rfl
set_option maxRecDepth 100000 in
theorem mlL_134 : Cond.methodLink RL 134 yX7_airs ∈ az_tb := az_tw 751 rfl rfl
set_option maxRecDepth 100000 in
theorem mlL_137 : Cond.methodLink RL 137 yX8_airs ∈ az_tb := az_tw 1439 rfl rfl
set_option maxRecDepth 100000 in
theorem mlL_138 : Cond.methodLink RL 138 yX7_clash ∈ az_tb := az_tw 755 rfl rfl
set_option maxRecDepth 100000 in
theorem mlL_141 : Cond.methodLink RL 141 yX8_clash ∈ az_tb := az_tw 1479 rfl rfl
set_option maxRecDepth 100000 in
theorem mlL_142 : Cond.methodLink RL 142 yX7_orders ∈ az_tb := az_tw 777 rfl rfl
set_option maxRecDepth 100000 in
theorem mlL_145 : Cond.methodLink RL 145 yX8_orders ∈ az_tb := az_tw 1491 rfl rfl
set_option maxRecDepth 100000 in
theorem mlL_146 : Cond.methodLink RL 146 yX7_next ∈ az_tb := az_tw 789 rfl rfl
set_option maxRecDepth 100000 in
theorem mlL_149 : Cond.methodLink RL 149 yX8_next ∈ az_tb := az_tw 1503 rfl rfl
set_option maxRecDepth 100000 in
theorem mlL_150 : Cond.methodLink RL 150 yX7_mayBe ∈ az_tb := az_tw 798 rfl rfl
set_option maxRecDepth 100000 in
theorem mlL_153 : Cond.methodLink RL 153 yX8_mayBe ∈ az_tb := az_tw 1507 rfl rfl
set_option maxRecDepth 100000 in
theorem mlL_154 : Cond.methodLink RL 154 yX7_wrongBowls ∈ az_tb := az_tw 806 rfl rfl
set_option maxRecDepth 100000 in
theorem mlL_157 : Cond.methodLink RL 157 yX8_wrongBowls ∈ az_tb := az_tw 1511 rfl rfl
set_option maxRecDepth 100000 in
theorem mlL_158 : Cond.methodLink RL 158 yX7_byTurns ∈ az_tb := az_tw 811 rfl rfl
set_option maxRecDepth 100000 in
theorem mlL_161 : Cond.methodLink RL 161 yX8_byTurns ∈ az_tb := az_tw 1515 rfl rfl
set_option maxRecDepth 100000 in
theorem mlL_162 : Cond.methodLink RL 162 yX7_odds ∈ az_tb := az_tw 834 rfl rfl
set_option maxRecDepth 100000 in
theorem mlL_165 : Cond.methodLink RL 165 yX8_odds ∈ az_tb := az_tw 1523 rfl rfl
set_option maxRecDepth 100000 in
theorem mlL_166 : Cond.methodLink RL 166 yX7_warmest ∈ az_tb := az_tw 865 rfl rfl
set_option maxRecDepth 100000 in
theorem mlL_169 : Cond.methodLink RL 169 yX8_warmest ∈ az_tb := az_tw 1443 rfl rfl
set_option maxRecDepth 100000 in
theorem mlL_170 : Cond.methodLink RL 170 yX7_brandyFor ∈ az_tb := az_tw 869 rfl rfl
set_option maxRecDepth 100000 in
theorem mlL_173 : Cond.methodLink RL 173 yX8_brandyFor ∈ az_tb := az_tw 1451 rfl rfl
set_option maxRecDepth 100000 in
theorem mlL_174 : Cond.methodLink RL 174 yX7_fallFor ∈ az_tb := az_tw 873 rfl rfl
set_option maxRecDepth 100000 in
theorem mlL_177 : Cond.methodLink RL 177 yX8_fallFor ∈ az_tb := az_tw 1455 rfl rfl
set_option maxRecDepth 100000 in
theorem mlL_178 : Cond.methodLink RL 178 yX7_holdsOut ∈ az_tb := az_tw 877 rfl rfl
set_option maxRecDepth 100000 in
theorem mlL_181 : Cond.methodLink RL 181 yX8_holdsOut ∈ az_tb := az_tw 1380 rfl rfl
set_option maxRecDepth 100000 in
theorem mlL_182 : Cond.methodLink RL 182 yX7_toughest ∈ az_tb := az_tw 886 rfl rfl
set_option maxRecDepth 100000 in
theorem mlL_185 : Cond.methodLink RL 185 yX8_toughest ∈ az_tb := az_tw 1388 rfl rfl
set_option maxRecDepth 100000 in
theorem mlL_186 : Cond.methodLink RL 186 yX7_shivering ∈ az_tb := az_tw 895 rfl rfl
set_option maxRecDepth 100000 in
theorem mlL_189 : Cond.methodLink RL 189 yX8_shivering ∈ az_tb := az_tw 1335 rfl rfl
set_option maxRecDepth 100000 in
theorem mlL_190 : Cond.methodLink RL 190 yX7_lead ∈ az_tb := az_tw 899 rfl rfl
set_option maxRecDepth 100000 in
theorem mlL_193 : Cond.methodLink RL 193 yX8_lead ∈ az_tb := az_tw 1339 rfl rfl
set_option maxRecDepth 100000 in
theorem mlL_194 : Cond.methodLink RL 194 yX7_quiet ∈ az_tb := az_tw 903 rfl rfl
set_option maxRecDepth 100000 in
theorem mlL_197 : Cond.methodLink RL 197 yX8_quiet ∈ az_tb := az_tw 1431 rfl rfl
set_option maxRecDepth 100000 in
theorem mlL_198 : Cond.methodLink RL 198 yX7_second ∈ az_tb := az_tw 911 rfl rfl
set_option maxRecDepth 100000 in
theorem mlL_201 : Cond.methodLink RL 201 yX8_second ∈ az_tb := az_tw 1343 rfl rfl
set_option maxRecDepth 100000 in
theorem mlL_202 : Cond.methodLink RL 202 yX7_gap ∈ az_tb := az_tw 916 rfl rfl
set_option maxRecDepth 100000 in
theorem mlL_205 : Cond.methodLink RL 205 yX8_gap ∈ az_tb := az_tw 1435 rfl rfl
set_option maxRecDepth 100000 in
theorem mlL_206 : Cond.methodLink RL 206 yX7_bites ∈ az_tb := az_tw 920 rfl rfl
set_option maxRecDepth 100000 in
theorem mlL_209 : Cond.methodLink RL 209 yX8_bites ∈ az_tb := az_tw 1447 rfl rfl
set_option maxRecDepth 100000 in
theorem mlL_210 : Cond.methodLink RL 210 yX7_all ∈ az_tb := az_tw 924 rfl rfl
set_option maxRecDepth 100000 in
theorem mlL_213 : Cond.methodLink RL 213 yX8_all ∈ az_tb := az_tw 1408 rfl rfl
set_option maxRecDepth 100000 in
theorem mlL_214 : Cond.methodLink RL 214 yX7_ofKind ∈ az_tb := az_tw 932 rfl rfl
set_option maxRecDepth 100000 in
theorem mlL_217 : Cond.methodLink RL 217 yX8_ofKind ∈ az_tb := az_tw 1347 rfl rfl
set_option maxRecDepth 100000 in
theorem mlL_218 : Cond.methodLink RL 218 yX7_judge ∈ az_tb := az_tw 940 rfl rfl
set_option maxRecDepth 100000 in
theorem mlL_221 : Cond.methodLink RL 221 yX8_judge ∈ az_tb := az_tw 1532 rfl rfl
set_option maxRecDepth 100000 in
theorem mlL_222 : Cond.methodLink RL 222 yX7_days ∈ az_tb := az_tw 949 rfl rfl
set_option maxRecDepth 100000 in
theorem mlL_225 : Cond.methodLink RL 225 yX8_days ∈ az_tb := az_tw 1536 rfl rfl
set_option maxRecDepth 100000 in
theorem mlL_226 : Cond.methodLink RL 226 yX7_drawn ∈ az_tb := az_tw 957 rfl rfl
set_option maxRecDepth 100000 in
theorem mlL_229 : Cond.methodLink RL 229 yX8_drawn ∈ az_tb := az_tw 1544 rfl rfl
set_option maxRecDepth 100000 in
theorem mlL_230 : Cond.methodLink RL 230 yX7_seed ∈ az_tb := az_tw 967 rfl rfl
set_option maxRecDepth 100000 in
theorem mlL_233 : Cond.methodLink RL 233 yX8_seed ∈ az_tb := az_tw 1553 rfl rfl
set_option maxRecDepth 100000 in
theorem mlL_234 : Cond.methodLink RL 234 yX7_image ∈ az_tb := az_tw 971 rfl rfl
set_option maxRecDepth 100000 in
theorem mlL_237 : Cond.methodLink RL 237 yX8_image ∈ az_tb := az_tw 1557 rfl rfl
set_option maxRecDepth 100000 in
theorem mlL_238 : Cond.methodLink RL 238 yX7_back ∈ az_tb := az_tw 975 rfl rfl
set_option maxRecDepth 100000 in
theorem mlL_241 : Cond.methodLink RL 241 yX8_back ∈ az_tb := az_tw 1561 rfl rfl
set_option maxRecDepth 100000 in
theorem mlL_242 : Cond.methodLink RL 242 yX7_status ∈ az_tb := az_tw 979 rfl rfl
set_option maxRecDepth 100000 in
theorem mlL_245 : Cond.methodLink RL 245 yX8_status ∈ az_tb := az_tw 1565 rfl rfl
set_option maxRecDepth 100000 in
theorem mlX8_1 : Cond.methodLink RX8 1 Lib.objectInit ∈ az_tb := az_tw 996 rfl rfl
set_option maxRecDepth 100000 in
theorem mlX8_91 : az_sl RX8 91 yX8_in := Or.inl (az_tw 1133 rfl rfl)
set_option maxRecDepth 100000 in
theorem mlX8_101 : Cond.methodLink RX8 101 yX8_refuse ∈ az_tb := az_tw 1138 rfl rfl
set_option maxRecDepth 100000 in
theorem mlX8_105 : Cond.methodLink RX8 105 yX8_noRow ∈ az_tb := az_tw 1146 rfl rfl
set_option maxRecDepth 100000 in
theorem mlX8_108 : az_sl RX8 108 yX8_fit := Or.inl (az_tw 1150 rfl rfl)
set_option maxRecDepth 100000 in
theorem mlX8_112 : Cond.methodLink RX8 112 yX8_isPerson ∈ az_tb := az_tw 1169 rfl rfl
set_option maxRecDepth 100000 in
theorem mlX8_118 : az_sl RX8 118 yX8_isUnder := Or.inl (az_tw 1178 rfl rfl)
set_option maxRecDepth 100000 in
theorem mlX8_122 : Cond.methodLink RX8 122 yX8_cold ∈ az_tb := az_tw 1181 rfl rfl
set_option maxRecDepth 100000 in
theorem mlX8_129 : Cond.methodLink RX8 129 yX8_addPerson ∈ az_tb := az_tw 1198 rfl rfl
set_option maxRecDepth 100000 in
theorem mlX8_159 : az_sl RX8 159 yX8_isLetter := Or.inl (az_tw 1247 rfl rfl)
set_option maxRecDepth 100000 in
theorem mlX8_163 : az_sl RX8 163 yX8_isDigit := Or.inl (az_tw 1250 rfl rfl)
set_option maxRecDepth 100000 in
theorem mlX8_169 : Cond.methodLink RX8 169 yJ0_length_8abf5 ∈ az_tb := az_tw 1262 rfl rfl
set_option maxRecDepth 100000 in
theorem mlX8_175 : Cond.methodLink RX8 175 yJ0_charAt_5068e ∈ az_tb := az_tw 1263 rfl rfl
set_option maxRecDepth 100000 in
theorem mlX8_179 : Cond.methodLink RX8 179 yX8_wrong ∈ az_tb := az_tw 1272 rfl rfl
set_option maxRecDepth 100000 in
theorem mlX8_183 : Cond.methodLink RX8 183 yX8_look ∈ az_tb := az_tw 1243 rfl rfl
set_option maxRecDepth 100000 in
theorem mlX8_186 : Cond.methodLink RX8 186 yX8_number ∈ az_tb := az_tw 1268 rfl rfl
set_option maxRecDepth 100000 in
theorem mlX8_191 : Cond.methodLink RX8 191 yX8_isWord ∈ az_tb := az_tw 1258 rfl rfl
set_option maxRecDepth 100000 in
theorem mlX8_195 : Cond.methodLink RX8 195 yX8_tells ∈ az_tb := az_tw 1264 rfl rfl
set_option maxRecDepth 100000 in
theorem mlX8_202 : Cond.methodLink RX8 202 yX8_tellsOne ∈ az_tb := az_tw 1278 rfl rfl
set_option maxRecDepth 100000 in
theorem mlX8_212 : Cond.methodLink RX8 212 yX8_statement ∈ az_tb := az_tw 1253 rfl rfl
set_option maxRecDepth 100000 in
theorem mlX8_219 : az_sl RX8 219 yX8_init := Or.inl (az_tw 1231 rfl rfl)
set_option maxRecDepth 100000 in
theorem mlX8_220 : Cond.methodLink RX8 220 yX8_takeFrom ∈ az_tb := az_tw 1232 rfl rfl
set_option maxRecDepth 100000 in
theorem mlX8_224 : Cond.methodLink RX8 224 yX8_readAll ∈ az_tb := az_tw 1239 rfl rfl
set_option maxRecDepth 100000 in
theorem mlX8_227 : az_sl RX8 227 yX8_held := Or.inl (az_tw 1185 rfl rfl)
set_option maxRecDepth 100000 in
theorem mlX8_230 : Cond.methodLink RX8 230 yX8_isLoved ∈ az_tb := az_tw 1188 rfl rfl
set_option maxRecDepth 100000 in
theorem mlX8_233 : Cond.methodLink RX8 233 yX8_limit ∈ az_tb := az_tw 1291 rfl rfl
set_option maxRecDepth 100000 in
theorem mlX8_236 : Cond.methodLink RX8 236 yX8_coldestOf ∈ az_tb := az_tw 1307 rfl rfl
set_option maxRecDepth 100000 in
theorem mlX8_239 : Cond.methodLink RX8 239 yX8_speaksNow ∈ az_tb := az_tw 1299 rfl rfl
set_option maxRecDepth 100000 in
theorem mlX8_244 : Cond.methodLink RX8 244 yX8_isSoNow ∈ az_tb := az_tw 1319 rfl rfl
set_option maxRecDepth 100000 in
theorem mlX8_247 : Cond.methodLink RX8 247 yX8_rankOf ∈ az_tb := az_tw 1331 rfl rfl
set_option maxRecDepth 100000 in
theorem mlX8_250 : Cond.methodLink RX8 250 yX8_ranked ∈ az_tb := az_tw 1327 rfl rfl
set_option maxRecDepth 100000 in
theorem mlX8_259 : Cond.methodLink RX8 259 yX8_cools ∈ az_tb := az_tw 1363 rfl rfl
set_option maxRecDepth 100000 in
theorem mlX8_265 : Cond.methodLink RX8 265 yX8_keeps ∈ az_tb := az_tw 1355 rfl rfl
set_option maxRecDepth 100000 in
theorem mlX8_268 : Cond.methodLink RX8 268 yX8_whenSo ∈ az_tb := az_tw 1359 rfl rfl
set_option maxRecDepth 100000 in
theorem mlX8_271 : Cond.methodLink RX8 271 yX8_goesBack ∈ az_tb := az_tw 1367 rfl rfl
set_option maxRecDepth 100000 in
theorem mlX8_276 : Cond.methodLink RX8 276 yX8_lasts ∈ az_tb := az_tw 1384 rfl rfl
set_option maxRecDepth 100000 in
theorem mlX8_279 : az_sl RX8 279 yX8_full := Or.inl (az_tw 1405 rfl rfl)
set_option maxRecDepth 100000 in
theorem mlX8_282 : Cond.methodLink RX8 282 yX8_isLater ∈ az_tb := az_tw 1401 rfl rfl
set_option maxRecDepth 100000 in
theorem mlX8_293 : Cond.methodLink RX8 293 yX8_findFeed ∈ az_tb := az_tw 1397 rfl rfl
set_option maxRecDepth 100000 in
theorem mlX8_297 : az_sl RX8 297 yX8_bits := Or.inl (az_tw 1416 rfl rfl)
set_option maxRecDepth 100000 in
theorem mlX8_300 : Cond.methodLink RX8 300 yX8_isJust ∈ az_tb := az_tw 1419 rfl rfl
set_option maxRecDepth 100000 in
theorem mlX8_303 : Cond.methodLink RX8 303 yX8_whenWithout ∈ az_tb := az_tw 1427 rfl rfl
set_option maxRecDepth 100000 in
theorem mlX8_306 : Cond.methodLink RX8 306 yX8_noTwos ∈ az_tb := az_tw 1463 rfl rfl
set_option maxRecDepth 100000 in
theorem mlX8_310 : Cond.methodLink RX8 310 yX8_areAirs ∈ az_tb := az_tw 1467 rfl rfl
set_option maxRecDepth 100000 in
theorem mlX8_314 : Cond.methodLink RX8 314 yX8_isTold ∈ az_tb := az_tw 1471 rfl rfl
set_option maxRecDepth 100000 in
theorem mlX8_318 : Cond.methodLink RX8 318 yX8_tellBelow ∈ az_tb := az_tw 1487 rfl rfl
set_option maxRecDepth 100000 in
theorem mlX8_322 : Cond.methodLink RX8 322 yX8_findClash ∈ az_tb := az_tw 1483 rfl rfl
set_option maxRecDepth 100000 in
theorem mlX8_326 : Cond.methodLink RX8 326 yX8_noBowls ∈ az_tb := az_tw 1495 rfl rfl
set_option maxRecDepth 100000 in
theorem mlX8_329 : Cond.methodLink RX8 329 yX8_countOrders ∈ az_tb := az_tw 1499 rfl rfl
set_option maxRecDepth 100000 in
theorem mlX8_332 : Cond.methodLink RX8 332 yX8_makes ∈ az_tb := az_tw 1519 rfl rfl
set_option maxRecDepth 100000 in
theorem mlX8_342 : Cond.methodLink RX8 342 yX8_fans ∈ az_tb := az_tw 1527 rfl rfl
set_option maxRecDepth 100000 in
theorem mlX8_348 : Cond.methodLink RX8 348 yX8_passes ∈ az_tb := az_tw 1540 rfl rfl
set_option maxRecDepth 100000 in
theorem mlX8_352 : Cond.methodLink RX8 352 yX8_drawBelow ∈ az_tb := az_tw 1548 rfl rfl
set_option maxRecDepth 100000 in
theorem mlX8_355 : az_sl RX8 355 yX8_copied := Or.inl (az_tw 1236 rfl rfl)
set_option maxRecDepth 100000 in
theorem mlJ0_335 : Cond.methodLink RJ0 335 yJ0_coder_7d493 ∈ az_tb := az_tw 522 rfl rfl
set_option maxRecDepth 100000 in
theorem mlJ0_492 : Cond.methodLink RJ0 492 yJ0_isLatin1_aae02 ∈ az_tb := az_tw 532 rfl rfl
set_option maxRecDepth 100000 in
theorem mlJ0_495 : az_sl RJ0 495 yJ1_charAt_3b067 := Or.inl (az_tw 536 rfl rfl)
set_option maxRecDepth 100000 in
theorem mlJ0_498 : az_sl RJ0 498 yJ2_charAt_3b067 := Or.inl (az_tw 547 rfl rfl)
set_option maxRecDepth 100000 in
theorem mlJ0_1059 : az_sl RJ0 1059 yJ3_checkIndex_8e157 := Or.inl (az_tw 544 rfl rfl)
set_option maxRecDepth 100000 in
theorem mlJ1_9 : az_sl RJ1 9 yJ0_checkIndex_df160 := Or.inl (az_tw 539 rfl rfl)
set_option maxRecDepth 100000 in
theorem mlJ2_48 : az_sl RJ2 48 yJ2_length_9d52b := Or.inl (az_tw 553 rfl rfl)
set_option maxRecDepth 100000 in
theorem mlJ2_67 : az_sl RJ2 67 yJ2_checkIndex_2214a := Or.inl (az_tw 550 rfl rfl)
set_option maxRecDepth 100000 in
theorem mlJ2_71 : az_sl RJ2 71 yJ2_getChar_3b067 := Or.inl (az_tw 557 rfl rfl)
set_option maxRecDepth 100000 in
theorem mlJ2_414 : az_sl RJ2 414 yJ0_checkIndex_df160 := Or.inl (az_tw 556 rfl rfl)
theorem mlX7_9 : az_sl RX7 9 yX2_init := Or.inr ⟨"ColdestSaysSo", List.mem_of_getElem? (i := 0) rfl⟩
theorem mlX7_21 : az_sl RX7 21 yX3_init := Or.inr ⟨"ColdestSaysSo", List.mem_of_getElem? (i := 26) rfl⟩
theorem mlX7_28 : az_sl RX7 28 yX1_init := Or.inr ⟨"ColdestSaysSo", List.mem_of_getElem? (i := 29) rfl⟩
theorem mlX7_35 : az_sl RX7 35 yX6_init := Or.inr ⟨"ColdestSaysSo", List.mem_of_getElem? (i := 31) rfl⟩
theorem mlX7_42 : az_sl RX7 42 yX0_init := Or.inr ⟨"ColdestSaysSo", List.mem_of_getElem? (i := 33) rfl⟩
theorem mlX7_49 : az_sl RX7 49 yX5_init := Or.inr ⟨"ColdestSaysSo", List.mem_of_getElem? (i := 34) rfl⟩
theorem mlX7_68 : az_sl RX7 68 yX4_init := Or.inr ⟨"ColdestSaysSo", List.mem_of_getElem? (i := 36) rfl⟩
theorem mlX1_11 : az_sl RX1 11 yX2_init := Or.inr ⟨"ColdestSaysSo", List.mem_of_getElem? (i := 30) rfl⟩
theorem mlX1_42 : az_sl RX1 42 yX7_isWithin := Or.inr ⟨"ColdestSaysSo", List.mem_of_getElem? (i := 44) rfl⟩
theorem mlX2_65 : az_sl RX2 65 yX7_asNumber := Or.inr ⟨"ColdestSaysSo", List.mem_of_getElem? (i := 41) rfl⟩
theorem mlX3_11 : az_sl RX3 11 yX2_init := Or.inr ⟨"ColdestSaysSo", List.mem_of_getElem? (i := 27) rfl⟩
theorem mlX3_84 : az_sl RX3 84 yX7_asNumber := Or.inr ⟨"ColdestSaysSo", List.mem_of_getElem? (i := 43) rfl⟩
theorem mlX6_11 : az_sl RX6 11 yX2_init := Or.inr ⟨"ColdestSaysSo", List.mem_of_getElem? (i := 32) rfl⟩
set_option maxRecDepth 100000 in
theorem ckX7_7 : Cond.classLink RX7 7 "ColdestSaysSo$Country" ∈ az_tb := az_tw 89 rfl rfl
set_option maxRecDepth 100000 in
theorem ckX7_19 : Cond.classLink RX7 19 "ColdestSaysSo$Foresight" ∈ az_tb := az_tw 164 rfl rfl
set_option maxRecDepth 100000 in
theorem ckX7_26 : Cond.classLink RX7 26 "ColdestSaysSo$Chances" ∈ az_tb := az_tw 180 rfl rfl
set_option maxRecDepth 100000 in
theorem ckX7_33 : Cond.classLink RX7 33 "ColdestSaysSo$Turns" ∈ az_tb := az_tw 201 rfl rfl
set_option maxRecDepth 100000 in
theorem ckX7_40 : Cond.classLink RX7 40 "ColdestSaysSo$Bowls" ∈ az_tb := az_tw 216 rfl rfl
set_option maxRecDepth 100000 in
theorem ckX7_47 : Cond.classLink RX7 47 "ColdestSaysSo$Tape" ∈ az_tb := az_tw 232 rfl rfl
set_option maxRecDepth 100000 in
theorem ckX7_54 : Cond.classLink RX7 54 "ColdestSaysSo$Shelf" ∈ az_tb := az_tw 255 rfl rfl
set_option maxRecDepth 100000 in
theorem ckX1_9 : Cond.classLink RX1 9 "ColdestSaysSo$Country" ∈ az_tb := az_tw 186 rfl rfl
set_option maxRecDepth 100000 in
theorem ckX3_9 : Cond.classLink RX3 9 "ColdestSaysSo$Country" ∈ az_tb := az_tw 170 rfl rfl
set_option maxRecDepth 100000 in
theorem ckX6_9 : Cond.classLink RX6 9 "ColdestSaysSo$Country" ∈ az_tb := az_tw 207 rfl rfl
set_option maxRecDepth 100000 in
theorem ckL_7 : Cond.classLink RL 7 "ColdestSaysSo" ∈ az_tb := az_tw 81 rfl rfl
set_option maxRecDepth 100000 in
theorem ckL_10 : Cond.classLink RL 10 "ColdestSaysSoModel" ∈ az_tb := az_tw 991 rfl rfl
set_option maxRecDepth 100000 in
theorem ckX8_8 : Cond.classLink RX8 8 "ColdestSaysSoModel" ∈ az_tb := az_tw 1230 rfl rfl
set_option maxRecDepth 100000 in
theorem ckX8_19 : Cond.classLink RX8 19 "[[J" ∈ az_tb := az_tw 997 rfl rfl
set_option maxRecDepth 100000 in
theorem ckX8_83 : Cond.classLink RX8 83 "[[I" ∈ az_tb := az_tw 999 rfl rfl
set_option maxRecDepth 100000 in
theorem lcX2_106 : Cond.constant RX2 106 (1103515245) ∈ az_tb := az_tw 965 rfl rfl
set_option maxRecDepth 100000 in
theorem lcX8_351 : Cond.constant RX8 351 (1103515245) ∈ az_tb := az_tw 1552 rfl rfl
set_option maxRecDepth 100000 in
theorem lcJ6_265 : Cond.constant RJ6 265 (1431655765) ∈ az_tb := az_tw 690 rfl rfl
set_option maxRecDepth 100000 in
theorem lcJ6_266 : Cond.constant RJ6 266 (858993459) ∈ az_tb := az_tw 691 rfl rfl
set_option maxRecDepth 100000 in
theorem lcJ6_267 : Cond.constant RJ6 267 (252645135) ∈ az_tb := az_tw 692 rfl rfl
set_option maxRecDepth 100000 in
theorem lcX7_351 : Cond.constantLong RX7 351 (40) ∈ az_tb := az_tw 723 rfl rfl
set_option maxRecDepth 100000 in
theorem lcX1_70 : Cond.constantLong RX1 70 (1000000) ∈ az_tb := az_tw 859 rfl rfl
set_option maxRecDepth 100000 in
theorem lcX1_72 : Cond.constantLong RX1 72 (1000) ∈ az_tb := az_tw 864 rfl rfl
set_option maxRecDepth 100000 in
theorem lcL_18 : Cond.constantLong RL 18 (4294967295) ∈ az_tb := az_tw 1571 rfl rfl
set_option maxRecDepth 100000 in
theorem lcX8_95 : Cond.constantLong RX8 95 (7) ∈ az_tb := az_tw 1132 rfl rfl
set_option maxRecDepth 100000 in
theorem lcX8_97 : Cond.constantLong RX8 97 (4) ∈ az_tb := az_tw 1136 rfl rfl
set_option maxRecDepth 100000 in
theorem lcX8_99 : Cond.constantLong RX8 99 (40) ∈ az_tb := az_tw 1137 rfl rfl
set_option maxRecDepth 100000 in
theorem lcX8_116 : Cond.constantLong RX8 116 (5) ∈ az_tb := az_tw 1177 rfl rfl
set_option maxRecDepth 100000 in
theorem lcX8_125 : Cond.constantLong RX8 125 (9) ∈ az_tb := az_tw 1196 rfl rfl
set_option maxRecDepth 100000 in
theorem lcX8_127 : Cond.constantLong RX8 127 (20) ∈ az_tb := az_tw 1197 rfl rfl
set_option maxRecDepth 100000 in
theorem lcX8_133 : Cond.constantLong RX8 133 (2) ∈ az_tb := az_tw 1206 rfl rfl
set_option maxRecDepth 100000 in
theorem lcX8_135 : Cond.constantLong RX8 135 (3) ∈ az_tb := az_tw 1211 rfl rfl
set_option maxRecDepth 100000 in
theorem lcX8_137 : Cond.constantLong RX8 137 (999) ∈ az_tb := az_tw 1212 rfl rfl
set_option maxRecDepth 100000 in
theorem lcX8_142 : Cond.constantLong RX8 142 (255) ∈ az_tb := az_tw 1221 rfl rfl
set_option maxRecDepth 100000 in
theorem lcX8_242 : Cond.constantLong RX8 242 (6) ∈ az_tb := az_tw 1290 rfl rfl
set_option maxRecDepth 100000 in
theorem lcX8_274 : Cond.constantLong RX8 274 (200) ∈ az_tb := az_tw 1375 rfl rfl
set_option maxRecDepth 100000 in
theorem lcX8_291 : Cond.constantLong RX8 291 (60) ∈ az_tb := az_tw 1396 rfl rfl
set_option maxRecDepth 100000 in
theorem lcX8_346 : Cond.constantLong RX8 346 (1000000) ∈ az_tb := az_tw 1531 rfl rfl
set_option maxRecDepth 100000 in
theorem lcX8_362 : Cond.constantLong RX8 362 (12) ∈ az_tb := az_tw 1569 rfl rfl
set_option maxRecDepth 100000 in
theorem lcX8_364 : Cond.constantLong RX8 364 (16) ∈ az_tb := az_tw 1570 rfl rfl
set_option maxRecDepth 100000 in
theorem in_RX7 : Cond.instantiable "ColdestSaysSo" 10 ∈ az_tb := az_tw 82 rfl rfl
set_option maxRecDepth 100000 in
theorem in_RX0 : Cond.instantiable "ColdestSaysSo$Bowls" 3 ∈ az_tb := az_tw 217 rfl rfl
set_option maxRecDepth 100000 in
theorem in_RX1 : Cond.instantiable "ColdestSaysSo$Chances" 4 ∈ az_tb := az_tw 181 rfl rfl
set_option maxRecDepth 100000 in
theorem in_RX2 : Cond.instantiable "ColdestSaysSo$Country" 14 ∈ az_tb := az_tw 90 rfl rfl
set_option maxRecDepth 100000 in
theorem in_RX3 : Cond.instantiable "ColdestSaysSo$Foresight" 2 ∈ az_tb := az_tw 165 rfl rfl
set_option maxRecDepth 100000 in
theorem in_RX4 : Cond.instantiable "ColdestSaysSo$Shelf" 4 ∈ az_tb := az_tw 257 rfl rfl
set_option maxRecDepth 100000 in
theorem in_RX5 : Cond.instantiable "ColdestSaysSo$Tape" 5 ∈ az_tb := az_tw 233 rfl rfl
set_option maxRecDepth 100000 in
theorem in_RX6 : Cond.instantiable "ColdestSaysSo$Turns" 2 ∈ az_tb := az_tw 202 rfl rfl
set_option maxRecDepth 100000 in
theorem in_RX8 : Cond.instantiable "ColdestSaysSoModel" 42 ∈ az_tb := az_tw 992 rfl rfl
set_option maxRecDepth 100000 in
theorem ii_RX7 : Cond.initialized "ColdestSaysSo" ∈ az_tb := az_tw 64 rfl rfl
set_option maxRecDepth 100000 in
theorem ii_RX0 : Cond.initialized "ColdestSaysSo$Bowls" ∈ az_tb := az_tw 69 rfl rfl
set_option maxRecDepth 100000 in
theorem ii_RX1 : Cond.initialized "ColdestSaysSo$Chances" ∈ az_tb := az_tw 67 rfl rfl
set_option maxRecDepth 100000 in
theorem ii_RX2 : Cond.initialized "ColdestSaysSo$Country" ∈ az_tb := az_tw 65 rfl rfl
set_option maxRecDepth 100000 in
theorem ii_RX3 : Cond.initialized "ColdestSaysSo$Foresight" ∈ az_tb := az_tw 66 rfl rfl
set_option maxRecDepth 100000 in
theorem ii_RX4 : Cond.initialized "ColdestSaysSo$Shelf" ∈ az_tb := az_tw 71 rfl rfl
set_option maxRecDepth 100000 in
theorem ii_RX5 : Cond.initialized "ColdestSaysSo$Tape" ∈ az_tb := az_tw 70 rfl rfl
set_option maxRecDepth 100000 in
theorem ii_RX6 : Cond.initialized "ColdestSaysSo$Turns" ∈ az_tb := az_tw 68 rfl rfl
set_option maxRecDepth 100000 in
theorem ii_RL : Cond.initialized "ColdestSaysSoLaw" ∈ az_tb := az_tw 63 rfl rfl
set_option maxRecDepth 100000 in
theorem ii_RX8 : Cond.initialized "ColdestSaysSoModel" ∈ az_tb := az_tw 72 rfl rfl
set_option maxRecDepth 100000 in
theorem ii_RJ6 : Cond.initialized "java/lang/Integer" ∈ az_tb := az_tw 80 rfl rfl
set_option maxRecDepth 100000 in
theorem ii_RJ9 : Cond.initialized "java/lang/Math" ∈ az_tb := az_tw 74 rfl rfl
set_option maxRecDepth 100000 in
theorem ii_RJ0 : Cond.initialized "java/lang/String" ∈ az_tb := az_tw 76 rfl rfl
set_option maxRecDepth 100000 in
theorem ii_RJ1 : Cond.initialized "java/lang/StringLatin1" ∈ az_tb := az_tw 77 rfl rfl
set_option maxRecDepth 100000 in
theorem ii_RJ2 : Cond.initialized "java/lang/StringUTF16" ∈ az_tb := az_tw 79 rfl rfl
set_option maxRecDepth 100000 in
theorem ii_RJ10 : Cond.initialized "java/lang/System" ∈ az_tb := az_tw 75 rfl rfl
set_option maxRecDepth 100000 in
theorem ii_RJ7 : Cond.initialized "java/util/Arrays" ∈ az_tb := az_tw 73 rfl rfl
set_option maxRecDepth 100000 in
theorem ii_RJ3 : Cond.initialized "jdk/internal/util/Preconditions" ∈ az_tb := az_tw 78 rfl rfl
set_option maxRecDepth 100000 in
theorem w_oi1 : Cond.instanceMethod Lib.objectInit ∈ az_tb := az_tw 87 rfl rfl
set_option maxRecDepth 100000 in
theorem w_oi2 : Cond.code Lib.objectInit ⟨#[0xb1]⟩ 1 none ∈ az_tb := az_tw 88 rfl rfl
set_option maxRecDepth 100000 in
theorem w_max1 : Cond.static Lib.Math.max.name ∈ az_tb := az_tw 336 rfl rfl
set_option maxRecDepth 100000 in
theorem w_max2 : Cond.code Lib.Math.max.name Lib.Math.max.code 2 (some .int) ∈ az_tb := az_tw 337 rfl rfl
set_option maxRecDepth 100000 in
theorem w_min1 : Cond.static Lib.Math.min.name ∈ az_tb := az_tw 333 rfl rfl
set_option maxRecDepth 100000 in
theorem w_min2 : Cond.code Lib.Math.min.name Lib.Math.min.code 2 (some .int) ∈ az_tb := az_tw 334 rfl rfl
set_option maxRecDepth 100000 in
theorem w_math : Cond.initialized "java/lang/Math" ∈ az_tb := az_tw 74 rfl rfl
set_option maxRecDepth 100000 in
theorem w_ac1 : Cond.native arraycopyName ∈ az_tb := az_tw 382 rfl rfl
set_option maxRecDepth 100000 in
theorem w_ac2 : Cond.static arraycopyName ∈ az_tb := az_tw 381 rfl rfl
set_option maxRecDepth 100000 in
theorem w_ac3 : Cond.initialized "java/lang/System" ∈ az_tb := az_tw 75 rfl rfl

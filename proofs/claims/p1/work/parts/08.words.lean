abbrev zS {Rt : Type} (l : Launch) (D : va_G) (aC : Nat → ClassId) (B : Nat) (cc : ByteArray) (nL : Nat) (own : String) (fr lo : Nat) (ret : Option FieldType) (nm : String) (val : Rt → Option sm_V) (X : Option (Rt × sm_H)) (pc : Nat) (lv : List (Nat × sm_V)) (st : List sm_V) (h : sm_H) : Prop := sm_S l D vwCl gAts aC B gTs gNs gOs cc nL own fr lo ret nm (fun _ _ _ => True) (sm_Qf val D vwCl aC B) X pc lv st h
set_option maxRecDepth 100000 in
theorem mw0 : Cond.methodLink "TreeAgent$Chain" 1 objectInit ∈ gTs := gT 28 rfl rfl
set_option maxRecDepth 100000 in
theorem mw1 : Cond.instanceMethod objectInit ∈ gTs := gT 21 rfl rfl
set_option maxRecDepth 100000 in
theorem mw2 : Cond.code objectInit ⟨#[0xb1]⟩ 1 none ∈ gTs := gT 22 rfl rfl
set_option maxRecDepth 100000 in
theorem mw3 : Cond.arrayClass .long ∈ gTs := gT 39 rfl rfl
set_option maxRecDepth 100000 in
theorem mw4 : Cond.fieldLink "TreeAgent$Chain" 13 "TreeAgent$Chain" "items" "[J" ∈ gTs := gT 32 rfl rfl
set_option maxRecDepth 100000 in
theorem mw5 : Cond.methodLink "TreeAgent$Chain" 7 Lib.Math.max.name ∈ gTs := gT 29 rfl rfl
set_option maxRecDepth 100000 in
theorem mw6 : Cond.static Lib.Math.max.name ∈ gTs := gT 30 rfl rfl
set_option maxRecDepth 100000 in
theorem mw7 : Cond.initialized "java/lang/Math" ∈ gTs := gT 3 rfl rfl
set_option maxRecDepth 100000 in
theorem mw8 : Cond.code Lib.Math.max.name Lib.Math.max.code 2 (some .int) ∈ gTs := gT 31 rfl rfl
set_option maxRecDepth 100000 in
theorem mw9 : Cond.fieldLink "TreeAgent$Chain" 19 "TreeAgent$Chain" "size" "I" ∈ gTs := gT 33 rfl rfl
set_option maxRecDepth 100000 in
theorem mw10 : Cond.constantLong "TreeAgent$Chain" 23 (-1) ∈ gTs := gT 351 rfl rfl
set_option maxRecDepth 100000 in
theorem mw11 : Cond.methodLink "TreeAgent$Chain" 25 yX0_at ∈ gTs := gT 347 rfl rfl
set_option maxRecDepth 100000 in
theorem mw12 : Cond.methodLink "TreeAgent$Chain" 29 yX0_add ∈ gTs := gT 372 rfl rfl
set_option maxRecDepth 100000 in
theorem mw13 : Cond.instanceMethod yX0_add ∈ gTs := gT 303 rfl rfl
set_option maxRecDepth 100000 in
theorem mw14 : Cond.selects "TreeAgent$Chain" yX0_add yX0_add ∈ gTs := gT 304 rfl rfl
set_option maxRecDepth 100000 in
theorem mw15 : Cond.instanceMethod yX0_at ∈ gTs := gT 348 rfl rfl
set_option maxRecDepth 100000 in
theorem mw16 : Cond.selects "TreeAgent$Chain" yX0_at yX0_at ∈ gTs := gT 349 rfl rfl
set_option maxRecDepth 100000 in
theorem mw17 : Cond.methodLink "TreeAgent$Chain" 33 yX0_beginsWith ∈ gTs := gT 609 rfl rfl
set_option maxRecDepth 100000 in
theorem mw18 : Cond.instanceMethod yX0_beginsWith ∈ gTs := gT 344 rfl rfl
set_option maxRecDepth 100000 in
theorem mw19 : Cond.selects "TreeAgent$Chain" yX0_beginsWith yX0_beginsWith ∈ gTs := gT 345 rfl rfl
set_option maxRecDepth 100000 in
theorem mw20 : Cond.methodLink "TreeAgent$Chain" 37 Lib.Math.min.name ∈ gTs := gT 429 rfl rfl
set_option maxRecDepth 100000 in
theorem mw21 : Cond.static Lib.Math.min.name ∈ gTs := gT 430 rfl rfl
set_option maxRecDepth 100000 in
theorem mw22 : Cond.code Lib.Math.min.name Lib.Math.min.code 2 (some .int) ∈ gTs := gT 431 rfl rfl
set_option maxRecDepth 100000 in
theorem mw23 : Cond.methodLink "TreeAgent$Change" 3 objectInit ∈ gTs := gT 194 rfl rfl
set_option maxRecDepth 100000 in
theorem mw24 : Cond.fieldLink "TreeAgent$Change" 9 "TreeAgent$Change" "tree" "LTreeAgent$Tree;" ∈ gTs := gT 195 rfl rfl
set_option maxRecDepth 100000 in
theorem mw25 : Cond.fieldLink "TreeAgent$Change" 15 "TreeAgent$Change" "message" "LTreeAgent$Message;" ∈ gTs := gT 196 rfl rfl
set_option maxRecDepth 100000 in
theorem mw26 : Cond.fieldLink "TreeAgent$Message" 22 "TreeAgent$Message" "pairs" "[LTreeAgent$Pair;" ∈ gTs := gT 134 rfl rfl
set_option maxRecDepth 100000 in
theorem mw27 : Cond.fieldLink "TreeAgent$Community" 36 "TreeAgent$Community" "viewCount" "I" ∈ gTs := gT 625 rfl rfl
set_option maxRecDepth 100000 in
theorem mw28 : Cond.fieldLink "TreeAgent$Community" 20 "TreeAgent$Community" "views" "[LTreeAgent$Chain;" ∈ gTs := gT 623 rfl rfl
set_option maxRecDepth 100000 in
theorem mw29 : Cond.fieldLink "TreeAgent$Community" 24 "TreeAgent$Community" "isIn" "[Z" ∈ gTs := gT 624 rfl rfl
set_option maxRecDepth 100000 in
theorem mw30 : Cond.methodLink "TreeAgent$Community" 40 yX0_size ∈ gTs := gT 776 rfl rfl
set_option maxRecDepth 100000 in
theorem mw31 : Cond.methodLink "TreeAgent$Community" 44 yX0_beginsWith ∈ gTs := gT 777 rfl rfl
set_option maxRecDepth 100000 in
theorem mw32 : Cond.instanceMethod yX0_size ∈ gTs := gT 298 rfl rfl
set_option maxRecDepth 100000 in
theorem mw33 : Cond.selects "TreeAgent$Chain" yX0_size yX0_size ∈ gTs := gT 299 rfl rfl
set_option maxRecDepth 100000 in
theorem mw34 : Cond.fieldLink "TreeAgent$Tree" 11 "TreeAgent$Tree" "things" "[LTreeAgent$Thing;" ∈ gTs := gT 50 rfl rfl
set_option maxRecDepth 100000 in
theorem mw35 : Cond.fieldLink "TreeAgent$Tree" 26 "TreeAgent$Tree" "thingCount" "I" ∈ gTs := gT 53 rfl rfl
set_option maxRecDepth 100000 in
theorem mw36 : Cond.methodLink "TreeAgent$Tree" 33 yX9_thingAt ∈ gTs := gT 339 rfl rfl
set_option maxRecDepth 100000 in
theorem mw37 : Cond.fieldLinkNest "TreeAgent$Tree" 37 "TreeAgent$Thing" "name" "LTreeAgent$Chain;" "TreeAgent" ∈ gNs := gT2 389 rfl rfl
set_option maxRecDepth 100000 in
theorem mw38 : Cond.methodLink "TreeAgent$Tree" 41 yX0_beginsWith ∈ gTs := gT 343 rfl rfl
set_option maxRecDepth 100000 in
theorem mw39 : Cond.instanceMethod yX9_thingAt ∈ gTs := gT 340 rfl rfl
set_option maxRecDepth 100000 in
theorem mw40 : Cond.selects "TreeAgent$Tree" yX9_thingAt yX9_thingAt ∈ gTs := gT 341 rfl rfl
set_option maxRecDepth 100000 in
theorem mw41 : Cond.fieldLink "TreeAgent$Thing" 24 "TreeAgent$Thing" "tag" "I" ∈ gTs := gT 391 rfl rfl
set_option maxRecDepth 100000 in
theorem mw42 : Cond.fieldLinkNest "TreeAgent$Thing" 91 "TreeAgent$Value" "parts" "LTreeAgent$Chain;" "TreeAgent" ∈ gNs := gT2 89 rfl rfl
set_option maxRecDepth 100000 in
theorem mw43 : Cond.methodLink "TreeAgent$Thing" 78 yX0_size ∈ gTs := gT 835 rfl rfl
set_option maxRecDepth 100000 in
theorem mw44 : Cond.fieldLink "TreeAgent$Thing" 31 "TreeAgent$Thing" "least" "J" ∈ gTs := gT 397 rfl rfl
set_option maxRecDepth 100000 in
theorem mw45 : Cond.fieldLink "TreeAgent$Thing" 35 "TreeAgent$Thing" "most" "J" ∈ gTs := gT 398 rfl rfl
set_option maxRecDepth 100000 in
theorem mw46 : Cond.fieldLink "TreeAgent$Thing" 38 "TreeAgent$Thing" "table" "LTreeAgent$Table;" ∈ gTs := gT 399 rfl rfl
set_option maxRecDepth 100000 in
theorem mw47 : Cond.fieldLinkNest "TreeAgent$Thing" 54 "TreeAgent$Table" "statusColumn" "LTreeAgent$Thing;" "TreeAgent" ∈ gNs := gT2 459 rfl rfl
set_option maxRecDepth 100000 in
theorem mw48 : Cond.fieldLinkNest "TreeAgent$Thing" 98 "TreeAgent$Value" "number" "J" "TreeAgent" ∈ gNs := gT2 100 rfl rfl
set_option maxRecDepth 100000 in
theorem mw49 : Cond.methodLink "TreeAgent$Thing" 94 yX8_isStatus ∈ gTs := gT 897 rfl rfl
set_option maxRecDepth 100000 in
theorem mw50 : Cond.constantLong "TreeAgent$Thing" 101 (3) ∈ gTs := gT 898 rfl rfl
set_option maxRecDepth 100000 in
theorem mw51 : Cond.instanceMethod yX8_isStatus ∈ gTs := gT 555 rfl rfl
set_option maxRecDepth 100000 in
theorem mw52 : Cond.selects "TreeAgent$Thing" yX8_isStatus yX8_isStatus ∈ gTs := gT 556 rfl rfl
set_option maxRecDepth 100000 in
theorem mw53 : Cond.fieldLink "TreeAgent$Thing" 14 "TreeAgent$Thing" "name" "LTreeAgent$Chain;" ∈ gTs := gT 386 rfl rfl
set_option maxRecDepth 100000 in
theorem mw54 : Cond.methodLink "TreeAgent$Thing" 82 yX0_at ∈ gTs := gT 836 rfl rfl
set_option maxRecDepth 100000 in
theorem mw55 : Cond.constantLong "TreeAgent$Thing" 103 (2147483647) ∈ gTs := gT 903 rfl rfl
set_option maxRecDepth 100000 in
theorem mw56 : Cond.fieldLink "TreeAgent$Table" 26 "TreeAgent$Table" "indexes" "[I" ∈ gTs := gT 458 rfl rfl
set_option maxRecDepth 100000 in
theorem mw57 : Cond.methodLink "TreeAgent$Table" 50 yX7_slotHolding ∈ gTs := gT 532 rfl rfl
set_option maxRecDepth 100000 in
theorem mw58 : Cond.instanceMethod yX7_slotHolding ∈ gTs := gT 534 rfl rfl
set_option maxRecDepth 100000 in
theorem mw59 : Cond.selects "TreeAgent$Table" yX7_slotHolding yX7_slotHolding ∈ gTs := gT3 (y := yX7_slotHolding) (n := 6) 7 rfl rfl
set_option maxRecDepth 100000 in
theorem mw60 : Cond.constantLong "TreeAgent$Change" 132 (-1) ∈ gTs := gT 921 rfl rfl
set_option maxRecDepth 100000 in
theorem mw61 : Cond.fieldLinkNest "TreeAgent$Change" 29 "TreeAgent$Pair" "name" "LTreeAgent$Chain;" "TreeAgent" ∈ gNs := gT2 117 rfl rfl
set_option maxRecDepth 100000 in
theorem mw62 : Cond.fieldLinkNest "TreeAgent$Change" 77 "TreeAgent$Thing" "name" "LTreeAgent$Chain;" "TreeAgent" ∈ gNs := gT2 387 rfl rfl
set_option maxRecDepth 100000 in
theorem mw63 : Cond.methodLink "TreeAgent$Change" 78 yX0_size ∈ gTs := gT 904 rfl rfl
set_option maxRecDepth 100000 in
theorem mw64 : Cond.methodLink "TreeAgent$Change" 84 yX0_at ∈ gTs := gT 905 rfl rfl
set_option maxRecDepth 100000 in
theorem mw65 : Cond.fieldLinkNest "TreeAgent$Change" 128 "TreeAgent$Table" "statusColumn" "LTreeAgent$Thing;" "TreeAgent" ∈ gNs := gT2 460 rfl rfl
set_option maxRecDepth 100000 in
theorem mw66 : Cond.methodLink "TreeAgent$Change" 70 yX8_takesIndex ∈ gTs := gT 899 rfl rfl
set_option maxRecDepth 100000 in
theorem mw67 : Cond.fieldLinkNest "TreeAgent$Change" 53 "TreeAgent$Pair" "value" "LTreeAgent$Value;" "TreeAgent" ∈ gNs := gT2 122 rfl rfl
set_option maxRecDepth 100000 in
theorem mw68 : Cond.fieldLinkNest "TreeAgent$Change" 57 "TreeAgent$Value" "tag" "I" "TreeAgent" ∈ gNs := gT2 93 rfl rfl
set_option maxRecDepth 100000 in
theorem mw69 : Cond.methodLink "TreeAgent$Change" 134 yX0_beginsWith ∈ gTs := gT 922 rfl rfl
set_option maxRecDepth 100000 in
theorem mw70 : Cond.fieldLinkNest "TreeAgent$Change" 92 "TreeAgent$Value" "number" "J" "TreeAgent" ∈ gNs := gT2 97 rfl rfl
set_option maxRecDepth 100000 in
theorem mw71 : Cond.constantLong "TreeAgent$Change" 137 (4) ∈ gTs := gT 923 rfl rfl
set_option maxRecDepth 100000 in
theorem mw72 : Cond.constantLong "TreeAgent$Change" 139 (5) ∈ gTs := gT 924 rfl rfl
set_option maxRecDepth 100000 in
theorem mw73 : Cond.instanceMethod yX8_takesIndex ∈ gTs := gT 900 rfl rfl
set_option maxRecDepth 100000 in
theorem mw74 : Cond.selects "TreeAgent$Thing" yX8_takesIndex yX8_takesIndex ∈ gTs := gT 901 rfl rfl
set_option maxRecDepth 100000 in
theorem mw75 : Cond.methodLink "TreeAgent$Change" 19 yX3_pairAt ∈ gTs := gT 886 rfl rfl
set_option maxRecDepth 100000 in
theorem mw76 : Cond.methodLink "TreeAgent$Change" 124 yX1_indexMade ∈ gTs := gT 918 rfl rfl
set_option maxRecDepth 100000 in
theorem mw77 : Cond.static yX1_indexMade ∈ gTs := gT 919 rfl rfl
set_option maxRecDepth 100000 in
theorem mw78 : Cond.instanceMethod yX3_pairAt ∈ gTs := gT 727 rfl rfl
set_option maxRecDepth 100000 in
theorem mw79 : Cond.selects "TreeAgent$Message" yX3_pairAt yX3_pairAt ∈ gTs := gT 728 rfl rfl
set_option maxRecDepth 100000 in
theorem mw80 : Cond.fieldLink "TreeAgent$Table" 38 "TreeAgent$Table" "rowCount" "I" ∈ gTs := gT 464 rfl rfl
set_option maxRecDepth 100000 in
theorem mw81 : Cond.constantLong "TreeAgent$Change" 113 (2) ∈ gTs := gT 912 rfl rfl
set_option maxRecDepth 100000 in
theorem mw82 : Cond.constantLong "TreeAgent$Change" 115 (6) ∈ gTs := gT 913 rfl rfl
set_option maxRecDepth 100000 in
theorem mw83 : Cond.methodLink "TreeAgent$Change" 109 yX1_isMade ∈ gTs := gT 914 rfl rfl
set_option maxRecDepth 100000 in
theorem mw84 : Cond.methodLink "TreeAgent$Change" 117 yX7_rowCount ∈ gTs := gT 925 rfl rfl
set_option maxRecDepth 100000 in
theorem mw85 : Cond.methodLink "TreeAgent$Change" 120 yX1_madeBefore ∈ gTs := gT 926 rfl rfl
set_option maxRecDepth 100000 in
theorem mw86 : Cond.instanceMethod yX1_madeBefore ∈ gTs := gT 928 rfl rfl
set_option maxRecDepth 100000 in
theorem mw87 : Cond.selects "TreeAgent$Change" yX1_madeBefore yX1_madeBefore ∈ gTs := gT3 (y := yX1_madeBefore) (n := 2) 38 rfl rfl
set_option maxRecDepth 100000 in
theorem mw88 : Cond.instanceMethod yX7_rowCount ∈ gTs := gT 498 rfl rfl
set_option maxRecDepth 100000 in
theorem mw89 : Cond.selects "TreeAgent$Table" yX7_rowCount yX7_rowCount ∈ gTs := gT 499 rfl rfl
set_option maxRecDepth 100000 in
theorem mw90 : Cond.instanceMethod yX1_isMade ∈ gTs := gT 916 rfl rfl
set_option maxRecDepth 100000 in
theorem mw91 : Cond.selects "TreeAgent$Change" yX1_isMade yX1_isMade ∈ gTs := gT3 (y := yX1_isMade) (n := 2) 37 rfl rfl
set_option maxRecDepth 100000 in
theorem mw92 : Cond.methodLink "TreeAgent$Change" 100 yX7_slotOf ∈ gTs := gT 911 rfl rfl
set_option maxRecDepth 100000 in
theorem mw93 : Cond.instanceMethod yX7_slotOf ∈ gTs := gT 529 rfl rfl
set_option maxRecDepth 100000 in
theorem mw94 : Cond.selects "TreeAgent$Table" yX7_slotOf yX7_slotOf ∈ gTs := gT 530 rfl rfl
set_option maxRecDepth 100000 in
theorem mw95 : Cond.fieldLinkNest "TreeAgent$Change" 73 "TreeAgent$Thing" "table" "LTreeAgent$Table;" "TreeAgent" ∈ gNs := gT2 400 rfl rfl
set_option maxRecDepth 100000 in
theorem mw96 : Cond.fieldLinkNest "TreeAgent$Change" 106 "TreeAgent$Message" "count" "I" "TreeAgent" ∈ gNs := gT2 148 rfl rfl
set_option maxRecDepth 100000 in
theorem mw97 : Cond.fieldLinkNest "TreeAgent$Change" 25 "TreeAgent$Message" "community" "LTreeAgent$Community;" "TreeAgent" ∈ gNs := gT2 135 rfl rfl
set_option maxRecDepth 100000 in
theorem mw98 : Cond.methodLink "TreeAgent$Change" 35 yX2_shows ∈ gTs := gT 887 rfl rfl
set_option maxRecDepth 100000 in
theorem mw99 : Cond.methodLink "TreeAgent$Change" 41 yX9_thingFor ∈ gTs := gT 888 rfl rfl
set_option maxRecDepth 100000 in
theorem mw100 : Cond.fieldLinkNest "TreeAgent$Change" 47 "TreeAgent$Thing" "access" "I" "TreeAgent" ∈ gNs := gT2 395 rfl rfl
set_option maxRecDepth 100000 in
theorem mw101 : Cond.fieldLinkNest "TreeAgent$Change" 62 "TreeAgent$Thing" "tag" "I" "TreeAgent" ∈ gNs := gT2 392 rfl rfl
set_option maxRecDepth 100000 in
theorem mw102 : Cond.methodLink "TreeAgent$Change" 63 yX8_takesLength ∈ gTs := gT 889 rfl rfl
set_option maxRecDepth 100000 in
theorem mw103 : Cond.methodLink "TreeAgent$Change" 67 yX8_takesNumber ∈ gTs := gT 893 rfl rfl
set_option maxRecDepth 100000 in
theorem mw104 : Cond.methodLink "TreeAgent$Change" 88 yX8_isStatus ∈ gTs := gT 906 rfl rfl
set_option maxRecDepth 100000 in
theorem mw105 : Cond.methodLink "TreeAgent$Change" 96 yX1_statusFault ∈ gTs := gT 907 rfl rfl
set_option maxRecDepth 100000 in
theorem mw106 : Cond.instanceMethod yX1_statusFault ∈ gTs := gT 909 rfl rfl
set_option maxRecDepth 100000 in
theorem mw107 : Cond.selects "TreeAgent$Change" yX1_statusFault yX1_statusFault ∈ gTs := gT3 (y := yX1_statusFault) (n := 2) 36 rfl rfl
set_option maxRecDepth 100000 in
theorem mw108 : Cond.instanceMethod yX8_takesNumber ∈ gTs := gT 894 rfl rfl
set_option maxRecDepth 100000 in
theorem mw109 : Cond.selects "TreeAgent$Thing" yX8_takesNumber yX8_takesNumber ∈ gTs := gT 895 rfl rfl
set_option maxRecDepth 100000 in
theorem mw110 : Cond.instanceMethod yX8_takesLength ∈ gTs := gT 890 rfl rfl
set_option maxRecDepth 100000 in
theorem mw111 : Cond.selects "TreeAgent$Thing" yX8_takesLength yX8_takesLength ∈ gTs := gT 891 rfl rfl
set_option maxRecDepth 100000 in
theorem mw112 : Cond.instanceMethod yX9_thingFor ∈ gTs := gT 769 rfl rfl
set_option maxRecDepth 100000 in
theorem mw113 : Cond.selects "TreeAgent$Tree" yX9_thingFor yX9_thingFor ∈ gTs := gT 770 rfl rfl
set_option maxRecDepth 100000 in
theorem mw114 : Cond.instanceMethod yX2_shows ∈ gTs := gT 773 rfl rfl
set_option maxRecDepth 100000 in
theorem mw115 : Cond.selects "TreeAgent$Community" yX2_shows yX2_shows ∈ gTs := gT 774 rfl rfl
set_option maxRecDepth 100000 in
theorem mw116 : Cond.fieldLink "TreeAgent$Thing" 44 "TreeAgent$Thing" "cells" "[LTreeAgent$Value;" ∈ gTs := gT 401 rfl rfl
set_option maxRecDepth 100000 in
theorem mw117 : Cond.fieldLink "TreeAgent$Value" 9 "TreeAgent$Value" "tag" "I" ∈ gTs := gT 92 rfl rfl
set_option maxRecDepth 100000 in
theorem mw118 : Cond.fieldLink "TreeAgent$Value" 24 "TreeAgent$Value" "number" "J" ∈ gTs := gT 98 rfl rfl
set_option maxRecDepth 100000 in
theorem mw119 : Cond.fieldLink "TreeAgent$Value" 20 "TreeAgent$Value" "parts" "LTreeAgent$Chain;" ∈ gTs := gT 87 rfl rfl
set_option maxRecDepth 100000 in
theorem mw120 : Cond.methodLink "TreeAgent$Value" 28 yX0_clear ∈ gTs := gT 384 rfl rfl
set_option maxRecDepth 100000 in
theorem mw121 : Cond.instanceMethod yX0_clear ∈ gTs := gT 294 rfl rfl
set_option maxRecDepth 100000 in
theorem mw122 : Cond.selects "TreeAgent$Chain" yX0_clear yX0_clear ∈ gTs := gT 295 rfl rfl
set_option maxRecDepth 100000 in
theorem mw123 : Cond.methodLink "TreeAgent$Value" 31 yX10_becomeEmpty ∈ gTs := gT 380 rfl rfl
set_option maxRecDepth 100000 in
theorem mw124 : Cond.methodLink "TreeAgent$Value" 34 yX0_add ∈ gTs := gT 385 rfl rfl
set_option maxRecDepth 100000 in
theorem mw125 : Cond.instanceMethod yX10_becomeEmpty ∈ gTs := gT 381 rfl rfl
set_option maxRecDepth 100000 in
theorem mw126 : Cond.selects "TreeAgent$Value" yX10_becomeEmpty yX10_becomeEmpty ∈ gTs := gT 382 rfl rfl
set_option maxRecDepth 100000 in
theorem mw127 : Cond.methodLink "TreeAgent$Table" 58 yX10_becomeFirst ∈ gTs := gT 549 rfl rfl
set_option maxRecDepth 100000 in
theorem mw128 : Cond.fieldLink "TreeAgent$Table" 63 "TreeAgent$Table" "statusColumn" "LTreeAgent$Thing;" ∈ gTs := gT 461 rfl rfl
set_option maxRecDepth 100000 in
theorem mw129 : Cond.fieldLinkNest "TreeAgent$Table" 67 "TreeAgent$Value" "number" "J" "TreeAgent" ∈ gNs := gT2 99 rfl rfl
set_option maxRecDepth 100000 in
theorem mw130 : Cond.instanceMethod yX10_becomeFirst ∈ gTs := gT 377 rfl rfl
set_option maxRecDepth 100000 in
theorem mw131 : Cond.selects "TreeAgent$Value" yX10_becomeFirst yX10_becomeFirst ∈ gTs := gT 378 rfl rfl
set_option maxRecDepth 100000 in
theorem mw132 : Cond.fieldLink "TreeAgent$Table" 22 "TreeAgent$Table" "columns" "[LTreeAgent$Thing;" ∈ gTs := gT 457 rfl rfl
set_option maxRecDepth 100000 in
theorem mw133 : Cond.methodLink "TreeAgent$Table" 54 yX8_cellAt ∈ gTs := gT 545 rfl rfl
set_option maxRecDepth 100000 in
theorem mw134 : Cond.instanceMethod yX8_cellAt ∈ gTs := gT 546 rfl rfl
set_option maxRecDepth 100000 in
theorem mw135 : Cond.selects "TreeAgent$Thing" yX8_cellAt yX8_cellAt ∈ gTs := gT 547 rfl rfl
set_option maxRecDepth 100000 in
theorem mw136 : Cond.methodLink "TreeAgent$Change" 148 yX7_make ∈ gTs := gT 956 rfl rfl
set_option maxRecDepth 100000 in
theorem mw137 : Cond.instanceMethod yX7_make ∈ gTs := gT 542 rfl rfl
set_option maxRecDepth 100000 in
theorem mw138 : Cond.selects "TreeAgent$Table" yX7_make yX7_make ∈ gTs := gT 543 rfl rfl
set_option maxRecDepth 100000 in
theorem mw139 : Cond.methodLink "TreeAgent$Thing" 64 yX7_slotOf ∈ gTs := gT 563 rfl rfl
set_option maxRecDepth 100000 in
theorem mw140 : Cond.methodLink "TreeAgent$Thing" 60 yX8_cellAt ∈ gTs := gT 562 rfl rfl
set_option maxRecDepth 100000 in
theorem mw141 : Cond.methodLink "TreeAgent$Value" 38 yX0_copy ∈ gTs := gT 966 rfl rfl
set_option maxRecDepth 100000 in
theorem mw142 : Cond.instanceMethod yX0_copy ∈ gTs := gT 369 rfl rfl
set_option maxRecDepth 100000 in
theorem mw143 : Cond.selects "TreeAgent$Chain" yX0_copy yX0_copy ∈ gTs := gT 370 rfl rfl
set_option maxRecDepth 100000 in
theorem mw144 : Cond.methodLink "TreeAgent$Table" 71 yX7_slotOf ∈ gTs := gT 540 rfl rfl
set_option maxRecDepth 100000 in
theorem mw145 : Cond.methodLink "TreeAgent$Change" 156 yX10_copy ∈ gTs := gT 962 rfl rfl
set_option maxRecDepth 100000 in
theorem mw146 : Cond.instanceMethod yX10_copy ∈ gTs := gT 963 rfl rfl
set_option maxRecDepth 100000 in
theorem mw147 : Cond.selects "TreeAgent$Value" yX10_copy yX10_copy ∈ gTs := gT 964 rfl rfl
set_option maxRecDepth 100000 in
theorem mw148 : Cond.methodLink "TreeAgent$Change" 160 yX7_takeAway ∈ gTs := gT 967 rfl rfl
set_option maxRecDepth 100000 in
theorem mw149 : Cond.instanceMethod yX7_takeAway ∈ gTs := gT 537 rfl rfl
set_option maxRecDepth 100000 in
theorem mw150 : Cond.selects "TreeAgent$Table" yX7_takeAway yX7_takeAway ∈ gTs := gT 538 rfl rfl
set_option maxRecDepth 100000 in
theorem mw151 : Cond.methodLink "TreeAgent$Change" 152 yX8_cellFor ∈ gTs := gT 961 rfl rfl
set_option maxRecDepth 100000 in
theorem mw152 : Cond.instanceMethod yX8_cellFor ∈ gTs := gT 559 rfl rfl
set_option maxRecDepth 100000 in
theorem mw153 : Cond.selects "TreeAgent$Thing" yX8_cellFor yX8_cellFor ∈ gTs := gT 560 rfl rfl
set_option maxRecDepth 100000 in
theorem mw154 : Cond.methodLink "TreeAgent$Change" 145 yX1_setOne ∈ gTs := gT 957 rfl rfl
set_option maxRecDepth 100000 in
theorem mw155 : Cond.instanceMethod yX1_setOne ∈ gTs := gT 959 rfl rfl
set_option maxRecDepth 100000 in
theorem mw156 : Cond.selects "TreeAgent$Change" yX1_setOne yX1_setOne ∈ gTs := gT3 (y := yX1_setOne) (n := 2) 41 rfl rfl
set_option maxRecDepth 100000 in
theorem mw157 : Cond.methodLink "TreeAgent$Change" 141 yX1_makeRow ∈ gTs := gT 952 rfl rfl
set_option maxRecDepth 100000 in
theorem mw158 : Cond.instanceMethod yX1_makeRow ∈ gTs := gT 954 rfl rfl
set_option maxRecDepth 100000 in
theorem mw159 : Cond.selects "TreeAgent$Change" yX1_makeRow yX1_makeRow ∈ gTs := gT3 (y := yX1_makeRow) (n := 2) 40 rfl rfl
set_option maxRecDepth 100000 in
theorem mw160 : Cond.methodLink "TreeAgent$Community" 3 objectInit ∈ gTs := gT 614 rfl rfl
set_option maxRecDepth 100000 in
theorem mw161 : Cond.methodLink "TreeAgent$Community" 11 yX0_init ∈ gTs := gT 616 rfl rfl
set_option maxRecDepth 100000 in
theorem mw162 : Cond.fieldLink "TreeAgent$Community" 14 "TreeAgent$Community" "name" "LTreeAgent$Chain;" ∈ gTs := gT 619 rfl rfl
set_option maxRecDepth 100000 in
theorem mw163 : Cond.classLink "TreeAgent$Community" 9 "TreeAgent$Chain" ∈ gTs := gT 615 rfl rfl
set_option maxRecDepth 100000 in
theorem mw164 : Cond.arrayClass .boolean ∈ gTs := gT 637 rfl rfl
set_option maxRecDepth 100000 in
theorem mw165 : Cond.methodLink "TreeAgent$Community" 28 yX0_copy ∈ gTs := gT 618 rfl rfl
set_option maxRecDepth 100000 in
theorem mw166 : Cond.fieldLink "TreeAgent$Community" 32 "TreeAgent$Community" "maySet" "Z" ∈ gTs := gT 621 rfl rfl
set_option maxRecDepth 100000 in
theorem mw167 : Cond.instanceMethod yX0_init ∈ gTs := gT 26 rfl rfl
set_option maxRecDepth 100000 in
theorem mw168 : Cond.instantiable "TreeAgent$Chain" 2 ∈ gTs := gT 24 rfl rfl
set_option maxRecDepth 100000 in
theorem mw169 : Cond.initialized "TreeAgent$Chain" ∈ gTs := gT 2 rfl rfl
set_option maxRecDepth 100000 in
theorem mw170 : Cond.methodLink "TreeAgent$Value" 3 objectInit ∈ gTs := gT 84 rfl rfl
set_option maxRecDepth 100000 in
theorem mw171 : Cond.methodLink "TreeAgent$Value" 17 yX0_init ∈ gTs := gT 86 rfl rfl
set_option maxRecDepth 100000 in
theorem mw172 : Cond.classLink "TreeAgent$Value" 15 "TreeAgent$Chain" ∈ gTs := gT 85 rfl rfl
set_option maxRecDepth 100000 in
theorem mw173 : Cond.methodLink "TreeAgent$Pair" 3 objectInit ∈ gTs := gT 113 rfl rfl
set_option maxRecDepth 100000 in
theorem mw174 : Cond.methodLink "TreeAgent$Pair" 11 yX0_init ∈ gTs := gT 115 rfl rfl
set_option maxRecDepth 100000 in
theorem mw175 : Cond.fieldLink "TreeAgent$Pair" 14 "TreeAgent$Pair" "name" "LTreeAgent$Chain;" ∈ gTs := gT 116 rfl rfl
set_option maxRecDepth 100000 in
theorem mw176 : Cond.fieldLink "TreeAgent$Pair" 20 "TreeAgent$Pair" "value" "LTreeAgent$Value;" ∈ gTs := gT 121 rfl rfl
set_option maxRecDepth 100000 in
theorem mw177 : Cond.classLink "TreeAgent$Pair" 9 "TreeAgent$Chain" ∈ gTs := gT 114 rfl rfl
set_option maxRecDepth 100000 in
theorem mw178 : Cond.methodLink "TreeAgent$Message" 28 yX10_init ∈ gTs := gT 81 rfl rfl
set_option maxRecDepth 100000 in
theorem mw179 : Cond.methodLink "TreeAgent$Message" 31 yX4_init ∈ gTs := gT 110 rfl rfl
set_option maxRecDepth 100000 in
theorem mw180 : Cond.instanceMethod yX4_init ∈ gTs := gT 111 rfl rfl
set_option maxRecDepth 100000 in
theorem mw181 : Cond.instanceMethod yX10_init ∈ gTs := gT 82 rfl rfl
set_option maxRecDepth 100000 in
theorem mw182 : Cond.classLink "TreeAgent$Message" 26 "TreeAgent$Value" ∈ gTs := gT 79 rfl rfl
set_option maxRecDepth 100000 in
theorem mw183 : Cond.instantiable "TreeAgent$Value" 3 ∈ gTs := gT 80 rfl rfl
set_option maxRecDepth 100000 in
theorem mw184 : Cond.initialized "TreeAgent$Value" ∈ gTs := gT 7 rfl rfl
set_option maxRecDepth 100000 in
theorem mw185 : Cond.classLink "TreeAgent$Message" 20 "TreeAgent$Pair" ∈ gTs := gT 76 rfl rfl
set_option maxRecDepth 100000 in
theorem mw186 : Cond.instantiable "TreeAgent$Pair" 2 ∈ gTs := gT 78 rfl rfl
set_option maxRecDepth 100000 in
theorem mw187 : Cond.initialized "TreeAgent$Pair" ∈ gTs := gT 6 rfl rfl
set_option maxRecDepth 100000 in
theorem mw188 : Cond.methodLink "TreeAgent$Message" 3 objectInit ∈ gTs := gT 73 rfl rfl
set_option maxRecDepth 100000 in
theorem mw189 : Cond.methodLink "TreeAgent$Message" 11 yX0_init ∈ gTs := gT 75 rfl rfl
set_option maxRecDepth 100000 in
theorem mw190 : Cond.fieldLink "TreeAgent$Message" 14 "TreeAgent$Message" "communityName" "LTreeAgent$Chain;" ∈ gTs := gT 130 rfl rfl
set_option maxRecDepth 100000 in
theorem mw191 : Cond.classLink "TreeAgent$Message" 9 "TreeAgent$Chain" ∈ gTs := gT 74 rfl rfl
set_option maxRecDepth 100000 in
theorem mw192 : Cond.methodLink "TreeAgent$Reader" 3 objectInit ∈ gTs := gT 176 rfl rfl
set_option maxRecDepth 100000 in
theorem mw193 : Cond.methodLink "TreeAgent$Reader" 11 yX10_init ∈ gTs := gT 178 rfl rfl
set_option maxRecDepth 100000 in
theorem mw194 : Cond.fieldLink "TreeAgent$Reader" 14 "TreeAgent$Reader" "integer" "LTreeAgent$Value;" ∈ gTs := gT 180 rfl rfl
set_option maxRecDepth 100000 in
theorem mw195 : Cond.fieldLink "TreeAgent$Reader" 20 "TreeAgent$Reader" "tape" "LTreeAgent$Chain;" ∈ gTs := gT 179 rfl rfl
set_option maxRecDepth 100000 in
theorem mw196 : Cond.classLink "TreeAgent$Reader" 9 "TreeAgent$Value" ∈ gTs := gT 177 rfl rfl
set_option maxRecDepth 100000 in
theorem mw197 : Cond.fieldLink "TreeAgent$Reader" 24 "TreeAgent$Reader" "at" "I" ∈ gTs := gT 181 rfl rfl
set_option maxRecDepth 100000 in
theorem mw198 : Cond.methodLink "TreeAgent$Reader" 62 yX0_at ∈ gTs := gT 694 rfl rfl
set_option maxRecDepth 100000 in
theorem mw199 : Cond.constantLong "TreeAgent$Reader" 129 (128) ∈ gTs := gT 700 rfl rfl
set_option maxRecDepth 100000 in
theorem mw200 : Cond.constantLong "TreeAgent$Reader" 131 (129) ∈ gTs := gT 701 rfl rfl
set_option maxRecDepth 100000 in
theorem mw201 : Cond.constantLong "TreeAgent$Reader" 127 (-1) ∈ gTs := gT 699 rfl rfl
set_option maxRecDepth 100000 in
theorem mw202 : Cond.constantLong "TreeAgent$Reader" 133 (132) ∈ gTs := gT 702 rfl rfl
set_option maxRecDepth 100000 in
theorem mw203 : Cond.methodLink "TreeAgent$Reader" 124 yX5_readLength ∈ gTs := gT 695 rfl rfl
set_option maxRecDepth 100000 in
theorem mw204 : Cond.instanceMethod yX5_readLength ∈ gTs := gT 697 rfl rfl
set_option maxRecDepth 100000 in
theorem mw205 : Cond.selects "TreeAgent$Reader" yX5_readLength yX5_readLength ∈ gTs := gT3 (y := yX5_readLength) (n := 3) 17 rfl rfl
set_option maxRecDepth 100000 in
theorem mw206 : Cond.methodLink "TreeAgent$Reader" 45 yX0_size ∈ gTs := gT 689 rfl rfl
set_option maxRecDepth 100000 in
theorem mw207 : Cond.methodLink "TreeAgent$Reader" 51 yX5_enter ∈ gTs := gT 690 rfl rfl
set_option maxRecDepth 100000 in
theorem mw208 : Cond.instanceMethod yX5_enter ∈ gTs := gT 692 rfl rfl
set_option maxRecDepth 100000 in
theorem mw209 : Cond.selects "TreeAgent$Reader" yX5_enter yX5_enter ∈ gTs := gT3 (y := yX5_enter) (n := 3) 16 rfl rfl
set_option maxRecDepth 100000 in
theorem mw210 : Cond.constantLong "TreeAgent" 242 (-2147483648) ∈ gTs := gT 571 rfl rfl
set_option maxRecDepth 100000 in
theorem mw211 : Cond.constantLong "TreeAgent" 244 (2147483647) ∈ gTs := gT 572 rfl rfl
set_option maxRecDepth 100000 in
theorem mw212 : Cond.constantLong "TreeAgent" 118 (4294967295) ∈ gTs := gT 316 rfl rfl
set_option maxRecDepth 100000 in
theorem mw213 : Cond.methodLinkNest "TreeAgent$Reader" 137 yX11_isNumberOf "TreeAgent" ∈ gNs := gT2 712 rfl rfl
set_option maxRecDepth 100000 in
theorem mw214 : Cond.static yX11_isNumberOf ∈ gTs := gT 569 rfl rfl
set_option maxRecDepth 100000 in
theorem mw215 : Cond.fieldLinkNest "TreeAgent$Reader" 36 "TreeAgent$Value" "number" "J" "TreeAgent" ∈ gNs := gT2 96 rfl rfl
set_option maxRecDepth 100000 in
theorem mw216 : Cond.constantLong "TreeAgent$Reader" 135 (255) ∈ gTs := gT 711 rfl rfl
set_option maxRecDepth 100000 in
theorem mw217 : Cond.methodLink "TreeAgent$Reader" 120 yX5_takeNumber ∈ gTs := gT 707 rfl rfl
set_option maxRecDepth 100000 in
theorem mw218 : Cond.instanceMethod yX5_takeNumber ∈ gTs := gT 709 rfl rfl
set_option maxRecDepth 100000 in
theorem mw219 : Cond.selects "TreeAgent$Reader" yX5_takeNumber yX5_takeNumber ∈ gTs := gT3 (y := yX5_takeNumber) (n := 3) 19 rfl rfl
set_option maxRecDepth 100000 in
theorem mw220 : Cond.methodLink "TreeAgent$Reader" 144 yX0_add ∈ gTs := gT 718 rfl rfl
set_option maxRecDepth 100000 in
theorem mw221 : Cond.methodLink "TreeAgent$Reader" 141 yX0_clear ∈ gTs := gT 717 rfl rfl
set_option maxRecDepth 100000 in
theorem mw222 : Cond.fieldLinkNest "TreeAgent$Reader" 40 "TreeAgent$Message" "version" "I" "TreeAgent" ∈ gNs := gT2 137 rfl rfl
set_option maxRecDepth 100000 in
theorem mw223 : Cond.fieldLinkNest "TreeAgent$Reader" 55 "TreeAgent$Message" "communityName" "LTreeAgent$Chain;" "TreeAgent" ∈ gNs := gT2 131 rfl rfl
set_option maxRecDepth 100000 in
theorem mw224 : Cond.methodLink "TreeAgent$Reader" 58 yX5_takeText ∈ gTs := gT 713 rfl rfl
set_option maxRecDepth 100000 in
theorem mw225 : Cond.instanceMethod yX5_takeText ∈ gTs := gT 715 rfl rfl
set_option maxRecDepth 100000 in
theorem mw226 : Cond.selects "TreeAgent$Reader" yX5_takeText yX5_takeText ∈ gTs := gT3 (y := yX5_takeText) (n := 3) 20 rfl rfl
set_option maxRecDepth 100000 in
theorem mw227 : Cond.methodLink "TreeAgent$Reader" 28 yX5_enterLast ∈ gTs := gT 685 rfl rfl
set_option maxRecDepth 100000 in
theorem mw228 : Cond.methodLink "TreeAgent$Reader" 32 yX5_readInteger ∈ gTs := gT 703 rfl rfl
set_option maxRecDepth 100000 in
theorem mw229 : Cond.instanceMethod yX5_readInteger ∈ gTs := gT 705 rfl rfl
set_option maxRecDepth 100000 in
theorem mw230 : Cond.selects "TreeAgent$Reader" yX5_readInteger yX5_readInteger ∈ gTs := gT3 (y := yX5_readInteger) (n := 3) 18 rfl rfl
set_option maxRecDepth 100000 in
theorem mw231 : Cond.instanceMethod yX5_enterLast ∈ gTs := gT 687 rfl rfl
set_option maxRecDepth 100000 in
theorem mw232 : Cond.selects "TreeAgent$Reader" yX5_enterLast yX5_enterLast ∈ gTs := gT3 (y := yX5_enterLast) (n := 3) 15 rfl rfl
set_option maxRecDepth 100000 in
theorem mw233 : Cond.constantLong "TreeAgent$Reader" 156 (120) ∈ gTs := gT 743 rfl rfl
set_option maxRecDepth 100000 in
theorem mw234 : Cond.constantLong "TreeAgent$Reader" 158 (40) ∈ gTs := gT 744 rfl rfl
set_option maxRecDepth 100000 in
theorem mw235 : Cond.methodLink "TreeAgent$Reader" 152 yX5_addToName ∈ gTs := gT 740 rfl rfl
set_option maxRecDepth 100000 in
theorem mw236 : Cond.static yX5_addToName ∈ gTs := gT 741 rfl rfl
set_option maxRecDepth 100000 in
theorem mw237 : Cond.constantLong "TreeAgent$Reader" 150 (4294967295) ∈ gTs := gT 739 rfl rfl
set_option maxRecDepth 100000 in
theorem mw238 : Cond.constantLong "TreeAgent$Reader" 148 (127) ∈ gTs := gT 738 rfl rfl
set_option maxRecDepth 100000 in
theorem mw239 : Cond.methodLink "TreeAgent$Reader" 107 yX10_becomeEmpty ∈ gTs := gT 749 rfl rfl
set_option maxRecDepth 100000 in
theorem mw240 : Cond.fieldLinkNest "TreeAgent$Reader" 111 "TreeAgent$Value" "parts" "LTreeAgent$Chain;" "TreeAgent" ∈ gNs := gT2 88 rfl rfl
set_option maxRecDepth 100000 in
theorem mw241 : Cond.methodLink "TreeAgent$Reader" 97 yX5_takeName ∈ gTs := gT 734 rfl rfl
set_option maxRecDepth 100000 in
theorem mw242 : Cond.instanceMethod yX5_takeName ∈ gTs := gT 736 rfl rfl
set_option maxRecDepth 100000 in
theorem mw243 : Cond.selects "TreeAgent$Reader" yX5_takeName yX5_takeName ∈ gTs := gT3 (y := yX5_takeName) (n := 3) 22 rfl rfl
set_option maxRecDepth 100000 in
theorem mw244 : Cond.methodLink "TreeAgent$Reader" 114 yX5_takeAddress ∈ gTs := gT 750 rfl rfl
set_option maxRecDepth 100000 in
theorem mw245 : Cond.instanceMethod yX5_takeAddress ∈ gTs := gT 752 rfl rfl
set_option maxRecDepth 100000 in
theorem mw246 : Cond.selects "TreeAgent$Reader" yX5_takeAddress yX5_takeAddress ∈ gTs := gT3 (y := yX5_takeAddress) (n := 3) 24 rfl rfl
set_option maxRecDepth 100000 in
theorem mw247 : Cond.methodLinkNest "TreeAgent$Reader" 117 yX11_isObjectTag "TreeAgent" ∈ gNs := gT2 754 rfl rfl
set_option maxRecDepth 100000 in
theorem mw248 : Cond.static yX11_isObjectTag ∈ gTs := gT 326 rfl rfl
set_option maxRecDepth 100000 in
theorem mw249 : Cond.fieldLinkNest "TreeAgent$Reader" 92 "TreeAgent$Pair" "name" "LTreeAgent$Chain;" "TreeAgent" ∈ gNs := gT2 118 rfl rfl
set_option maxRecDepth 100000 in
theorem mw250 : Cond.fieldLinkNest "TreeAgent$Reader" 100 "TreeAgent$Pair" "value" "LTreeAgent$Value;" "TreeAgent" ∈ gNs := gT2 123 rfl rfl
set_option maxRecDepth 100000 in
theorem mw251 : Cond.methodLink "TreeAgent$Reader" 103 yX5_readValue ∈ gTs := gT 745 rfl rfl
set_option maxRecDepth 100000 in
theorem mw252 : Cond.instanceMethod yX5_readValue ∈ gTs := gT 747 rfl rfl
set_option maxRecDepth 100000 in
theorem mw253 : Cond.selects "TreeAgent$Reader" yX5_readValue yX5_readValue ∈ gTs := gT3 (y := yX5_readValue) (n := 3) 23 rfl rfl
set_option maxRecDepth 100000 in
theorem mw254 : Cond.methodLink "TreeAgent$Reader" 84 yX3_pairAt ∈ gTs := gT 726 rfl rfl
set_option maxRecDepth 100000 in
theorem mw255 : Cond.methodLink "TreeAgent$Reader" 88 yX5_readPair ∈ gTs := gT 730 rfl rfl
set_option maxRecDepth 100000 in
theorem mw256 : Cond.fieldLinkNest "TreeAgent$Reader" 68 "TreeAgent$Message" "count" "I" "TreeAgent" ∈ gNs := gT2 149 rfl rfl
set_option maxRecDepth 100000 in
theorem mw257 : Cond.instanceMethod yX5_readPair ∈ gTs := gT 732 rfl rfl
set_option maxRecDepth 100000 in
theorem mw258 : Cond.selects "TreeAgent$Reader" yX5_readPair yX5_readPair ∈ gTs := gT3 (y := yX5_readPair) (n := 3) 21 rfl rfl
set_option maxRecDepth 100000 in
theorem mw259 : Cond.fieldLinkNest "TreeAgent$Reader" 65 "TreeAgent$Message" "kind" "I" "TreeAgent" ∈ gNs := gT2 140 rfl rfl
set_option maxRecDepth 100000 in
theorem mw260 : Cond.methodLink "TreeAgent$Reader" 71 yX5_isKind ∈ gTs := gT 723 rfl rfl
set_option maxRecDepth 100000 in
theorem mw261 : Cond.fieldLinkNest "TreeAgent$Reader" 75 "TreeAgent$Message" "id" "I" "TreeAgent" ∈ gNs := gT2 142 rfl rfl
set_option maxRecDepth 100000 in
theorem mw262 : Cond.fieldLinkNest "TreeAgent$Reader" 78 "TreeAgent$Message" "s" "I" "TreeAgent" ∈ gNs := gT2 144 rfl rfl
set_option maxRecDepth 100000 in
theorem mw263 : Cond.fieldLinkNest "TreeAgent$Reader" 81 "TreeAgent$Message" "t" "I" "TreeAgent" ∈ gNs := gT2 146 rfl rfl
set_option maxRecDepth 100000 in
theorem mw264 : Cond.static yX5_isKind ∈ gTs := gT 724 rfl rfl
set_option maxRecDepth 100000 in
theorem mw265 : Cond.fieldLink "TreeAgent$Reply" 22 "TreeAgent$Reply" "pairs" "[LTreeAgent$Pair;" ∈ gTs := gT 216 rfl rfl
set_option maxRecDepth 100000 in
theorem mw266 : Cond.methodLink "TreeAgent$Reply" 31 yX4_init ∈ gTs := gT 213 rfl rfl
set_option maxRecDepth 100000 in
theorem mw267 : Cond.classLink "TreeAgent$Reply" 20 "TreeAgent$Pair" ∈ gTs := gT 210 rfl rfl
set_option maxRecDepth 100000 in
theorem mw268 : Cond.methodLink "TreeAgent$Reply" 3 objectInit ∈ gTs := gT 207 rfl rfl
set_option maxRecDepth 100000 in
theorem mw269 : Cond.methodLink "TreeAgent$Reply" 11 yX0_init ∈ gTs := gT 209 rfl rfl
set_option maxRecDepth 100000 in
theorem mw270 : Cond.fieldLink "TreeAgent$Reply" 14 "TreeAgent$Reply" "octets" "LTreeAgent$Chain;" ∈ gTs := gT 214 rfl rfl
set_option maxRecDepth 100000 in
theorem mw271 : Cond.methodLink "TreeAgent$Reply" 28 yX10_init ∈ gTs := gT 212 rfl rfl
set_option maxRecDepth 100000 in
theorem mw272 : Cond.classLink "TreeAgent$Reply" 26 "TreeAgent$Value" ∈ gTs := gT 211 rfl rfl
set_option maxRecDepth 100000 in
theorem mw273 : Cond.classLink "TreeAgent$Reply" 9 "TreeAgent$Chain" ∈ gTs := gT 208 rfl rfl
set_option maxRecDepth 100000 in
theorem mw274 : Cond.fieldLink "TreeAgent$Reply" 34 "TreeAgent$Reply" "error" "I" ∈ gTs := gT 219 rfl rfl
set_option maxRecDepth 100000 in
theorem mw275 : Cond.fieldLink "TreeAgent$Reply" 38 "TreeAgent$Reply" "count" "I" ∈ gTs := gT 217 rfl rfl
set_option maxRecDepth 100000 in
theorem mw276 : Cond.fieldLink "TreeAgent$Reply" 47 "TreeAgent$Reply" "pairsSize" "I" ∈ gTs := gT 218 rfl rfl
set_option maxRecDepth 100000 in
theorem mw277 : Cond.fieldLink "TreeAgent$Reply" 50 "TreeAgent$Reply" "errorIndex" "I" ∈ gTs := gT 220 rfl rfl
set_option maxRecDepth 100000 in
theorem mw278 : Cond.methodLink "TreeAgent$Reply" 41 yX0_clear ∈ gTs := gT 672 rfl rfl
set_option maxRecDepth 100000 in
theorem mw279 : Cond.methodLink "TreeAgent$Reply" 44 yX6_fail ∈ gTs := gT 673 rfl rfl
set_option maxRecDepth 100000 in
theorem mw280 : Cond.instanceMethod yX6_fail ∈ gTs := gT 674 rfl rfl
set_option maxRecDepth 100000 in
theorem mw281 : Cond.selects "TreeAgent$Reply" yX6_fail yX6_fail ∈ gTs := gT 675 rfl rfl
set_option maxRecDepth 100000 in
theorem mw282 : Cond.methodLink "TreeAgent$Reply" 96 yX0_size ∈ gTs := gT 799 rfl rfl
set_option maxRecDepth 100000 in
theorem mw283 : Cond.methodLink "TreeAgent$Reply" 130 yX0_at ∈ gTs := gT 800 rfl rfl
set_option maxRecDepth 100000 in
theorem mw284 : Cond.methodLink "TreeAgent$Reply" 134 yX6_sevens ∈ gTs := gT 801 rfl rfl
set_option maxRecDepth 100000 in
theorem mw285 : Cond.static yX6_sevens ∈ gTs := gT 802 rfl rfl
set_option maxRecDepth 100000 in
theorem mw286 : Cond.constantLong "TreeAgent$Reply" 128 (-1) ∈ gTs := gT 813 rfl rfl
set_option maxRecDepth 100000 in
theorem mw287 : Cond.fieldLinkNest "TreeAgent$Reply" 118 "TreeAgent$Value" "tag" "I" "TreeAgent" ∈ gNs := gT2 94 rfl rfl
set_option maxRecDepth 100000 in
theorem mw288 : Cond.fieldLinkNest "TreeAgent$Reply" 124 "TreeAgent$Value" "number" "J" "TreeAgent" ∈ gNs := gT2 101 rfl rfl
set_option maxRecDepth 100000 in
theorem mw289 : Cond.methodLink "TreeAgent$Reply" 106 yX6_numberContent ∈ gTs := gT 810 rfl rfl
set_option maxRecDepth 100000 in
theorem mw290 : Cond.static yX6_numberContent ∈ gTs := gT 811 rfl rfl
set_option maxRecDepth 100000 in
theorem mw291 : Cond.fieldLinkNest "TreeAgent$Reply" 121 "TreeAgent$Value" "parts" "LTreeAgent$Chain;" "TreeAgent" ∈ gNs := gT2 90 rfl rfl
set_option maxRecDepth 100000 in
theorem mw292 : Cond.methodLink "TreeAgent$Reply" 110 yX6_nameContent ∈ gTs := gT 796 rfl rfl
set_option maxRecDepth 100000 in
theorem mw293 : Cond.static yX6_nameContent ∈ gTs := gT 797 rfl rfl
set_option maxRecDepth 100000 in
theorem mw294 : Cond.methodLink "TreeAgent$Reply" 68 yX6_fieldSize ∈ gTs := gT 804 rfl rfl
set_option maxRecDepth 100000 in
theorem mw295 : Cond.methodLink "TreeAgent$Reply" 114 yX6_valueContent ∈ gTs := gT 807 rfl rfl
set_option maxRecDepth 100000 in
theorem mw296 : Cond.static yX6_fieldSize ∈ gTs := gT 805 rfl rfl
set_option maxRecDepth 100000 in
theorem mw297 : Cond.static yX6_valueContent ∈ gTs := gT 808 rfl rfl
set_option maxRecDepth 100000 in
theorem mw298 : Cond.fieldLinkNest "TreeAgent$Reply" 53 "TreeAgent$Pair" "name" "LTreeAgent$Chain;" "TreeAgent" ∈ gNs := gT2 119 rfl rfl
set_option maxRecDepth 100000 in
theorem mw299 : Cond.methodLink "TreeAgent$Reply" 56 yX0_copy ∈ gTs := gT 792 rfl rfl
set_option maxRecDepth 100000 in
theorem mw300 : Cond.fieldLinkNest "TreeAgent$Reply" 60 "TreeAgent$Pair" "value" "LTreeAgent$Value;" "TreeAgent" ∈ gNs := gT2 124 rfl rfl
set_option maxRecDepth 100000 in
theorem mw301 : Cond.methodLink "TreeAgent$Reply" 64 yX6_pairContent ∈ gTs := gT 793 rfl rfl
set_option maxRecDepth 100000 in
theorem mw302 : Cond.static yX6_pairContent ∈ gTs := gT 794 rfl rfl
set_option maxRecDepth 100000 in
theorem mw303 : Cond.fieldLinkNest "TreeAgent$Reply" 72 "TreeAgent$Message" "count" "I" "TreeAgent" ∈ gNs := gT2 150 rfl rfl
set_option maxRecDepth 100000 in
theorem mw304 : Cond.methodLink "TreeAgent$Reply" 75 yX3_pairAt ∈ gTs := gT 934 rfl rfl
set_option maxRecDepth 100000 in
theorem mw305 : Cond.methodLink "TreeAgent$Reply" 79 yX6_tell ∈ gTs := gT 935 rfl rfl
set_option maxRecDepth 100000 in
theorem mw306 : Cond.instanceMethod yX6_tell ∈ gTs := gT 789 rfl rfl
set_option maxRecDepth 100000 in
theorem mw307 : Cond.selects "TreeAgent$Reply" yX6_tell yX6_tell ∈ gTs := gT 790 rfl rfl
set_option maxRecDepth 100000 in
theorem mw308 : Cond.fieldLinkNest "TreeAgent$Reply" 103 "TreeAgent$Message" "id" "I" "TreeAgent" ∈ gNs := gT2 143 rfl rfl
set_option maxRecDepth 100000 in
theorem mw309 : Cond.methodLink "TreeAgent$Reply" 90 yX6_integerSize ∈ gTs := gT 867 rfl rfl
set_option maxRecDepth 100000 in
theorem mw310 : Cond.static yX6_integerSize ∈ gTs := gT 868 rfl rfl
set_option maxRecDepth 100000 in
theorem mw311 : Cond.fieldLinkNest "TreeAgent$Reply" 87 "TreeAgent$Message" "version" "I" "TreeAgent" ∈ gNs := gT2 138 rfl rfl
set_option maxRecDepth 100000 in
theorem mw312 : Cond.fieldLinkNest "TreeAgent$Reply" 93 "TreeAgent$Message" "communityName" "LTreeAgent$Chain;" "TreeAgent" ∈ gNs := gT2 132 rfl rfl
set_option maxRecDepth 100000 in
theorem mw313 : Cond.methodLink "TreeAgent$Reply" 100 yX6_innerContent ∈ gTs := gT 870 rfl rfl
set_option maxRecDepth 100000 in
theorem mw314 : Cond.instanceMethod yX6_innerContent ∈ gTs := gT 872 rfl rfl
set_option maxRecDepth 100000 in
theorem mw315 : Cond.selects "TreeAgent$Reply" yX6_innerContent yX6_innerContent ∈ gTs := gT3 (y := yX6_innerContent) (n := 6) 33 rfl rfl
set_option maxRecDepth 100000 in
theorem mw316 : Cond.methodLink "TreeAgent$Reply" 83 yX6_outerContent ∈ gTs := gT 863 rfl rfl
set_option maxRecDepth 100000 in
theorem mw317 : Cond.instanceMethod yX6_outerContent ∈ gTs := gT 865 rfl rfl
set_option maxRecDepth 100000 in
theorem mw318 : Cond.selects "TreeAgent$Reply" yX6_outerContent yX6_outerContent ∈ gTs := gT3 (y := yX6_outerContent) (n := 6) 32 rfl rfl
set_option maxRecDepth 100000 in
theorem mw319 : Cond.constantLong "TreeAgent$Reply" 166 (255) ∈ gTs := gT 979 rfl rfl
set_option maxRecDepth 100000 in
theorem mw320 : Cond.methodLink "TreeAgent$Reply" 158 yX0_add ∈ gTs := gT 976 rfl rfl
set_option maxRecDepth 100000 in
theorem mw321 : Cond.constantLong "TreeAgent$Reply" 164 (130) ∈ gTs := gT 978 rfl rfl
set_option maxRecDepth 100000 in
theorem mw322 : Cond.constantLong "TreeAgent$Reply" 162 (129) ∈ gTs := gT 977 rfl rfl
set_option maxRecDepth 100000 in
theorem mw323 : Cond.methodLink "TreeAgent$Reply" 137 yX6_putHead ∈ gTs := gT 972 rfl rfl
set_option maxRecDepth 100000 in
theorem mw324 : Cond.methodLink "TreeAgent$Reply" 154 yX6_putNumber ∈ gTs := gT 984 rfl rfl
set_option maxRecDepth 100000 in
theorem mw325 : Cond.instanceMethod yX6_putNumber ∈ gTs := gT 986 rfl rfl
set_option maxRecDepth 100000 in
theorem mw326 : Cond.selects "TreeAgent$Reply" yX6_putNumber yX6_putNumber ∈ gTs := gT3 (y := yX6_putNumber) (n := 6) 44 rfl rfl
set_option maxRecDepth 100000 in
theorem mw327 : Cond.instanceMethod yX6_putHead ∈ gTs := gT 974 rfl rfl
set_option maxRecDepth 100000 in
theorem mw328 : Cond.selects "TreeAgent$Reply" yX6_putHead yX6_putHead ∈ gTs := gT3 (y := yX6_putHead) (n := 6) 42 rfl rfl
set_option maxRecDepth 100000 in
theorem mw329 : Cond.constantLong "TreeAgent$Reply" 170 (127) ∈ gTs := gT 1002 rfl rfl
set_option maxRecDepth 100000 in
theorem mw330 : Cond.constantLong "TreeAgent$Reply" 172 (128) ∈ gTs := gT 1003 rfl rfl
set_option maxRecDepth 100000 in
theorem mw331 : Cond.constantLong "TreeAgent$Reply" 168 (40) ∈ gTs := gT 1001 rfl rfl
set_option maxRecDepth 100000 in
theorem mw332 : Cond.methodLink "TreeAgent$Reply" 151 yX6_putName ∈ gTs := gT 997 rfl rfl
set_option maxRecDepth 100000 in
theorem mw333 : Cond.methodLink "TreeAgent$Reply" 143 yX6_putParts ∈ gTs := gT 988 rfl rfl
set_option maxRecDepth 100000 in
theorem mw334 : Cond.instanceMethod yX6_putParts ∈ gTs := gT 990 rfl rfl
set_option maxRecDepth 100000 in
theorem mw335 : Cond.selects "TreeAgent$Reply" yX6_putParts yX6_putParts ∈ gTs := gT3 (y := yX6_putParts) (n := 6) 45 rfl rfl
set_option maxRecDepth 100000 in
theorem mw336 : Cond.instanceMethod yX6_putName ∈ gTs := gT 999 rfl rfl
set_option maxRecDepth 100000 in
theorem mw337 : Cond.selects "TreeAgent$Reply" yX6_putName yX6_putName ∈ gTs := gT3 (y := yX6_putName) (n := 6) 47 rfl rfl
set_option maxRecDepth 100000 in
theorem mw338 : Cond.methodLink "TreeAgent$Reply" 146 yX6_pairAt ∈ gTs := gT 992 rfl rfl
set_option maxRecDepth 100000 in
theorem mw339 : Cond.methodLink "TreeAgent$Reply" 147 yX6_putPair ∈ gTs := gT 993 rfl rfl
set_option maxRecDepth 100000 in
theorem mw340 : Cond.instanceMethod yX6_putPair ∈ gTs := gT 995 rfl rfl
set_option maxRecDepth 100000 in
theorem mw341 : Cond.selects "TreeAgent$Reply" yX6_putPair yX6_putPair ∈ gTs := gT3 (y := yX6_putPair) (n := 6) 46 rfl rfl
set_option maxRecDepth 100000 in
theorem mw342 : Cond.instanceMethod yX6_pairAt ∈ gTs := gT 856 rfl rfl
set_option maxRecDepth 100000 in
theorem mw343 : Cond.selects "TreeAgent$Reply" yX6_pairAt yX6_pairAt ∈ gTs := gT 857 rfl rfl
set_option maxRecDepth 100000 in
theorem mw344 : Cond.methodLink "TreeAgent$Reply" 140 yX6_putInteger ∈ gTs := gT 980 rfl rfl
set_option maxRecDepth 100000 in
theorem mw345 : Cond.instanceMethod yX6_putInteger ∈ gTs := gT 982 rfl rfl
set_option maxRecDepth 100000 in
theorem mw346 : Cond.selects "TreeAgent$Reply" yX6_putInteger yX6_putInteger ∈ gTs := gT3 (y := yX6_putInteger) (n := 6) 43 rfl rfl
set_option maxRecDepth 100000 in
theorem mw347 : Cond.methodLink "TreeAgent$Table" 3 objectInit ∈ gTs := gT 449 rfl rfl
set_option maxRecDepth 100000 in
theorem mw348 : Cond.methodLink "TreeAgent$Table" 11 yX0_init ∈ gTs := gT 451 rfl rfl
set_option maxRecDepth 100000 in
theorem mw349 : Cond.fieldLink "TreeAgent$Table" 14 "TreeAgent$Table" "name" "LTreeAgent$Chain;" ∈ gTs := gT 454 rfl rfl
set_option maxRecDepth 100000 in
theorem mw350 : Cond.classLink "TreeAgent$Table" 20 "TreeAgent$Thing" ∈ gTs := gT 452 rfl rfl
set_option maxRecDepth 100000 in
theorem mw351 : Cond.arrayClass .int ∈ gTs := gT 288 rfl rfl
set_option maxRecDepth 100000 in
theorem mw352 : Cond.methodLink "TreeAgent$Table" 30 yX0_copy ∈ gTs := gT 453 rfl rfl
set_option maxRecDepth 100000 in
theorem mw353 : Cond.classLink "TreeAgent$Table" 9 "TreeAgent$Chain" ∈ gTs := gT 450 rfl rfl
set_option maxRecDepth 100000 in
theorem mw354 : Cond.fieldLink "TreeAgent$Table" 34 "TreeAgent$Table" "columnCount" "I" ∈ gTs := gT 463 rfl rfl
set_option maxRecDepth 100000 in
theorem mw355 : Cond.fieldLinkNest "TreeAgent$Table" 41 "TreeAgent$Thing" "name" "LTreeAgent$Chain;" "TreeAgent" ∈ gNs := gT2 388 rfl rfl
set_option maxRecDepth 100000 in
theorem mw356 : Cond.methodLink "TreeAgent$Table" 42 yX0_size ∈ gTs := gT 495 rfl rfl
set_option maxRecDepth 100000 in
theorem mw357 : Cond.methodLink "TreeAgent$Table" 46 yX0_at ∈ gTs := gT 496 rfl rfl
set_option maxRecDepth 100000 in
theorem mw358 : Cond.constantLong "TreeAgent$Table" 74 (-1) ∈ gTs := gT 848 rfl rfl
set_option maxRecDepth 100000 in
theorem mw359 : Cond.methodLink "TreeAgent$Thing" 48 yX10_init ∈ gTs := gT 375 rfl rfl
set_option maxRecDepth 100000 in
theorem mw360 : Cond.methodLink "TreeAgent$Thing" 51 yX10_becomeFirst ∈ gTs := gT 376 rfl rfl
set_option maxRecDepth 100000 in
theorem mw361 : Cond.classLink "TreeAgent$Thing" 42 "TreeAgent$Value" ∈ gTs := gT 373 rfl rfl
set_option maxRecDepth 100000 in
theorem mw362 : Cond.methodLink "TreeAgent$Thing" 3 objectInit ∈ gTs := gT 365 rfl rfl
set_option maxRecDepth 100000 in
theorem mw363 : Cond.methodLink "TreeAgent$Thing" 11 yX0_init ∈ gTs := gT 367 rfl rfl
set_option maxRecDepth 100000 in
theorem mw364 : Cond.methodLink "TreeAgent$Thing" 20 yX0_copy ∈ gTs := gT 368 rfl rfl
set_option maxRecDepth 100000 in
theorem mw365 : Cond.fieldLink "TreeAgent$Thing" 28 "TreeAgent$Thing" "access" "I" ∈ gTs := gT 394 rfl rfl
set_option maxRecDepth 100000 in
theorem mw366 : Cond.classLink "TreeAgent$Thing" 9 "TreeAgent$Chain" ∈ gTs := gT 366 rfl rfl
set_option maxRecDepth 100000 in
theorem mw367 : Cond.methodLink "TreeAgent$Thing" 70 yX7_indexAbove ∈ gTs := gT 844 rfl rfl
set_option maxRecDepth 100000 in
theorem mw368 : Cond.instanceMethod yX7_indexAbove ∈ gTs := gT 845 rfl rfl
set_option maxRecDepth 100000 in
theorem mw369 : Cond.selects "TreeAgent$Table" yX7_indexAbove yX7_indexAbove ∈ gTs := gT 846 rfl rfl
set_option maxRecDepth 100000 in
theorem mw370 : Cond.constantLong "TreeAgent$Thing" 68 (-1) ∈ gTs := gT 838 rfl rfl
set_option maxRecDepth 100000 in
theorem mw371 : Cond.methodLink "TreeAgent$Thing" 74 yX0_beginsWith ∈ gTs := gT 834 rfl rfl
set_option maxRecDepth 100000 in
theorem mw372 : Cond.methodLink "TreeAgent$Thing" 86 yX0_isLess ∈ gTs := gT 837 rfl rfl
set_option maxRecDepth 100000 in
theorem mw373 : Cond.constantLong "TreeAgent$Thing" 89 (4294967295) ∈ gTs := gT 839 rfl rfl
set_option maxRecDepth 100000 in
theorem mw374 : Cond.instanceMethod yX0_isLess ∈ gTs := gT 426 rfl rfl
set_option maxRecDepth 100000 in
theorem mw375 : Cond.selects "TreeAgent$Chain" yX0_isLess yX0_isLess ∈ gTs := gT 427 rfl rfl
set_option maxRecDepth 100000 in
theorem mw376 : Cond.methodLink "TreeAgent$Tree" 3 objectInit ∈ gTs := gT 45 rfl rfl
set_option maxRecDepth 100000 in
theorem mw377 : Cond.classLink "TreeAgent$Tree" 9 "TreeAgent$Thing" ∈ gTs := gT 46 rfl rfl
set_option maxRecDepth 100000 in
theorem mw378 : Cond.fieldLink "TreeAgent$Tree" 17 "TreeAgent$Tree" "inOrder" "[LTreeAgent$Thing;" ∈ gTs := gT 51 rfl rfl
set_option maxRecDepth 100000 in
theorem mw379 : Cond.classLink "TreeAgent$Tree" 20 "TreeAgent$Table" ∈ gTs := gT 48 rfl rfl
set_option maxRecDepth 100000 in
theorem mw380 : Cond.fieldLink "TreeAgent$Tree" 22 "TreeAgent$Tree" "tables" "[LTreeAgent$Table;" ∈ gTs := gT 52 rfl rfl
set_option maxRecDepth 100000 in
theorem mw381 : Cond.fieldLink "TreeAgent$Tree" 30 "TreeAgent$Tree" "tableCount" "I" ∈ gTs := gT 54 rfl rfl
set_option maxRecDepth 100000 in
theorem mw382 : Cond.methodLink "TreeAgent$Tree" 47 yX9_tableAt ∈ gTs := gT 352 rfl rfl
set_option maxRecDepth 100000 in
theorem mw383 : Cond.fieldLinkNest "TreeAgent$Tree" 51 "TreeAgent$Table" "name" "LTreeAgent$Chain;" "TreeAgent" ∈ gNs := gT2 455 rfl rfl
set_option maxRecDepth 100000 in
theorem mw384 : Cond.instanceMethod yX9_tableAt ∈ gTs := gT 353 rfl rfl
set_option maxRecDepth 100000 in
theorem mw385 : Cond.selects "TreeAgent$Tree" yX9_tableAt yX9_tableAt ∈ gTs := gT 354 rfl rfl
set_option maxRecDepth 100000 in
theorem mw386 : Cond.methodLink "TreeAgent$Tree" 56 yX0_isLess ∈ gTs := gT 425 rfl rfl
set_option maxRecDepth 100000 in
theorem mw387 : Cond.methodLink "TreeAgent$Tree" 52 yX9_putInOrder ∈ gTs := gT 421 rfl rfl
set_option maxRecDepth 100000 in
theorem mw388 : Cond.instanceMethod yX9_putInOrder ∈ gTs := gT 423 rfl rfl
set_option maxRecDepth 100000 in
theorem mw389 : Cond.selects "TreeAgent$Tree" yX9_putInOrder yX9_putInOrder ∈ gTs := gT3 (y := yX9_putInOrder) (n := 5) 2 rfl rfl
set_option maxRecDepth 100000 in
theorem mw390 : Cond.methodLink "TreeAgent" 1 objectInit ∈ gTs := gT 20 rfl rfl
set_option maxRecDepth 100000 in
theorem mw391 : Cond.methodLink "TreeAgent" 11 yX0_init ∈ gTs := gT 25 rfl rfl
set_option maxRecDepth 100000 in
theorem mw392 : Cond.fieldLink "TreeAgent" 14 "TreeAgent" "tape" "LTreeAgent$Chain;" ∈ gTs := gT 236 rfl rfl
set_option maxRecDepth 100000 in
theorem mw393 : Cond.fieldLink "TreeAgent" 18 "TreeAgent" "nameAtHand" "LTreeAgent$Chain;" ∈ gTs := gT 237 rfl rfl
set_option maxRecDepth 100000 in
theorem mw394 : Cond.methodLinkNest "TreeAgent" 23 yX9_init "TreeAgent" ∈ gNs := gT2 42 rfl rfl
set_option maxRecDepth 100000 in
theorem mw395 : Cond.fieldLink "TreeAgent" 24 "TreeAgent" "tree" "LTreeAgent$Tree;" ∈ gTs := gT 238 rfl rfl
set_option maxRecDepth 100000 in
theorem mw396 : Cond.classLink "TreeAgent" 28 "TreeAgent$Community" ∈ gTs := gT 66 rfl rfl
set_option maxRecDepth 100000 in
theorem mw397 : Cond.fieldLink "TreeAgent" 30 "TreeAgent" "communities" "[LTreeAgent$Community;" ∈ gTs := gT 239 rfl rfl
set_option maxRecDepth 100000 in
theorem mw398 : Cond.methodLink "TreeAgent" 36 yX3_init ∈ gTs := gT 70 rfl rfl
set_option maxRecDepth 100000 in
theorem mw399 : Cond.fieldLink "TreeAgent" 37 "TreeAgent" "message" "LTreeAgent$Message;" ∈ gTs := gT 240 rfl rfl
set_option maxRecDepth 100000 in
theorem mw400 : Cond.methodLink "TreeAgent" 43 yX5_init ∈ gTs := gT 173 rfl rfl
set_option maxRecDepth 100000 in
theorem mw401 : Cond.fieldLink "TreeAgent" 46 "TreeAgent" "reader" "LTreeAgent$Reader;" ∈ gTs := gT 241 rfl rfl
set_option maxRecDepth 100000 in
theorem mw402 : Cond.methodLink "TreeAgent" 52 yX1_init ∈ gTs := gT 191 rfl rfl
set_option maxRecDepth 100000 in
theorem mw403 : Cond.fieldLink "TreeAgent" 55 "TreeAgent" "change" "LTreeAgent$Change;" ∈ gTs := gT 242 rfl rfl
set_option maxRecDepth 100000 in
theorem mw404 : Cond.methodLink "TreeAgent" 61 yX6_init ∈ gTs := gT 204 rfl rfl
set_option maxRecDepth 100000 in
theorem mw405 : Cond.fieldLink "TreeAgent" 62 "TreeAgent" "reply" "LTreeAgent$Reply;" ∈ gTs := gT 243 rfl rfl
set_option maxRecDepth 100000 in
theorem mw406 : Cond.fieldLink "TreeAgent" 66 "TreeAgent" "counts" "[I" ∈ gTs := gT 244 rfl rfl
set_option maxRecDepth 100000 in
theorem mw407 : Cond.fieldLink "TreeAgent" 70 "TreeAgent" "found" "LTreeAgent$Chain;" ∈ gTs := gT 245 rfl rfl
set_option maxRecDepth 100000 in
theorem mw408 : Cond.methodLink "TreeAgent" 75 yX10_init ∈ gTs := gT 235 rfl rfl
set_option maxRecDepth 100000 in
theorem mw409 : Cond.fieldLink "TreeAgent" 78 "TreeAgent" "clockTicks" "LTreeAgent$Value;" ∈ gTs := gT 246 rfl rfl
set_option maxRecDepth 100000 in
theorem mw410 : Cond.fieldLink "TreeAgent" 82 "TreeAgent" "noObject" "LTreeAgent$Value;" ∈ gTs := gT 247 rfl rfl
set_option maxRecDepth 100000 in
theorem mw411 : Cond.fieldLink "TreeAgent" 85 "TreeAgent" "noInstance" "LTreeAgent$Value;" ∈ gTs := gT 248 rfl rfl
set_option maxRecDepth 100000 in
theorem mw412 : Cond.fieldLink "TreeAgent" 88 "TreeAgent" "end" "LTreeAgent$Value;" ∈ gTs := gT 249 rfl rfl
set_option maxRecDepth 100000 in
theorem mw413 : Cond.fieldLink "TreeAgent" 91 "TreeAgent" "longest" "I" ∈ gTs := gT 251 rfl rfl
set_option maxRecDepth 100000 in
theorem mw414 : Cond.classLink "TreeAgent" 73 "TreeAgent$Value" ∈ gTs := gT 234 rfl rfl
set_option maxRecDepth 100000 in
theorem mw415 : Cond.classLink "TreeAgent" 7 "TreeAgent$Chain" ∈ gTs := gT 23 rfl rfl
set_option maxRecDepth 100000 in
theorem mw416 : Cond.instanceMethod yX6_init ∈ gTs := gT 205 rfl rfl
set_option maxRecDepth 100000 in
theorem mw417 : Cond.classLink "TreeAgent" 59 "TreeAgent$Reply" ∈ gTs := gT 202 rfl rfl
set_option maxRecDepth 100000 in
theorem mw418 : Cond.instantiable "TreeAgent$Reply" 6 ∈ gTs := gT 203 rfl rfl
set_option maxRecDepth 100000 in
theorem mw419 : Cond.initialized "TreeAgent$Reply" ∈ gTs := gT 10 rfl rfl
set_option maxRecDepth 100000 in
theorem mw420 : Cond.instanceMethod yX1_init ∈ gTs := gT 192 rfl rfl
set_option maxRecDepth 100000 in
theorem mw421 : Cond.classLink "TreeAgent" 50 "TreeAgent$Change" ∈ gTs := gT 189 rfl rfl
set_option maxRecDepth 100000 in
theorem mw422 : Cond.instantiable "TreeAgent$Change" 2 ∈ gTs := gT 190 rfl rfl
set_option maxRecDepth 100000 in
theorem mw423 : Cond.initialized "TreeAgent$Change" ∈ gTs := gT 9 rfl rfl
set_option maxRecDepth 100000 in
theorem mw424 : Cond.instanceMethod yX5_init ∈ gTs := gT 174 rfl rfl
set_option maxRecDepth 100000 in
theorem mw425 : Cond.classLink "TreeAgent" 41 "TreeAgent$Reader" ∈ gTs := gT 171 rfl rfl
set_option maxRecDepth 100000 in
theorem mw426 : Cond.instantiable "TreeAgent$Reader" 3 ∈ gTs := gT 172 rfl rfl
set_option maxRecDepth 100000 in
theorem mw427 : Cond.initialized "TreeAgent$Reader" ∈ gTs := gT 8 rfl rfl
set_option maxRecDepth 100000 in
theorem mw428 : Cond.instanceMethod yX3_init ∈ gTs := gT 71 rfl rfl
set_option maxRecDepth 100000 in
theorem mw429 : Cond.classLink "TreeAgent" 34 "TreeAgent$Message" ∈ gTs := gT 68 rfl rfl
set_option maxRecDepth 100000 in
theorem mw430 : Cond.instantiable "TreeAgent$Message" 9 ∈ gTs := gT 69 rfl rfl
set_option maxRecDepth 100000 in
theorem mw431 : Cond.initialized "TreeAgent$Message" ∈ gTs := gT 5 rfl rfl
set_option maxRecDepth 100000 in
theorem mw432 : Cond.instanceMethod yX9_init ∈ gTs := gT 43 rfl rfl
set_option maxRecDepth 100000 in
theorem mw433 : Cond.classLink "TreeAgent" 21 "TreeAgent$Tree" ∈ gTs := gT 40 rfl rfl
set_option maxRecDepth 100000 in
theorem mw434 : Cond.instantiable "TreeAgent$Tree" 5 ∈ gTs := gT 41 rfl rfl
set_option maxRecDepth 100000 in
theorem mw435 : Cond.initialized "TreeAgent$Tree" ∈ gTs := gT 4 rfl rfl
set_option maxRecDepth 100000 in
theorem mw436 : Cond.methodLink "TreeAgent" 98 yX0_size ∈ gTs := gT 297 rfl rfl
set_option maxRecDepth 100000 in
theorem mw437 : Cond.constantLong "TreeAgent" 102 (255) ∈ gTs := gT 301 rfl rfl
set_option maxRecDepth 100000 in
theorem mw438 : Cond.methodLink "TreeAgent" 104 yX0_add ∈ gTs := gT 302 rfl rfl
set_option maxRecDepth 100000 in
theorem mw439 : Cond.methodLink "TreeAgent" 95 yX0_clear ∈ gTs := gT 293 rfl rfl
set_option maxRecDepth 100000 in
theorem mw440 : Cond.constantLong "TreeAgent" 116 (39) ∈ gTs := gT 315 rfl rfl
set_option maxRecDepth 100000 in
theorem mw441 : Cond.constantLong "TreeAgent" 114 (2) ∈ gTs := gT 314 rfl rfl
set_option maxRecDepth 100000 in
theorem mw442 : Cond.constantLong "TreeAgent" 108 (-1) ∈ gTs := gT 310 rfl rfl
set_option maxRecDepth 100000 in
theorem mw443 : Cond.methodLink "TreeAgent" 110 yX11_mostNumberAt ∈ gTs := gT 311 rfl rfl
set_option maxRecDepth 100000 in
theorem mw444 : Cond.static yX11_mostNumberAt ∈ gTs := gT 312 rfl rfl
set_option maxRecDepth 100000 in
theorem mw445 : Cond.methodLink "TreeAgent" 124 yX11_isObjectTag ∈ gTs := gT 325 rfl rfl
set_option maxRecDepth 100000 in
theorem mw446 : Cond.methodLink "TreeAgent" 128 yX11_isAccess ∈ gTs := gT 328 rfl rfl
set_option maxRecDepth 100000 in
theorem mw447 : Cond.methodLink "TreeAgent" 131 yX11_isNameAtHand ∈ gTs := gT 331 rfl rfl
set_option maxRecDepth 100000 in
theorem mw448 : Cond.methodLink "TreeAgent" 134 yX9_isTaken ∈ gTs := gT 335 rfl rfl
set_option maxRecDepth 100000 in
theorem mw449 : Cond.methodLink "TreeAgent" 138 yX9_thingCount ∈ gTs := gT 356 rfl rfl
set_option maxRecDepth 100000 in
theorem mw450 : Cond.methodLink "TreeAgent" 143 yX8_init ∈ gTs := gT 362 rfl rfl
set_option maxRecDepth 100000 in
theorem mw451 : Cond.methodLink "TreeAgent" 146 yX9_addThing ∈ gTs := gT 417 rfl rfl
set_option maxRecDepth 100000 in
theorem mw452 : Cond.instanceMethod yX9_addThing ∈ gTs := gT 418 rfl rfl
set_option maxRecDepth 100000 in
theorem mw453 : Cond.selects "TreeAgent$Tree" yX9_addThing yX9_addThing ∈ gTs := gT 419 rfl rfl
set_option maxRecDepth 100000 in
theorem mw454 : Cond.instanceMethod yX8_init ∈ gTs := gT 363 rfl rfl
set_option maxRecDepth 100000 in
theorem mw455 : Cond.classLink "TreeAgent" 141 "TreeAgent$Thing" ∈ gTs := gT 360 rfl rfl
set_option maxRecDepth 100000 in
theorem mw456 : Cond.instantiable "TreeAgent$Thing" 7 ∈ gTs := gT 361 rfl rfl
set_option maxRecDepth 100000 in
theorem mw457 : Cond.initialized "TreeAgent$Thing" ∈ gTs := gT 12 rfl rfl
set_option maxRecDepth 100000 in
theorem mw458 : Cond.instanceMethod yX9_thingCount ∈ gTs := gT 357 rfl rfl
set_option maxRecDepth 100000 in
theorem mw459 : Cond.selects "TreeAgent$Tree" yX9_thingCount yX9_thingCount ∈ gTs := gT 358 rfl rfl
set_option maxRecDepth 100000 in
theorem mw460 : Cond.instanceMethod yX9_isTaken ∈ gTs := gT 336 rfl rfl
set_option maxRecDepth 100000 in
theorem mw461 : Cond.selects "TreeAgent$Tree" yX9_isTaken yX9_isTaken ∈ gTs := gT 337 rfl rfl
set_option maxRecDepth 100000 in
theorem mw462 : Cond.instanceMethod yX11_isNameAtHand ∈ gTs := gT 333 rfl rfl
set_option maxRecDepth 100000 in
theorem mw463 : Cond.selects "TreeAgent" yX11_isNameAtHand yX11_isNameAtHand ∈ gTs := gT3 (y := yX11_isNameAtHand) (n := 17) 1 rfl rfl
set_option maxRecDepth 100000 in
theorem mw464 : Cond.static yX11_isAccess ∈ gTs := gT 329 rfl rfl
set_option maxRecDepth 100000 in
theorem mw465 : Cond.methodLink "TreeAgent" 120 yX11_newScalar ∈ gTs := gT 321 rfl rfl
set_option maxRecDepth 100000 in
theorem mw466 : Cond.instanceMethod yX11_newScalar ∈ gTs := gT 323 rfl rfl
set_option maxRecDepth 100000 in
theorem mw467 : Cond.selects "TreeAgent" yX11_newScalar yX11_newScalar ∈ gTs := gT3 (y := yX11_newScalar) (n := 17) 0 rfl rfl
set_option maxRecDepth 100000 in
theorem mw468 : Cond.methodLink "TreeAgent" 153 yX9_tableCount ∈ gTs := gT 440 rfl rfl
set_option maxRecDepth 100000 in
theorem mw469 : Cond.methodLink "TreeAgent" 158 yX7_init ∈ gTs := gT 446 rfl rfl
set_option maxRecDepth 100000 in
theorem mw470 : Cond.methodLink "TreeAgent" 159 yX9_addTable ∈ gTs := gT 478 rfl rfl
set_option maxRecDepth 100000 in
theorem mw471 : Cond.instanceMethod yX9_addTable ∈ gTs := gT 479 rfl rfl
set_option maxRecDepth 100000 in
theorem mw472 : Cond.selects "TreeAgent$Tree" yX9_addTable yX9_addTable ∈ gTs := gT 480 rfl rfl
set_option maxRecDepth 100000 in
theorem mw473 : Cond.instanceMethod yX7_init ∈ gTs := gT 447 rfl rfl
set_option maxRecDepth 100000 in
theorem mw474 : Cond.classLink "TreeAgent" 156 "TreeAgent$Table" ∈ gTs := gT 444 rfl rfl
set_option maxRecDepth 100000 in
theorem mw475 : Cond.instantiable "TreeAgent$Table" 6 ∈ gTs := gT 445 rfl rfl
set_option maxRecDepth 100000 in
theorem mw476 : Cond.initialized "TreeAgent$Table" ∈ gTs := gT 13 rfl rfl
set_option maxRecDepth 100000 in
theorem mw477 : Cond.instanceMethod yX9_tableCount ∈ gTs := gT 441 rfl rfl
set_option maxRecDepth 100000 in
theorem mw478 : Cond.selects "TreeAgent$Tree" yX9_tableCount yX9_tableCount ∈ gTs := gT 442 rfl rfl
set_option maxRecDepth 100000 in
theorem mw479 : Cond.methodLink "TreeAgent" 150 yX11_newTable ∈ gTs := gT 436 rfl rfl
set_option maxRecDepth 100000 in
theorem mw480 : Cond.instanceMethod yX11_newTable ∈ gTs := gT 438 rfl rfl
set_option maxRecDepth 100000 in
theorem mw481 : Cond.selects "TreeAgent" yX11_newTable yX11_newTable ∈ gTs := gT3 (y := yX11_newTable) (n := 17) 3 rfl rfl
set_option maxRecDepth 100000 in
theorem mw482 : Cond.methodLink "TreeAgent" 189 yX7_hasColumn ∈ gTs := gT 491 rfl rfl
set_option maxRecDepth 100000 in
theorem mw483 : Cond.methodLink "TreeAgent" 192 yX7_rowCount ∈ gTs := gT 497 rfl rfl
set_option maxRecDepth 100000 in
theorem mw484 : Cond.methodLink "TreeAgent" 195 yX7_columnCount ∈ gTs := gT 501 rfl rfl
set_option maxRecDepth 100000 in
theorem mw485 : Cond.instanceMethod yX7_columnCount ∈ gTs := gT 502 rfl rfl
set_option maxRecDepth 100000 in
theorem mw486 : Cond.selects "TreeAgent$Table" yX7_columnCount yX7_columnCount ∈ gTs := gT 503 rfl rfl
set_option maxRecDepth 100000 in
theorem mw487 : Cond.instanceMethod yX7_hasColumn ∈ gTs := gT 492 rfl rfl
set_option maxRecDepth 100000 in
theorem mw488 : Cond.selects "TreeAgent$Table" yX7_hasColumn yX7_hasColumn ∈ gTs := gT 493 rfl rfl
set_option maxRecDepth 100000 in
theorem mw489 : Cond.fieldLinkNest "TreeAgent" 198 "TreeAgent$Table" "name" "LTreeAgent$Chain;" "TreeAgent" ∈ gNs := gT2 456 rfl rfl
set_option maxRecDepth 100000 in
theorem mw490 : Cond.methodLink "TreeAgent" 201 yX0_copy ∈ gTs := gT 509 rfl rfl
set_option maxRecDepth 100000 in
theorem mw491 : Cond.methodLink "TreeAgent" 204 yX7_addColumn ∈ gTs := gT 514 rfl rfl
set_option maxRecDepth 100000 in
theorem mw492 : Cond.instanceMethod yX7_addColumn ∈ gTs := gT 515 rfl rfl
set_option maxRecDepth 100000 in
theorem mw493 : Cond.selects "TreeAgent$Table" yX7_addColumn yX7_addColumn ∈ gTs := gT 516 rfl rfl
set_option maxRecDepth 100000 in
theorem mw494 : Cond.methodLink "TreeAgent" 163 yX9_tableAt ∈ gTs := gT 486 rfl rfl
set_option maxRecDepth 100000 in
theorem mw495 : Cond.methodLink "TreeAgent" 167 yX11_columnRefusal ∈ gTs := gT 487 rfl rfl
set_option maxRecDepth 100000 in
theorem mw496 : Cond.methodLink "TreeAgent" 171 yX11_columnName ∈ gTs := gT 505 rfl rfl
set_option maxRecDepth 100000 in
theorem mw497 : Cond.methodLink "TreeAgent" 175 yX11_newColumn ∈ gTs := gT 510 rfl rfl
set_option maxRecDepth 100000 in
theorem mw498 : Cond.instanceMethod yX11_newColumn ∈ gTs := gT 512 rfl rfl
set_option maxRecDepth 100000 in
theorem mw499 : Cond.selects "TreeAgent" yX11_newColumn yX11_newColumn ∈ gTs := gT3 (y := yX11_newColumn) (n := 17) 6 rfl rfl
set_option maxRecDepth 100000 in
theorem mw500 : Cond.instanceMethod yX11_columnName ∈ gTs := gT 507 rfl rfl
set_option maxRecDepth 100000 in
theorem mw501 : Cond.selects "TreeAgent" yX11_columnName yX11_columnName ∈ gTs := gT3 (y := yX11_columnName) (n := 17) 5 rfl rfl
set_option maxRecDepth 100000 in
theorem mw502 : Cond.instanceMethod yX11_columnRefusal ∈ gTs := gT 489 rfl rfl
set_option maxRecDepth 100000 in
theorem mw503 : Cond.selects "TreeAgent" yX11_columnRefusal yX11_columnRefusal ∈ gTs := gT3 (y := yX11_columnRefusal) (n := 17) 4 rfl rfl
set_option maxRecDepth 100000 in
theorem mw504 : Cond.fieldLinkNest "TreeAgent" 179 "TreeAgent$Table" "statusColumn" "LTreeAgent$Thing;" "TreeAgent" ∈ gNs := gT2 462 rfl rfl
set_option maxRecDepth 100000 in
theorem mw505 : Cond.constantLong "TreeAgent" 183 (6) ∈ gTs := gT 522 rfl rfl
set_option maxRecDepth 100000 in
theorem mw506 : Cond.methodLink "TreeAgent" 185 yX9_thingAt ∈ gTs := gT 523 rfl rfl
set_option maxRecDepth 100000 in
theorem mw507 : Cond.methodLink "TreeAgent" 216 yX7_make ∈ gTs := gT 541 rfl rfl
set_option maxRecDepth 100000 in
theorem mw508 : Cond.methodLink "TreeAgent" 212 yX7_takeAway ∈ gTs := gT 536 rfl rfl
set_option maxRecDepth 100000 in
theorem mw509 : Cond.methodLink "TreeAgent" 208 yX7_slotOf ∈ gTs := gT 528 rfl rfl
set_option maxRecDepth 100000 in
theorem mw510 : Cond.methodLink "TreeAgent" 220 yX8_isStatus ∈ gTs := gT 554 rfl rfl
set_option maxRecDepth 100000 in
theorem mw511 : Cond.methodLink "TreeAgent" 224 yX8_cellFor ∈ gTs := gT 558 rfl rfl
set_option maxRecDepth 100000 in
theorem mw512 : Cond.methodLink "TreeAgent" 228 yX10_isOfParts ∈ gTs := gT 564 rfl rfl
set_option maxRecDepth 100000 in
theorem mw513 : Cond.fieldLinkNest "TreeAgent" 231 "TreeAgent$Value" "tag" "I" "TreeAgent" ∈ gNs := gT2 95 rfl rfl
set_option maxRecDepth 100000 in
theorem mw514 : Cond.methodLink "TreeAgent" 234 yX11_isNumberOf ∈ gTs := gT 568 rfl rfl
set_option maxRecDepth 100000 in
theorem mw515 : Cond.fieldLinkNest "TreeAgent" 238 "TreeAgent$Value" "number" "J" "TreeAgent" ∈ gNs := gT2 102 rfl rfl
set_option maxRecDepth 100000 in
theorem mw516 : Cond.instanceMethod yX10_isOfParts ∈ gTs := gT 565 rfl rfl
set_option maxRecDepth 100000 in
theorem mw517 : Cond.selects "TreeAgent$Value" yX10_isOfParts yX10_isOfParts ∈ gTs := gT 566 rfl rfl
set_option maxRecDepth 100000 in
theorem mw518 : Cond.fieldLinkNest "TreeAgent" 260 "TreeAgent$Thing" "tag" "I" "TreeAgent" ∈ gNs := gT2 393 rfl rfl
set_option maxRecDepth 100000 in
theorem mw519 : Cond.methodLink "TreeAgent" 250 yX11_cellOfTag ∈ gTs := gT 581 rfl rfl
set_option maxRecDepth 100000 in
theorem mw520 : Cond.fieldLinkNest "TreeAgent" 254 "TreeAgent$Value" "parts" "LTreeAgent$Chain;" "TreeAgent" ∈ gNs := gT2 91 rfl rfl
set_option maxRecDepth 100000 in
theorem mw521 : Cond.instanceMethod yX11_cellOfTag ∈ gTs := gT 583 rfl rfl
set_option maxRecDepth 100000 in
theorem mw522 : Cond.selects "TreeAgent" yX11_cellOfTag yX11_cellOfTag ∈ gTs := gT3 (y := yX11_cellOfTag) (n := 17) 9 rfl rfl
set_option maxRecDepth 100000 in
theorem mw523 : Cond.methodLink "TreeAgent" 246 yX11_becomeText ∈ gTs := gT 577 rfl rfl
set_option maxRecDepth 100000 in
theorem mw524 : Cond.instanceMethod yX11_becomeText ∈ gTs := gT 579 rfl rfl
set_option maxRecDepth 100000 in
theorem mw525 : Cond.selects "TreeAgent" yX11_becomeText yX11_becomeText ∈ gTs := gT3 (y := yX11_becomeText) (n := 17) 8 rfl rfl
set_option maxRecDepth 100000 in
theorem mw526 : Cond.methodLink "TreeAgent" 257 yX11_becomeName ∈ gTs := gT 589 rfl rfl
set_option maxRecDepth 100000 in
theorem mw527 : Cond.instanceMethod yX11_becomeName ∈ gTs := gT 591 rfl rfl
set_option maxRecDepth 100000 in
theorem mw528 : Cond.selects "TreeAgent" yX11_becomeName yX11_becomeName ∈ gTs := gT3 (y := yX11_becomeName) (n := 17) 10 rfl rfl
set_option maxRecDepth 100000 in
theorem mw529 : Cond.fieldLinkNest "TreeAgent" 275 "TreeAgent$Community" "name" "LTreeAgent$Chain;" "TreeAgent" ∈ gNs := gT2 620 rfl rfl
set_option maxRecDepth 100000 in
theorem mw530 : Cond.methodLink "TreeAgent" 276 yX0_isSame ∈ gTs := gT 605 rfl rfl
set_option maxRecDepth 100000 in
theorem mw531 : Cond.instanceMethod yX0_isSame ∈ gTs := gT 606 rfl rfl
set_option maxRecDepth 100000 in
theorem mw532 : Cond.selects "TreeAgent$Chain" yX0_isSame yX0_isSame ∈ gTs := gT 607 rfl rfl
set_option maxRecDepth 100000 in
theorem mw533 : Cond.methodLink "TreeAgent" 265 yX11_communityNamed ∈ gTs := gT 601 rfl rfl
set_option maxRecDepth 100000 in
theorem mw534 : Cond.fieldLink "TreeAgent" 269 "TreeAgent" "communityCount" "I" ∈ gTs := gT 250 rfl rfl
set_option maxRecDepth 100000 in
theorem mw535 : Cond.methodLink "TreeAgent" 272 yX2_init ∈ gTs := gT 611 rfl rfl
set_option maxRecDepth 100000 in
theorem mw536 : Cond.instanceMethod yX2_init ∈ gTs := gT 612 rfl rfl
set_option maxRecDepth 100000 in
theorem mw537 : Cond.instantiable "TreeAgent$Community" 5 ∈ gTs := gT 610 rfl rfl
set_option maxRecDepth 100000 in
theorem mw538 : Cond.initialized "TreeAgent$Community" ∈ gTs := gT 14 rfl rfl
set_option maxRecDepth 100000 in
theorem mw539 : Cond.instanceMethod yX11_communityNamed ∈ gTs := gT 603 rfl rfl
set_option maxRecDepth 100000 in
theorem mw540 : Cond.selects "TreeAgent" yX11_communityNamed yX11_communityNamed ∈ gTs := gT3 (y := yX11_communityNamed) (n := 17) 12 rfl rfl
set_option maxRecDepth 100000 in
theorem mw541 : Cond.methodLink "TreeAgent" 261 yX11_newCommunity ∈ gTs := gT 597 rfl rfl
set_option maxRecDepth 100000 in
theorem mw542 : Cond.instanceMethod yX11_newCommunity ∈ gTs := gT 599 rfl rfl
set_option maxRecDepth 100000 in
theorem mw543 : Cond.selects "TreeAgent" yX11_newCommunity yX11_newCommunity ∈ gTs := gT3 (y := yX11_newCommunity) (n := 17) 11 rfl rfl
set_option maxRecDepth 100000 in
theorem mw544 : Cond.methodLink "TreeAgent" 283 yX2_addView ∈ gTs := gT 646 rfl rfl
set_option maxRecDepth 100000 in
theorem mw545 : Cond.methodLink "TreeAgent" 287 yX2_viewCount ∈ gTs := gT 650 rfl rfl
set_option maxRecDepth 100000 in
theorem mw546 : Cond.instanceMethod yX2_viewCount ∈ gTs := gT 651 rfl rfl
set_option maxRecDepth 100000 in
theorem mw547 : Cond.selects "TreeAgent$Community" yX2_viewCount yX2_viewCount ∈ gTs := gT 652 rfl rfl
set_option maxRecDepth 100000 in
theorem mw548 : Cond.instanceMethod yX2_addView ∈ gTs := gT 647 rfl rfl
set_option maxRecDepth 100000 in
theorem mw549 : Cond.selects "TreeAgent$Community" yX2_addView yX2_addView ∈ gTs := gT 648 rfl rfl
set_option maxRecDepth 100000 in
theorem mw550 : Cond.methodLink "TreeAgent" 279 yX11_newView ∈ gTs := gT 642 rfl rfl
set_option maxRecDepth 100000 in
theorem mw551 : Cond.instanceMethod yX11_newView ∈ gTs := gT 644 rfl rfl
set_option maxRecDepth 100000 in
theorem mw552 : Cond.selects "TreeAgent" yX11_newView yX11_newView ∈ gTs := gT3 (y := yX11_newView) (n := 17) 13 rfl rfl
set_option maxRecDepth 100000 in
theorem mw553 : Cond.constantLong "TreeAgent" 295 (-2) ∈ gTs := gT 663 rfl rfl
set_option maxRecDepth 100000 in
theorem mw554 : Cond.constantLong "TreeAgent" 290 (4611686018427387904) ∈ gTs := gT 662 rfl rfl
set_option maxRecDepth 100000 in
theorem mw555 : Cond.fieldLink "TreeAgent" 292 "TreeAgent" "clock" "J" ∈ gTs := gT 252 rfl rfl
set_option maxRecDepth 100000 in
theorem mw556 : Cond.methodLink "TreeAgent" 322 yX5_readHead ∈ gTs := gT 681 rfl rfl
set_option maxRecDepth 100000 in
theorem mw557 : Cond.fieldLinkNest "TreeAgent" 326 "TreeAgent$Message" "communityName" "LTreeAgent$Chain;" "TreeAgent" ∈ gNs := gT2 133 rfl rfl
set_option maxRecDepth 100000 in
theorem mw558 : Cond.fieldLinkNest "TreeAgent" 329 "TreeAgent$Message" "community" "LTreeAgent$Community;" "TreeAgent" ∈ gNs := gT2 136 rfl rfl
set_option maxRecDepth 100000 in
theorem mw559 : Cond.methodLink "TreeAgent" 333 yX5_readBody ∈ gTs := gT 719 rfl rfl
set_option maxRecDepth 100000 in
theorem mw560 : Cond.instanceMethod yX5_readBody ∈ gTs := gT 720 rfl rfl
set_option maxRecDepth 100000 in
theorem mw561 : Cond.selects "TreeAgent$Reader" yX5_readBody yX5_readBody ∈ gTs := gT 721 rfl rfl
set_option maxRecDepth 100000 in
theorem mw562 : Cond.instanceMethod yX5_readHead ∈ gTs := gT 682 rfl rfl
set_option maxRecDepth 100000 in
theorem mw563 : Cond.selects "TreeAgent$Reader" yX5_readHead yX5_readHead ∈ gTs := gT 683 rfl rfl
set_option maxRecDepth 100000 in
theorem mw564 : Cond.methodLink "TreeAgent" 378 yX8_tellsClock ∈ gTs := gT 779 rfl rfl
set_option maxRecDepth 100000 in
theorem mw565 : Cond.instanceMethod yX8_tellsClock ∈ gTs := gT 780 rfl rfl
set_option maxRecDepth 100000 in
theorem mw566 : Cond.selects "TreeAgent$Thing" yX8_tellsClock yX8_tellsClock ∈ gTs := gT 781 rfl rfl
set_option maxRecDepth 100000 in
theorem mw567 : Cond.methodLink "TreeAgent" 364 yX9_thingFor ∈ gTs := gT 768 rfl rfl
set_option maxRecDepth 100000 in
theorem mw568 : Cond.fieldLinkNest "TreeAgent" 368 "TreeAgent$Thing" "access" "I" "TreeAgent" ∈ gNs := gT2 396 rfl rfl
set_option maxRecDepth 100000 in
theorem mw569 : Cond.methodLink "TreeAgent" 371 yX2_shows ∈ gTs := gT 772 rfl rfl
set_option maxRecDepth 100000 in
theorem mw570 : Cond.fieldLinkNest "TreeAgent" 374 "TreeAgent$Thing" "name" "LTreeAgent$Chain;" "TreeAgent" ∈ gNs := gT2 390 rfl rfl
set_option maxRecDepth 100000 in
theorem mw571 : Cond.methodLink "TreeAgent" 375 yX0_at ∈ gTs := gT 778 rfl rfl
set_option maxRecDepth 100000 in
theorem mw572 : Cond.fieldLinkNest "TreeAgent" 344 "TreeAgent$Pair" "name" "LTreeAgent$Chain;" "TreeAgent" ∈ gNs := gT2 120 rfl rfl
set_option maxRecDepth 100000 in
theorem mw573 : Cond.methodLink "TreeAgent" 360 yX6_tell ∈ gTs := gT 788 rfl rfl
set_option maxRecDepth 100000 in
theorem mw574 : Cond.fieldLinkNest "TreeAgent" 337 "TreeAgent$Message" "count" "I" "TreeAgent" ∈ gNs := gT2 151 rfl rfl
set_option maxRecDepth 100000 in
theorem mw575 : Cond.methodLink "TreeAgent" 340 yX3_pairAt ∈ gTs := gT 763 rfl rfl
set_option maxRecDepth 100000 in
theorem mw576 : Cond.methodLink "TreeAgent" 347 yX11_valueFor ∈ gTs := gT 764 rfl rfl
set_option maxRecDepth 100000 in
theorem mw577 : Cond.fieldLinkNest "TreeAgent" 351 "TreeAgent$Message" "version" "I" "TreeAgent" ∈ gNs := gT2 139 rfl rfl
set_option maxRecDepth 100000 in
theorem mw578 : Cond.methodLink "TreeAgent" 354 yX10_isMissing ∈ gTs := gT 783 rfl rfl
set_option maxRecDepth 100000 in
theorem mw579 : Cond.methodLink "TreeAgent" 357 yX6_fail ∈ gTs := gT 787 rfl rfl
set_option maxRecDepth 100000 in
theorem mw580 : Cond.instanceMethod yX10_isMissing ∈ gTs := gT 784 rfl rfl
set_option maxRecDepth 100000 in
theorem mw581 : Cond.selects "TreeAgent$Value" yX10_isMissing yX10_isMissing ∈ gTs := gT 785 rfl rfl
set_option maxRecDepth 100000 in
theorem mw582 : Cond.instanceMethod yX11_valueFor ∈ gTs := gT 766 rfl rfl
set_option maxRecDepth 100000 in
theorem mw583 : Cond.selects "TreeAgent" yX11_valueFor yX11_valueFor ∈ gTs := gT3 (y := yX11_valueFor) (n := 17) 27 rfl rfl
set_option maxRecDepth 100000 in
theorem mw584 : Cond.methodLink "TreeAgent" 395 yX8_indexAbove ∈ gTs := gT 840 rfl rfl
set_option maxRecDepth 100000 in
theorem mw585 : Cond.instanceMethod yX8_indexAbove ∈ gTs := gT 841 rfl rfl
set_option maxRecDepth 100000 in
theorem mw586 : Cond.selects "TreeAgent$Thing" yX8_indexAbove yX8_indexAbove ∈ gTs := gT 842 rfl rfl
set_option maxRecDepth 100000 in
theorem mw587 : Cond.methodLink "TreeAgent" 391 yX8_passedBy ∈ gTs := gT 830 rfl rfl
set_option maxRecDepth 100000 in
theorem mw588 : Cond.instanceMethod yX8_passedBy ∈ gTs := gT 831 rfl rfl
set_option maxRecDepth 100000 in
theorem mw589 : Cond.selects "TreeAgent$Thing" yX8_passedBy yX8_passedBy ∈ gTs := gT 832 rfl rfl
set_option maxRecDepth 100000 in
theorem mw590 : Cond.methodLink "TreeAgent" 384 yX9_thingInOrder ∈ gTs := gT 822 rfl rfl
set_option maxRecDepth 100000 in
theorem mw591 : Cond.methodLink "TreeAgent" 387 yX11_nextOf ∈ gTs := gT 826 rfl rfl
set_option maxRecDepth 100000 in
theorem mw592 : Cond.instanceMethod yX11_nextOf ∈ gTs := gT 828 rfl rfl
set_option maxRecDepth 100000 in
theorem mw593 : Cond.selects "TreeAgent" yX11_nextOf yX11_nextOf ∈ gTs := gT3 (y := yX11_nextOf) (n := 17) 30 rfl rfl
set_option maxRecDepth 100000 in
theorem mw594 : Cond.instanceMethod yX9_thingInOrder ∈ gTs := gT 823 rfl rfl
set_option maxRecDepth 100000 in
theorem mw595 : Cond.selects "TreeAgent$Tree" yX9_thingInOrder yX9_thingInOrder ∈ gTs := gT 824 rfl rfl
set_option maxRecDepth 100000 in
theorem mw596 : Cond.methodLink "TreeAgent" 381 yX11_nextAfter ∈ gTs := gT 818 rfl rfl
set_option maxRecDepth 100000 in
theorem mw597 : Cond.instanceMethod yX11_nextAfter ∈ gTs := gT 820 rfl rfl
set_option maxRecDepth 100000 in
theorem mw598 : Cond.selects "TreeAgent" yX11_nextAfter yX11_nextAfter ∈ gTs := gT3 (y := yX11_nextAfter) (n := 17) 29 rfl rfl
set_option maxRecDepth 100000 in
theorem mw599 : Cond.methodLink "TreeAgent" 414 yX6_sizeWith ∈ gTs := gT 859 rfl rfl
set_option maxRecDepth 100000 in
theorem mw600 : Cond.instanceMethod yX6_sizeWith ∈ gTs := gT 860 rfl rfl
set_option maxRecDepth 100000 in
theorem mw601 : Cond.selects "TreeAgent$Reply" yX6_sizeWith yX6_sizeWith ∈ gTs := gT 861 rfl rfl
set_option maxRecDepth 100000 in
theorem mw602 : Cond.methodLink "TreeAgent" 413 yX6_pairAt ∈ gTs := gT 855 rfl rfl
set_option maxRecDepth 100000 in
theorem mw603 : Cond.fieldLinkNest "TreeAgent" 399 "TreeAgent$Message" "s" "I" "TreeAgent" ∈ gNs := gT2 145 rfl rfl
set_option maxRecDepth 100000 in
theorem mw604 : Cond.fieldLinkNest "TreeAgent" 410 "TreeAgent$Message" "t" "I" "TreeAgent" ∈ gNs := gT2 147 rfl rfl
set_option maxRecDepth 100000 in
theorem mw605 : Cond.methodLink "TreeAgent" 402 Lib.Math.max.name ∈ gTs := gT 853 rfl rfl
set_option maxRecDepth 100000 in
theorem mw606 : Cond.methodLink "TreeAgent" 407 Lib.Math.min.name ∈ gTs := gT 854 rfl rfl
set_option maxRecDepth 100000 in
theorem mw607 : Cond.methodLink "TreeAgent" 429 yX6_tellAsked ∈ gTs := gT 930 rfl rfl
set_option maxRecDepth 100000 in
theorem mw608 : Cond.instanceMethod yX6_tellAsked ∈ gTs := gT 931 rfl rfl
set_option maxRecDepth 100000 in
theorem mw609 : Cond.selects "TreeAgent$Reply" yX6_tellAsked yX6_tellAsked ∈ gTs := gT 932 rfl rfl
set_option maxRecDepth 100000 in
theorem mw610 : Cond.methodLink "TreeAgent" 426 yX1_faultAt ∈ gTs := gT 882 rfl rfl
set_option maxRecDepth 100000 in
theorem mw611 : Cond.methodLink "TreeAgent" 422 yX11_errorInVersion ∈ gTs := gT 878 rfl rfl
set_option maxRecDepth 100000 in
theorem mw612 : Cond.instanceMethod yX11_errorInVersion ∈ gTs := gT 880 rfl rfl
set_option maxRecDepth 100000 in
theorem mw613 : Cond.selects "TreeAgent" yX11_errorInVersion yX11_errorInVersion ∈ gTs := gT3 (y := yX11_errorInVersion) (n := 17) 35 rfl rfl
set_option maxRecDepth 100000 in
theorem mw614 : Cond.instanceMethod yX1_faultAt ∈ gTs := gT 883 rfl rfl
set_option maxRecDepth 100000 in
theorem mw615 : Cond.selects "TreeAgent$Change" yX1_faultAt yX1_faultAt ∈ gTs := gT 884 rfl rfl
set_option maxRecDepth 100000 in
theorem mw616 : Cond.fieldLinkNest "TreeAgent" 418 "TreeAgent$Community" "maySet" "Z" "TreeAgent" ∈ gNs := gT2 622 rfl rfl
set_option maxRecDepth 100000 in
theorem mw617 : Cond.methodLink "TreeAgent" 301 yX11_countOne ∈ gTs := gT 755 rfl rfl
set_option maxRecDepth 100000 in
theorem mw618 : Cond.instanceMethod yX11_countOne ∈ gTs := gT 757 rfl rfl
set_option maxRecDepth 100000 in
theorem mw619 : Cond.selects "TreeAgent" yX11_countOne yX11_countOne ∈ gTs := gT3 (y := yX11_countOne) (n := 17) 25 rfl rfl
set_option maxRecDepth 100000 in
theorem mw620 : Cond.methodLink "TreeAgent" 442 yX6_write ∈ gTs := gT 968 rfl rfl
set_option maxRecDepth 100000 in
theorem mw621 : Cond.fieldLinkNest "TreeAgent" 445 "TreeAgent$Reply" "octets" "LTreeAgent$Chain;" "TreeAgent" ∈ gNs := gT2 215 rfl rfl
set_option maxRecDepth 100000 in
theorem mw622 : Cond.instanceMethod yX6_write ∈ gTs := gT 969 rfl rfl
set_option maxRecDepth 100000 in
theorem mw623 : Cond.selects "TreeAgent$Reply" yX6_write yX6_write ∈ gTs := gT 970 rfl rfl
set_option maxRecDepth 100000 in
theorem mw624 : Cond.methodLink "TreeAgent" 436 yX6_sizeFor ∈ gTs := gT 944 rfl rfl
set_option maxRecDepth 100000 in
theorem mw625 : Cond.fieldLinkNest "TreeAgent" 304 "TreeAgent$Message" "kind" "I" "TreeAgent" ∈ gNs := gT2 141 rfl rfl
set_option maxRecDepth 100000 in
theorem mw626 : Cond.methodLink "TreeAgent" 439 yX1_apply ∈ gTs := gT 948 rfl rfl
set_option maxRecDepth 100000 in
theorem mw627 : Cond.instanceMethod yX1_apply ∈ gTs := gT 949 rfl rfl
set_option maxRecDepth 100000 in
theorem mw628 : Cond.selects "TreeAgent$Change" yX1_apply yX1_apply ∈ gTs := gT 950 rfl rfl
set_option maxRecDepth 100000 in
theorem mw629 : Cond.instanceMethod yX6_sizeFor ∈ gTs := gT 945 rfl rfl
set_option maxRecDepth 100000 in
theorem mw630 : Cond.selects "TreeAgent$Reply" yX6_sizeFor yX6_sizeFor ∈ gTs := gT 946 rfl rfl
set_option maxRecDepth 100000 in
theorem mw631 : Cond.methodLink "TreeAgent" 433 yX6_error ∈ gTs := gT 940 rfl rfl
set_option maxRecDepth 100000 in
theorem mw632 : Cond.instanceMethod yX6_error ∈ gTs := gT 941 rfl rfl
set_option maxRecDepth 100000 in
theorem mw633 : Cond.selects "TreeAgent$Reply" yX6_error yX6_error ∈ gTs := gT 942 rfl rfl
set_option maxRecDepth 100000 in
theorem mw634 : Cond.methodLink "TreeAgent" 297 yX6_clear ∈ gTs := gT 668 rfl rfl
set_option maxRecDepth 100000 in
theorem mw635 : Cond.methodLink "TreeAgent" 298 yX11_takeMessage ∈ gTs := gT 677 rfl rfl
set_option maxRecDepth 100000 in
theorem mw636 : Cond.methodLink "TreeAgent" 307 yX11_tellValues ∈ gTs := gT 759 rfl rfl
set_option maxRecDepth 100000 in
theorem mw637 : Cond.methodLink "TreeAgent" 319 yX11_give ∈ gTs := gT 936 rfl rfl
set_option maxRecDepth 100000 in
theorem mw638 : Cond.instanceMethod yX11_give ∈ gTs := gT 938 rfl rfl
set_option maxRecDepth 100000 in
theorem mw639 : Cond.selects "TreeAgent" yX11_give yX11_give ∈ gTs := gT3 (y := yX11_give) (n := 17) 39 rfl rfl
set_option maxRecDepth 100000 in
theorem mw640 : Cond.instanceMethod yX11_tellValues ∈ gTs := gT 761 rfl rfl
set_option maxRecDepth 100000 in
theorem mw641 : Cond.selects "TreeAgent" yX11_tellValues yX11_tellValues ∈ gTs := gT3 (y := yX11_tellValues) (n := 17) 26 rfl rfl
set_option maxRecDepth 100000 in
theorem mw642 : Cond.methodLink "TreeAgent" 310 yX11_tellNexts ∈ gTs := gT 814 rfl rfl
set_option maxRecDepth 100000 in
theorem mw643 : Cond.instanceMethod yX11_tellNexts ∈ gTs := gT 816 rfl rfl
set_option maxRecDepth 100000 in
theorem mw644 : Cond.selects "TreeAgent" yX11_tellNexts yX11_tellNexts ∈ gTs := gT3 (y := yX11_tellNexts) (n := 17) 28 rfl rfl
set_option maxRecDepth 100000 in
theorem mw645 : Cond.methodLink "TreeAgent" 313 yX11_tellMany ∈ gTs := gT 849 rfl rfl
set_option maxRecDepth 100000 in
theorem mw646 : Cond.instanceMethod yX11_tellMany ∈ gTs := gT 851 rfl rfl
set_option maxRecDepth 100000 in
theorem mw647 : Cond.selects "TreeAgent" yX11_tellMany yX11_tellMany ∈ gTs := gT3 (y := yX11_tellMany) (n := 17) 31 rfl rfl
set_option maxRecDepth 100000 in
theorem mw648 : Cond.methodLink "TreeAgent" 316 yX11_tellSet ∈ gTs := gT 874 rfl rfl
set_option maxRecDepth 100000 in
theorem mw649 : Cond.instanceMethod yX11_tellSet ∈ gTs := gT 876 rfl rfl
set_option maxRecDepth 100000 in
theorem mw650 : Cond.selects "TreeAgent" yX11_tellSet yX11_tellSet ∈ gTs := gT3 (y := yX11_tellSet) (n := 17) 34 rfl rfl
set_option maxRecDepth 100000 in
theorem mw651 : Cond.instanceMethod yX11_takeMessage ∈ gTs := gT 679 rfl rfl
set_option maxRecDepth 100000 in
theorem mw652 : Cond.selects "TreeAgent" yX11_takeMessage yX11_takeMessage ∈ gTs := gT3 (y := yX11_takeMessage) (n := 17) 14 rfl rfl
set_option maxRecDepth 100000 in
theorem mw653 : Cond.instanceMethod yX6_clear ∈ gTs := gT 669 rfl rfl
set_option maxRecDepth 100000 in
theorem mw654 : Cond.selects "TreeAgent$Reply" yX6_clear yX6_clear ∈ gTs := gT 670 rfl rfl
set_option maxRecDepth 100000 in
theorem mw655 : Cond.methodLink "TreeAgentModel" 1 objectInit ∈ gTs := gT 1029 rfl rfl
set_option maxRecDepth 100000 in
theorem mw656 : Cond.arrayClass .byte ∈ gTs := gT 1229 rfl rfl
set_option maxRecDepth 100000 in
theorem mw657 : Cond.fieldLink "TreeAgentModel" 7 "TreeAgentModel" "tape" "[B" ∈ gTs := gT 1031 rfl rfl
set_option maxRecDepth 100000 in
theorem mw658 : Cond.fieldLink "TreeAgentModel" 13 "TreeAgentModel" "hand" "[J" ∈ gTs := gT 1033 rfl rfl
set_option maxRecDepth 100000 in
theorem mw659 : Cond.fieldLink "TreeAgentModel" 17 "TreeAgentModel" "limit" "I" ∈ gTs := gT 1035 rfl rfl
set_option maxRecDepth 100000 in
theorem mw660 : Cond.fieldLink "TreeAgentModel" 21 "TreeAgentModel" "counts" "[I" ∈ gTs := gT 1037 rfl rfl
set_option maxRecDepth 100000 in
theorem mw661 : Cond.fieldLink "TreeAgentModel" 25 "TreeAgentModel" "oName" "[J" ∈ gTs := gT 1039 rfl rfl
set_option maxRecDepth 100000 in
theorem mw662 : Cond.fieldLink "TreeAgentModel" 28 "TreeAgentModel" "oSize" "[I" ∈ gTs := gT 1040 rfl rfl
set_option maxRecDepth 100000 in
theorem mw663 : Cond.fieldLink "TreeAgentModel" 31 "TreeAgentModel" "oTag" "[I" ∈ gTs := gT 1041 rfl rfl
set_option maxRecDepth 100000 in
theorem mw664 : Cond.fieldLink "TreeAgentModel" 34 "TreeAgentModel" "oAccess" "[I" ∈ gTs := gT 1042 rfl rfl
set_option maxRecDepth 100000 in
theorem mw665 : Cond.fieldLink "TreeAgentModel" 37 "TreeAgentModel" "oLeast" "[J" ∈ gTs := gT 1043 rfl rfl
set_option maxRecDepth 100000 in
theorem mw666 : Cond.fieldLink "TreeAgentModel" 40 "TreeAgentModel" "oMost" "[J" ∈ gTs := gT 1044 rfl rfl
set_option maxRecDepth 100000 in
theorem mw667 : Cond.fieldLink "TreeAgentModel" 43 "TreeAgentModel" "oTable" "[I" ∈ gTs := gT 1045 rfl rfl
set_option maxRecDepth 100000 in
theorem mw668 : Cond.fieldLink "TreeAgentModel" 46 "TreeAgentModel" "oStatus" "[Z" ∈ gTs := gT 1046 rfl rfl
set_option maxRecDepth 100000 in
theorem mw669 : Cond.fieldLink "TreeAgentModel" 50 "TreeAgentModel" "value" "[J" ∈ gTs := gT 1047 rfl rfl
set_option maxRecDepth 100000 in
theorem mw670 : Cond.fieldLink "TreeAgentModel" 53 "TreeAgentModel" "text" "[B" ∈ gTs := gT 1048 rfl rfl
set_option maxRecDepth 100000 in
theorem mw671 : Cond.fieldLink "TreeAgentModel" 56 "TreeAgentModel" "textSize" "[I" ∈ gTs := gT 1049 rfl rfl
set_option maxRecDepth 100000 in
theorem mw672 : Cond.fieldLink "TreeAgentModel" 59 "TreeAgentModel" "name" "[J" ∈ gTs := gT 1050 rfl rfl
set_option maxRecDepth 100000 in
theorem mw673 : Cond.fieldLink "TreeAgentModel" 62 "TreeAgentModel" "nameSize" "[I" ∈ gTs := gT 1051 rfl rfl
set_option maxRecDepth 100000 in
theorem mw674 : Cond.fieldLink "TreeAgentModel" 65 "TreeAgentModel" "tName" "[J" ∈ gTs := gT 1053 rfl rfl
set_option maxRecDepth 100000 in
theorem mw675 : Cond.fieldLink "TreeAgentModel" 68 "TreeAgentModel" "tSize" "[I" ∈ gTs := gT 1054 rfl rfl
set_option maxRecDepth 100000 in
theorem mw676 : Cond.fieldLink "TreeAgentModel" 71 "TreeAgentModel" "tColumns" "[I" ∈ gTs := gT 1055 rfl rfl
set_option maxRecDepth 100000 in
theorem mw677 : Cond.fieldLink "TreeAgentModel" 74 "TreeAgentModel" "tRows" "[I" ∈ gTs := gT 1056 rfl rfl
set_option maxRecDepth 100000 in
theorem mw678 : Cond.fieldLink "TreeAgentModel" 77 "TreeAgentModel" "tIndex" "[I" ∈ gTs := gT 1057 rfl rfl
set_option maxRecDepth 100000 in
theorem mw679 : Cond.fieldLink "TreeAgentModel" 80 "TreeAgentModel" "cName" "[B" ∈ gTs := gT 1059 rfl rfl
set_option maxRecDepth 100000 in
theorem mw680 : Cond.fieldLink "TreeAgentModel" 83 "TreeAgentModel" "cSize" "[I" ∈ gTs := gT 1060 rfl rfl
set_option maxRecDepth 100000 in
theorem mw681 : Cond.fieldLink "TreeAgentModel" 86 "TreeAgentModel" "cSets" "[Z" ∈ gTs := gT 1061 rfl rfl
set_option maxRecDepth 100000 in
theorem mw682 : Cond.fieldLink "TreeAgentModel" 89 "TreeAgentModel" "cViews" "[I" ∈ gTs := gT 1062 rfl rfl
set_option maxRecDepth 100000 in
theorem mw683 : Cond.fieldLink "TreeAgentModel" 92 "TreeAgentModel" "cView" "[J" ∈ gTs := gT 1063 rfl rfl
set_option maxRecDepth 100000 in
theorem mw684 : Cond.fieldLink "TreeAgentModel" 95 "TreeAgentModel" "cViewSize" "[I" ∈ gTs := gT 1064 rfl rfl
set_option maxRecDepth 100000 in
theorem mw685 : Cond.fieldLink "TreeAgentModel" 98 "TreeAgentModel" "cViewIn" "[Z" ∈ gTs := gT 1065 rfl rfl
set_option maxRecDepth 100000 in
theorem mw686 : Cond.fieldLink "TreeAgentModel" 101 "TreeAgentModel" "qName" "[J" ∈ gTs := gT 1066 rfl rfl
set_option maxRecDepth 100000 in
theorem mw687 : Cond.fieldLink "TreeAgentModel" 104 "TreeAgentModel" "qNameSize" "[I" ∈ gTs := gT 1067 rfl rfl
set_option maxRecDepth 100000 in
theorem mw688 : Cond.fieldLink "TreeAgentModel" 107 "TreeAgentModel" "qTag" "[I" ∈ gTs := gT 1068 rfl rfl
set_option maxRecDepth 100000 in
theorem mw689 : Cond.fieldLink "TreeAgentModel" 110 "TreeAgentModel" "qNumber" "[J" ∈ gTs := gT 1069 rfl rfl
set_option maxRecDepth 100000 in
theorem mw690 : Cond.fieldLink "TreeAgentModel" 113 "TreeAgentModel" "qText" "[B" ∈ gTs := gT 1070 rfl rfl
set_option maxRecDepth 100000 in
theorem mw691 : Cond.fieldLink "TreeAgentModel" 116 "TreeAgentModel" "qTextSize" "[I" ∈ gTs := gT 1071 rfl rfl
set_option maxRecDepth 100000 in
theorem mw692 : Cond.fieldLink "TreeAgentModel" 119 "TreeAgentModel" "qValue" "[J" ∈ gTs := gT 1072 rfl rfl
set_option maxRecDepth 100000 in
theorem mw693 : Cond.fieldLink "TreeAgentModel" 122 "TreeAgentModel" "qValueSize" "[I" ∈ gTs := gT 1073 rfl rfl
set_option maxRecDepth 100000 in
theorem mw694 : Cond.fieldLink "TreeAgentModel" 125 "TreeAgentModel" "full" "[J" ∈ gTs := gT 1089 rfl rfl
set_option maxRecDepth 100000 in
theorem mw695 : Cond.fieldLink "TreeAgentModel" 128 "TreeAgentModel" "least" "[J" ∈ gTs := gT 1091 rfl rfl
set_option maxRecDepth 100000 in
theorem mw696 : Cond.fieldLink "TreeAgentModel" 131 "TreeAgentModel" "made" "[B" ∈ gTs := gT 1093 rfl rfl
set_option maxRecDepth 100000 in
theorem mw697 : Cond.fieldLink "TreeAgentModel" 134 "TreeAgentModel" "tables" "I" ∈ gTs := gT 1052 rfl rfl
set_option maxRecDepth 100000 in
theorem mw698 : Cond.fieldLink "TreeAgentModel" 146 "TreeAgentModel" "tapeSize" "I" ∈ gTs := gT 1032 rfl rfl
set_option maxRecDepth 100000 in
theorem mw699 : Cond.fieldLink "TreeAgentModel" 137 "TreeAgentModel" "code" "I" ∈ gTs := gT 1030 rfl rfl
set_option maxRecDepth 100000 in
theorem mw700 : Cond.constantLong "TreeAgentModel" 140 (8) ∈ gTs := gT 1234 rfl rfl
set_option maxRecDepth 100000 in
theorem mw701 : Cond.methodLink "TreeAgentModel" 142 yX12_in ∈ gTs := gT 1235 rfl rfl
set_option maxRecDepth 100000 in
theorem mw702 : Cond.static yX12_in ∈ gTs := gT 1236 rfl rfl
set_option maxRecDepth 100000 in
theorem mw703 : Cond.fieldLink "TreeAgentModel" 151 "TreeAgentModel" "handSize" "I" ∈ gTs := gT 1034 rfl rfl
set_option maxRecDepth 100000 in
theorem mw704 : Cond.constantLong "TreeAgentModel" 149 (-1) ∈ gTs := gT 1242 rfl rfl
set_option maxRecDepth 100000 in
theorem mw705 : Cond.constantLong "TreeAgentModel" 158 (4294967295) ∈ gTs := gT 1245 rfl rfl
set_option maxRecDepth 100000 in
theorem mw706 : Cond.constantLong "TreeAgentModel" 156 (39) ∈ gTs := gT 1244 rfl rfl
set_option maxRecDepth 100000 in
theorem mw707 : Cond.constantLong "TreeAgentModel" 154 (2) ∈ gTs := gT 1243 rfl rfl
set_option maxRecDepth 100000 in
theorem mw708 : Cond.methodLink "TreeAgentModel" 163 yX12_begins ∈ gTs := gT 1260 rfl rfl
set_option maxRecDepth 100000 in
theorem mw709 : Cond.static yX12_begins ∈ gTs := gT 1261 rfl rfl
set_option maxRecDepth 100000 in
theorem mw710 : Cond.fieldLink "TreeAgentModel" 160 "TreeAgentModel" "objects" "I" ∈ gTs := gT 1038 rfl rfl
set_option maxRecDepth 100000 in
theorem mw711 : Cond.constantLong "TreeAgentModel" 167 (64) ∈ gTs := gT 1253 rfl rfl
set_option maxRecDepth 100000 in
theorem mw712 : Cond.constantLong "TreeAgentModel" 169 (67) ∈ gTs := gT 1254 rfl rfl
set_option maxRecDepth 100000 in
theorem mw713 : Cond.methodLink "TreeAgentModel" 171 yX12_first ∈ gTs := gT 1267 rfl rfl
set_option maxRecDepth 100000 in
theorem mw714 : Cond.instanceMethod yX12_first ∈ gTs := gT 1269 rfl rfl
set_option maxRecDepth 100000 in
theorem mw715 : Cond.selects "TreeAgentModel" yX12_first yX12_first ∈ gTs := gT3 (y := yX12_first) (n := 66) 50 rfl rfl
set_option maxRecDepth 100000 in
theorem mw716 : Cond.methodLink "TreeAgentModel" 184 yX12_newObject ∈ gTs := gT 1263 rfl rfl
set_option maxRecDepth 100000 in
theorem mw717 : Cond.instanceMethod yX12_newObject ∈ gTs := gT 1265 rfl rfl
set_option maxRecDepth 100000 in
theorem mw718 : Cond.selects "TreeAgentModel" yX12_newObject yX12_newObject ∈ gTs := gT3 (y := yX12_newObject) (n := 66) 49 rfl rfl
set_option maxRecDepth 100000 in
theorem mw719 : Cond.methodLink "TreeAgentModel" 175 yX12_isTag ∈ gTs := gT 1250 rfl rfl
set_option maxRecDepth 100000 in
theorem mw720 : Cond.constantLong "TreeAgentModel" 179 (15) ∈ gTs := gT 1255 rfl rfl
set_option maxRecDepth 100000 in
theorem mw721 : Cond.methodLink "TreeAgentModel" 181 yX12_clashes ∈ gTs := gT 1256 rfl rfl
set_option maxRecDepth 100000 in
theorem mw722 : Cond.instanceMethod yX12_clashes ∈ gTs := gT 1258 rfl rfl
set_option maxRecDepth 100000 in
theorem mw723 : Cond.selects "TreeAgentModel" yX12_clashes yX12_clashes ∈ gTs := gT3 (y := yX12_clashes) (n := 66) 48 rfl rfl
set_option maxRecDepth 100000 in
theorem mw724 : Cond.static yX12_isTag ∈ gTs := gT 1251 rfl rfl
set_option maxRecDepth 100000 in
theorem mw725 : Cond.constantLong "TreeAgentModel" 188 (14) ∈ gTs := gT 1275 rfl rfl
set_option maxRecDepth 100000 in
theorem mw726 : Cond.methodLink "TreeAgentModel" 190 yX12_columnOf ∈ gTs := gT 1280 rfl rfl
set_option maxRecDepth 100000 in
theorem mw727 : Cond.instanceMethod yX12_columnOf ∈ gTs := gT 1282 rfl rfl
set_option maxRecDepth 100000 in
theorem mw728 : Cond.selects "TreeAgentModel" yX12_columnOf yX12_columnOf ∈ gTs := gT3 (y := yX12_columnOf) (n := 66) 51 rfl rfl
set_option maxRecDepth 100000 in
theorem mw729 : Cond.constantLong "TreeAgentModel" 194 (6) ∈ gTs := gT 1288 rfl rfl
set_option maxRecDepth 100000 in
theorem mw730 : Cond.methodLink "TreeAgentModel" 203 yX12_makeRow ∈ gTs := gT 1301 rfl rfl
set_option maxRecDepth 100000 in
theorem mw731 : Cond.instanceMethod yX12_makeRow ∈ gTs := gT 1303 rfl rfl
set_option maxRecDepth 100000 in
theorem mw732 : Cond.selects "TreeAgentModel" yX12_makeRow yX12_makeRow ∈ gTs := gT3 (y := yX12_makeRow) (n := 66) 54 rfl rfl
set_option maxRecDepth 100000 in
theorem mw733 : Cond.methodLink "TreeAgentModel" 200 yX12_dropRow ∈ gTs := gT 1297 rfl rfl
set_option maxRecDepth 100000 in
theorem mw734 : Cond.instanceMethod yX12_dropRow ∈ gTs := gT 1299 rfl rfl
set_option maxRecDepth 100000 in
theorem mw735 : Cond.selects "TreeAgentModel" yX12_dropRow yX12_dropRow ∈ gTs := gT3 (y := yX12_dropRow) (n := 66) 53 rfl rfl
set_option maxRecDepth 100000 in
theorem mw736 : Cond.methodLink "TreeAgentModel" 196 yX12_placeOf ∈ gTs := gT 1293 rfl rfl
set_option maxRecDepth 100000 in
theorem mw737 : Cond.instanceMethod yX12_placeOf ∈ gTs := gT 1295 rfl rfl
set_option maxRecDepth 100000 in
theorem mw738 : Cond.selects "TreeAgentModel" yX12_placeOf yX12_placeOf ∈ gTs := gT3 (y := yX12_placeOf) (n := 66) 52 rfl rfl
set_option maxRecDepth 100000 in
theorem mw739 : Cond.constantLong "TreeAgentModel" 215 (65) ∈ gTs := gT 1315 rfl rfl
set_option maxRecDepth 100000 in
theorem mw740 : Cond.methodLink "TreeAgentModel" 207 yX12_instance ∈ gTs := gT 1309 rfl rfl
set_option maxRecDepth 100000 in
theorem mw741 : Cond.constantLong "TreeAgentModel" 211 (-2147483648) ∈ gTs := gT 1313 rfl rfl
set_option maxRecDepth 100000 in
theorem mw742 : Cond.constantLong "TreeAgentModel" 213 (2147483647) ∈ gTs := gT 1314 rfl rfl
set_option maxRecDepth 100000 in
theorem mw743 : Cond.instanceMethod yX12_instance ∈ gTs := gT 1311 rfl rfl
set_option maxRecDepth 100000 in
theorem mw744 : Cond.selects "TreeAgentModel" yX12_instance yX12_instance ∈ gTs := gT3 (y := yX12_instance) (n := 66) 55 rfl rfl
set_option maxRecDepth 100000 in
theorem mw745 : Cond.constantLong "TreeAgentModel" 217 (16) ∈ gTs := gT 1324 rfl rfl
set_option maxRecDepth 100000 in
theorem mw746 : Cond.fieldLink "TreeAgentModel" 219 "TreeAgentModel" "communities" "I" ∈ gTs := gT 1058 rfl rfl
set_option maxRecDepth 100000 in
theorem mw747 : Cond.methodLink "TreeAgentModel" 222 yX12_communityOf ∈ gTs := gT 1329 rfl rfl
set_option maxRecDepth 100000 in
theorem mw748 : Cond.instanceMethod yX12_communityOf ∈ gTs := gT 1331 rfl rfl
set_option maxRecDepth 100000 in
theorem mw749 : Cond.selects "TreeAgentModel" yX12_communityOf yX12_communityOf ∈ gTs := gT3 (y := yX12_communityOf) (n := 66) 56 rfl rfl
set_option maxRecDepth 100000 in
theorem mw750 : Cond.constantLong "TreeAgentModel" 226 (100) ∈ gTs := gT 1341 rfl rfl
set_option maxRecDepth 100000 in
theorem mw751 : Cond.constantLong "TreeAgentModel" 228 (1000) ∈ gTs := gT 1342 rfl rfl
set_option maxRecDepth 100000 in
theorem mw752 : Cond.constantLong "TreeAgentModel" 236 (-2) ∈ gTs := gT 1348 rfl rfl
set_option maxRecDepth 100000 in
theorem mw753 : Cond.constantLong "TreeAgentModel" 230 (4611686018427387904) ∈ gTs := gT 1347 rfl rfl
set_option maxRecDepth 100000 in
theorem mw754 : Cond.fieldLink "TreeAgentModel" 232 "TreeAgentModel" "clock" "J" ∈ gTs := gT 1036 rfl rfl
set_option maxRecDepth 100000 in
theorem mw755 : Cond.fieldLink "TreeAgentModel" 238 "TreeAgentModel" "at" "I" ∈ gTs := gT 1074 rfl rfl
set_option maxRecDepth 100000 in
theorem mw756 : Cond.fieldLink "TreeAgentModel" 241 "TreeAgentModel" "bad" "I" ∈ gTs := gT 1075 rfl rfl
set_option maxRecDepth 100000 in
theorem mw757 : Cond.methodLink "TreeAgentModel" 244 yX12_octet ∈ gTs := gT 1361 rfl rfl
set_option maxRecDepth 100000 in
theorem mw758 : Cond.instanceMethod yX12_octet ∈ gTs := gT 1363 rfl rfl
set_option maxRecDepth 100000 in
theorem mw759 : Cond.selects "TreeAgentModel" yX12_octet yX12_octet ∈ gTs := gT3 (y := yX12_octet) (n := 66) 59 rfl rfl
set_option maxRecDepth 100000 in
theorem mw760 : Cond.constantLong "TreeAgentModel" 251 (128) ∈ gTs := gT 1369 rfl rfl
set_option maxRecDepth 100000 in
theorem mw761 : Cond.constantLong "TreeAgentModel" 253 (4) ∈ gTs := gT 1370 rfl rfl
set_option maxRecDepth 100000 in
theorem mw762 : Cond.methodLink "TreeAgentModel" 248 yX12_size ∈ gTs := gT 1365 rfl rfl
set_option maxRecDepth 100000 in
theorem mw763 : Cond.instanceMethod yX12_size ∈ gTs := gT 1367 rfl rfl
set_option maxRecDepth 100000 in
theorem mw764 : Cond.selects "TreeAgentModel" yX12_size yX12_size ∈ gTs := gT3 (y := yX12_size) (n := 66) 60 rfl rfl
set_option maxRecDepth 100000 in
theorem mw765 : Cond.fieldLink "TreeAgentModel" 257 "TreeAgentModel" "wide" "Z" ∈ gTs := gT 1088 rfl rfl
set_option maxRecDepth 100000 in
theorem mw766 : Cond.constantLong "TreeAgentModel" 255 (9) ∈ gTs := gT 1379 rfl rfl
set_option maxRecDepth 100000 in
theorem mw767 : Cond.methodLink "TreeAgentModel" 261 yX12_field ∈ gTs := gT 1357 rfl rfl
set_option maxRecDepth 100000 in
theorem mw768 : Cond.methodLink "TreeAgentModel" 264 yX12_read ∈ gTs := gT 1375 rfl rfl
set_option maxRecDepth 100000 in
theorem mw769 : Cond.instanceMethod yX12_read ∈ gTs := gT 1377 rfl rfl
set_option maxRecDepth 100000 in
theorem mw770 : Cond.selects "TreeAgentModel" yX12_read yX12_read ∈ gTs := gT3 (y := yX12_read) (n := 66) 62 rfl rfl
set_option maxRecDepth 100000 in
theorem mw771 : Cond.instanceMethod yX12_field ∈ gTs := gT 1359 rfl rfl
set_option maxRecDepth 100000 in
theorem mw772 : Cond.selects "TreeAgentModel" yX12_field yX12_field ∈ gTs := gT3 (y := yX12_field) (n := 66) 58 rfl rfl
set_option maxRecDepth 100000 in
theorem mw773 : Cond.constantLong "TreeAgentModel" 270 (40) ∈ gTs := gT 1389 rfl rfl
set_option maxRecDepth 100000 in
theorem mw774 : Cond.constantLong "TreeAgentModel" 268 (119) ∈ gTs := gT 1388 rfl rfl
set_option maxRecDepth 100000 in
theorem mw775 : Cond.methodLink "TreeAgentModel" 272 yX12_readName ∈ gTs := gT 1384 rfl rfl
set_option maxRecDepth 100000 in
theorem mw776 : Cond.instanceMethod yX12_readName ∈ gTs := gT 1386 rfl rfl
set_option maxRecDepth 100000 in
theorem mw777 : Cond.selects "TreeAgentModel" yX12_readName yX12_readName ∈ gTs := gT3 (y := yX12_readName) (n := 66) 64 rfl rfl
set_option maxRecDepth 100000 in
theorem mw778 : Cond.fieldLink "TreeAgentModel" 276 "TreeAgentModel" "asked" "I" ∈ gTs := gT 1076 rfl rfl
set_option maxRecDepth 100000 in
theorem mw779 : Cond.methodLink "TreeAgentModel" 279 yX12_readValue ∈ gTs := gT 1390 rfl rfl
set_option maxRecDepth 100000 in
theorem mw780 : Cond.instanceMethod yX12_readValue ∈ gTs := gT 1392 rfl rfl
set_option maxRecDepth 100000 in
theorem mw781 : Cond.selects "TreeAgentModel" yX12_readValue yX12_readValue ∈ gTs := gT3 (y := yX12_readValue) (n := 66) 65 rfl rfl
set_option maxRecDepth 100000 in
theorem mw782 : Cond.methodLink "TreeAgentModel" 309 yX12_readRow ∈ gTs := gT 1380 rfl rfl
set_option maxRecDepth 100000 in
theorem mw783 : Cond.instanceMethod yX12_readRow ∈ gTs := gT 1382 rfl rfl
set_option maxRecDepth 100000 in
theorem mw784 : Cond.selects "TreeAgentModel" yX12_readRow yX12_readRow ∈ gTs := gT3 (y := yX12_readRow) (n := 66) 63 rfl rfl
set_option maxRecDepth 100000 in
theorem mw785 : Cond.fieldLink "TreeAgentModel" 306 "TreeAgentModel" "t" "I" ∈ gTs := gT 1085 rfl rfl
set_option maxRecDepth 100000 in
theorem mw786 : Cond.fieldLink "TreeAgentModel" 303 "TreeAgentModel" "s" "I" ∈ gTs := gT 1084 rfl rfl
set_option maxRecDepth 100000 in
theorem mw787 : Cond.methodLink "TreeAgentModel" 282 yX12_integer ∈ gTs := gT 1371 rfl rfl
set_option maxRecDepth 100000 in
theorem mw788 : Cond.instanceMethod yX12_integer ∈ gTs := gT 1373 rfl rfl
set_option maxRecDepth 100000 in
theorem mw789 : Cond.selects "TreeAgentModel" yX12_integer yX12_integer ∈ gTs := gT3 (y := yX12_integer) (n := 66) 61 rfl rfl
set_option maxRecDepth 100000 in
theorem mw790 : Cond.fieldLink "TreeAgentModel" 300 "TreeAgentModel" "id" "I" ∈ gTs := gT 1083 rfl rfl
set_option maxRecDepth 100000 in
theorem mw791 : Cond.fieldLink "TreeAgentModel" 288 "TreeAgentModel" "whoAt" "I" ∈ gTs := gT 1080 rfl rfl
set_option maxRecDepth 100000 in
theorem mw792 : Cond.fieldLink "TreeAgentModel" 291 "TreeAgentModel" "whoSize" "I" ∈ gTs := gT 1081 rfl rfl
set_option maxRecDepth 100000 in
theorem mw793 : Cond.fieldLink "TreeAgentModel" 294 "TreeAgentModel" "who" "I" ∈ gTs := gT 1079 rfl rfl
set_option maxRecDepth 100000 in
theorem mw794 : Cond.fieldLink "TreeAgentModel" 297 "TreeAgentModel" "kind" "I" ∈ gTs := gT 1082 rfl rfl
set_option maxRecDepth 100000 in
theorem mw795 : Cond.fieldLink "TreeAgentModel" 285 "TreeAgentModel" "version" "I" ∈ gTs := gT 1078 rfl rfl
set_option maxRecDepth 100000 in
theorem mw796 : Cond.fieldLink "TreeAgentModel" 313 "TreeAgentModel" "fullSize" "I" ∈ gTs := gT 1090 rfl rfl
set_option maxRecDepth 100000 in
theorem mw797 : Cond.methodLink "TreeAgentModel" 316 yX12_numberOf ∈ gTs := gT 1429 rfl rfl
set_option maxRecDepth 100000 in
theorem mw798 : Cond.instanceMethod yX12_numberOf ∈ gTs := gT 1431 rfl rfl
set_option maxRecDepth 100000 in
theorem mw799 : Cond.selects "TreeAgentModel" yX12_numberOf yX12_numberOf ∈ gTs := gT3 (y := yX12_numberOf) (n := 66) 74 rfl rfl
set_option maxRecDepth 100000 in
theorem mw800 : Cond.methodLink "TreeAgentModel" 331 yX12_tell ∈ gTs := gT 1425 rfl rfl
set_option maxRecDepth 100000 in
theorem mw801 : Cond.instanceMethod yX12_tell ∈ gTs := gT 1427 rfl rfl
set_option maxRecDepth 100000 in
theorem mw802 : Cond.selects "TreeAgentModel" yX12_tell yX12_tell ∈ gTs := gT3 (y := yX12_tell) (n := 66) 73 rfl rfl
set_option maxRecDepth 100000 in
theorem mw803 : Cond.methodLink "TreeAgentModel" 320 yX12_copyName ∈ gTs := gT 1421 rfl rfl
set_option maxRecDepth 100000 in
theorem mw804 : Cond.methodLink "TreeAgentModel" 323 yX12_objectOf ∈ gTs := gT 1469 rfl rfl
set_option maxRecDepth 100000 in
theorem mw805 : Cond.methodLink "TreeAgentModel" 327 yX12_inView ∈ gTs := gT 1417 rfl rfl
set_option maxRecDepth 100000 in
theorem mw806 : Cond.instanceMethod yX12_inView ∈ gTs := gT 1419 rfl rfl
set_option maxRecDepth 100000 in
theorem mw807 : Cond.selects "TreeAgentModel" yX12_inView yX12_inView ∈ gTs := gT3 (y := yX12_inView) (n := 66) 71 rfl rfl
set_option maxRecDepth 100000 in
theorem mw808 : Cond.instanceMethod yX12_objectOf ∈ gTs := gT 1471 rfl rfl
set_option maxRecDepth 100000 in
theorem mw809 : Cond.selects "TreeAgentModel" yX12_objectOf yX12_objectOf ∈ gTs := gT3 (y := yX12_objectOf) (n := 66) 81 rfl rfl
set_option maxRecDepth 100000 in
theorem mw810 : Cond.instanceMethod yX12_copyName ∈ gTs := gT 1423 rfl rfl
set_option maxRecDepth 100000 in
theorem mw811 : Cond.selects "TreeAgentModel" yX12_copyName yX12_copyName ∈ gTs := gT3 (y := yX12_copyName) (n := 66) 72 rfl rfl
set_option maxRecDepth 100000 in
theorem mw812 : Cond.fieldLink "TreeAgentModel" 346 "TreeAgentModel" "leastSize" "I" ∈ gTs := gT 1092 rfl rfl
set_option maxRecDepth 100000 in
theorem mw813 : Cond.methodLink "TreeAgentModel" 342 yX12_order ∈ gTs := gT 1414 rfl rfl
set_option maxRecDepth 100000 in
theorem mw814 : Cond.static yX12_order ∈ gTs := gT 1415 rfl rfl
set_option maxRecDepth 100000 in
theorem mw815 : Cond.methodLink "TreeAgentModel" 335 yX12_isThere ∈ gTs := gT 1406 rfl rfl
set_option maxRecDepth 100000 in
theorem mw816 : Cond.methodLink "TreeAgentModel" 339 yX12_nameOf ∈ gTs := gT 1410 rfl rfl
set_option maxRecDepth 100000 in
theorem mw817 : Cond.instanceMethod yX12_nameOf ∈ gTs := gT 1412 rfl rfl
set_option maxRecDepth 100000 in
theorem mw818 : Cond.selects "TreeAgentModel" yX12_nameOf yX12_nameOf ∈ gTs := gT3 (y := yX12_nameOf) (n := 66) 70 rfl rfl
set_option maxRecDepth 100000 in
theorem mw819 : Cond.instanceMethod yX12_isThere ∈ gTs := gT 1408 rfl rfl
set_option maxRecDepth 100000 in
theorem mw820 : Cond.selects "TreeAgentModel" yX12_isThere yX12_isThere ∈ gTs := gT3 (y := yX12_isThere) (n := 66) 69 rfl rfl
set_option maxRecDepth 100000 in
theorem mw821 : Cond.methodLink "TreeAgentModel" 349 yX12_partSize ∈ gTs := gT 1458 rfl rfl
set_option maxRecDepth 100000 in
theorem mw822 : Cond.static yX12_partSize ∈ gTs := gT 1459 rfl rfl
set_option maxRecDepth 100000 in
theorem mw823 : Cond.methodLink "TreeAgentModel" 357 yX12_numberSize ∈ gTs := gT 1444 rfl rfl
set_option maxRecDepth 100000 in
theorem mw824 : Cond.static yX12_numberSize ∈ gTs := gT 1445 rfl rfl
set_option maxRecDepth 100000 in
theorem mw825 : Cond.methodLink "TreeAgentModel" 353 yX12_nameOctets ∈ gTs := gT 1455 rfl rfl
set_option maxRecDepth 100000 in
theorem mw826 : Cond.static yX12_nameOctets ∈ gTs := gT 1456 rfl rfl
set_option maxRecDepth 100000 in
theorem mw827 : Cond.methodLink "TreeAgentModel" 361 yX12_around ∈ gTs := gT 1437 rfl rfl
set_option maxRecDepth 100000 in
theorem mw828 : Cond.methodLink "TreeAgentModel" 364 yX12_valueOctets ∈ gTs := gT 1461 rfl rfl
set_option maxRecDepth 100000 in
theorem mw829 : Cond.static yX12_around ∈ gTs := gT 1438 rfl rfl
set_option maxRecDepth 100000 in
theorem mw830 : Cond.instanceMethod yX12_valueOctets ∈ gTs := gT 1463 rfl rfl
set_option maxRecDepth 100000 in
theorem mw831 : Cond.selects "TreeAgentModel" yX12_valueOctets yX12_valueOctets ∈ gTs := gT3 (y := yX12_valueOctets) (n := 66) 79 rfl rfl
set_option maxRecDepth 100000 in
theorem mw832 : Cond.methodLink "TreeAgentModel" 367 yX12_rowOctets ∈ gTs := gT 1451 rfl rfl
set_option maxRecDepth 100000 in
theorem mw833 : Cond.instanceMethod yX12_rowOctets ∈ gTs := gT 1453 rfl rfl
set_option maxRecDepth 100000 in
theorem mw834 : Cond.selects "TreeAgentModel" yX12_rowOctets yX12_rowOctets ∈ gTs := gT3 (y := yX12_rowOctets) (n := 66) 78 rfl rfl
set_option maxRecDepth 100000 in
theorem mw835 : Cond.fieldLink "TreeAgentModel" 370 "TreeAgentModel" "error" "I" ∈ gTs := gT 1086 rfl rfl
set_option maxRecDepth 100000 in
theorem mw836 : Cond.fieldLink "TreeAgentModel" 373 "TreeAgentModel" "index" "I" ∈ gTs := gT 1087 rfl rfl
set_option maxRecDepth 100000 in
theorem mw837 : Cond.methodLink "TreeAgentModel" 376 yX12_rowsOctets ∈ gTs := gT 1447 rfl rfl
set_option maxRecDepth 100000 in
theorem mw838 : Cond.instanceMethod yX12_rowsOctets ∈ gTs := gT 1449 rfl rfl
set_option maxRecDepth 100000 in
theorem mw839 : Cond.selects "TreeAgentModel" yX12_rowsOctets yX12_rowsOctets ∈ gTs := gT3 (y := yX12_rowsOctets) (n := 66) 77 rfl rfl
set_option maxRecDepth 100000 in
theorem mw840 : Cond.methodLink "TreeAgentModel" 379 yX12_bodyOctets ∈ gTs := gT 1440 rfl rfl
set_option maxRecDepth 100000 in
theorem mw841 : Cond.instanceMethod yX12_bodyOctets ∈ gTs := gT 1442 rfl rfl
set_option maxRecDepth 100000 in
theorem mw842 : Cond.selects "TreeAgentModel" yX12_bodyOctets yX12_bodyOctets ∈ gTs := gT3 (y := yX12_bodyOctets) (n := 66) 76 rfl rfl
set_option maxRecDepth 100000 in
theorem mw843 : Cond.fieldLink "TreeAgentModel" 382 "TreeAgentModel" "madeSize" "I" ∈ gTs := gT 1094 rfl rfl
set_option maxRecDepth 100000 in
theorem mw844 : Cond.methodLink "TreeAgentModel" 385 yX12_put ∈ gTs := gT 1503 rfl rfl
set_option maxRecDepth 100000 in
theorem mw845 : Cond.instanceMethod yX12_put ∈ gTs := gT 1505 rfl rfl
set_option maxRecDepth 100000 in
theorem mw846 : Cond.selects "TreeAgentModel" yX12_put yX12_put ∈ gTs := gT3 (y := yX12_put) (n := 66) 89 rfl rfl
set_option maxRecDepth 100000 in
theorem mw847 : Cond.methodLink "TreeAgentModel" 388 yX12_head ∈ gTs := gT 1499 rfl rfl
set_option maxRecDepth 100000 in
theorem mw848 : Cond.instanceMethod yX12_head ∈ gTs := gT 1501 rfl rfl
set_option maxRecDepth 100000 in
theorem mw849 : Cond.selects "TreeAgentModel" yX12_head yX12_head ∈ gTs := gT3 (y := yX12_head) (n := 66) 88 rfl rfl
set_option maxRecDepth 100000 in
theorem mw850 : Cond.methodLink "TreeAgentModel" 395 yX12_writeNumber ∈ gTs := gT 1507 rfl rfl
set_option maxRecDepth 100000 in
theorem mw851 : Cond.instanceMethod yX12_writeNumber ∈ gTs := gT 1509 rfl rfl
set_option maxRecDepth 100000 in
theorem mw852 : Cond.selects "TreeAgentModel" yX12_writeNumber yX12_writeNumber ∈ gTs := gT3 (y := yX12_writeNumber) (n := 66) 90 rfl rfl
set_option maxRecDepth 100000 in
theorem mw853 : Cond.methodLink "TreeAgentModel" 391 yX12_names ∈ gTs := gT 1511 rfl rfl
set_option maxRecDepth 100000 in
theorem mw854 : Cond.instanceMethod yX12_names ∈ gTs := gT 1513 rfl rfl
set_option maxRecDepth 100000 in
theorem mw855 : Cond.selects "TreeAgentModel" yX12_names yX12_names ∈ gTs := gT3 (y := yX12_names) (n := 66) 91 rfl rfl
set_option maxRecDepth 100000 in
theorem mw856 : Cond.fieldLink "TreeAgentModel" 402 "TreeAgentModel" "answerSize" "I" ∈ gTs := gT 1095 rfl rfl
set_option maxRecDepth 100000 in
theorem mw857 : Cond.methodLink "TreeAgentModel" 399 yX12_writeValue ∈ gTs := gT 1515 rfl rfl
set_option maxRecDepth 100000 in
theorem mw858 : Cond.instanceMethod yX12_writeValue ∈ gTs := gT 1517 rfl rfl
set_option maxRecDepth 100000 in
theorem mw859 : Cond.selects "TreeAgentModel" yX12_writeValue yX12_writeValue ∈ gTs := gT3 (y := yX12_writeValue) (n := 66) 92 rfl rfl
set_option maxRecDepth 100000 in
theorem mw860 : Cond.fieldLink "TreeAgentModel" 405 "TreeAgentModel" "told" "I" ∈ gTs := gT 1077 rfl rfl
set_option maxRecDepth 100000 in
theorem mw861 : Cond.methodLink "TreeAgentModel" 408 yX12_next ∈ gTs := gT 1402 rfl rfl
set_option maxRecDepth 100000 in
theorem mw862 : Cond.methodLink "TreeAgentModel" 411 yX12_allOctets ∈ gTs := gT 1433 rfl rfl
set_option maxRecDepth 100000 in
theorem mw863 : Cond.instanceMethod yX12_allOctets ∈ gTs := gT 1435 rfl rfl
set_option maxRecDepth 100000 in
theorem mw864 : Cond.selects "TreeAgentModel" yX12_allOctets yX12_allOctets ∈ gTs := gT3 (y := yX12_allOctets) (n := 66) 75 rfl rfl
set_option maxRecDepth 100000 in
theorem mw865 : Cond.instanceMethod yX12_next ∈ gTs := gT 1404 rfl rfl
set_option maxRecDepth 100000 in
theorem mw866 : Cond.selects "TreeAgentModel" yX12_next yX12_next ∈ gTs := gT3 (y := yX12_next) (n := 66) 68 rfl rfl
set_option maxRecDepth 100000 in
theorem mw867 : Cond.methodLink "TreeAgentModel" 414 yX12_oneMore ∈ gTs := gT 1398 rfl rfl
set_option maxRecDepth 100000 in
theorem mw868 : Cond.instanceMethod yX12_oneMore ∈ gTs := gT 1400 rfl rfl
set_option maxRecDepth 100000 in
theorem mw869 : Cond.selects "TreeAgentModel" yX12_oneMore yX12_oneMore ∈ gTs := gT3 (y := yX12_oneMore) (n := 66) 67 rfl rfl
set_option maxRecDepth 100000 in
theorem mw870 : Cond.constantLong "TreeAgentModel" 417 (5) ∈ gTs := gT 1485 rfl rfl
set_option maxRecDepth 100000 in
theorem mw871 : Cond.methodLink "TreeAgentModel" 419 yX12_fail ∈ gTs := gT 1473 rfl rfl
set_option maxRecDepth 100000 in
theorem mw872 : Cond.instanceMethod yX12_fail ∈ gTs := gT 1475 rfl rfl
set_option maxRecDepth 100000 in
theorem mw873 : Cond.selects "TreeAgentModel" yX12_fail yX12_fail ∈ gTs := gT3 (y := yX12_fail) (n := 66) 82 rfl rfl
set_option maxRecDepth 100000 in
theorem mw874 : Cond.constantLong "TreeAgentModel" 429 (3) ∈ gTs := gT 1486 rfl rfl
set_option maxRecDepth 100000 in
theorem mw875 : Cond.methodLink "TreeAgentModel" 425 yX12_isMaking ∈ gTs := gT 1481 rfl rfl
set_option maxRecDepth 100000 in
theorem mw876 : Cond.instanceMethod yX12_isMaking ∈ gTs := gT 1483 rfl rfl
set_option maxRecDepth 100000 in
theorem mw877 : Cond.selects "TreeAgentModel" yX12_isMaking yX12_isMaking ∈ gTs := gT3 (y := yX12_isMaking) (n := 66) 84 rfl rfl
set_option maxRecDepth 100000 in
theorem mw878 : Cond.methodLink "TreeAgentModel" 422 yX12_checkPlace ∈ gTs := gT 1477 rfl rfl
set_option maxRecDepth 100000 in
theorem mw879 : Cond.instanceMethod yX12_checkPlace ∈ gTs := gT 1479 rfl rfl
set_option maxRecDepth 100000 in
theorem mw880 : Cond.selects "TreeAgentModel" yX12_checkPlace yX12_checkPlace ∈ gTs := gT3 (y := yX12_checkPlace) (n := 66) 83 rfl rfl
set_option maxRecDepth 100000 in
theorem mw881 : Cond.methodLink "TreeAgentModel" 431 yX12_get ∈ gTs := gT 1491 rfl rfl
set_option maxRecDepth 100000 in
theorem mw882 : Cond.instanceMethod yX12_get ∈ gTs := gT 1493 rfl rfl
set_option maxRecDepth 100000 in
theorem mw883 : Cond.selects "TreeAgentModel" yX12_get yX12_get ∈ gTs := gT3 (y := yX12_get) (n := 66) 86 rfl rfl
set_option maxRecDepth 100000 in
theorem mw884 : Cond.methodLink "TreeAgentModel" 446 yX12_write ∈ gTs := gT 1495 rfl rfl
set_option maxRecDepth 100000 in
theorem mw885 : Cond.methodLink "TreeAgentModel" 449 yX12_carryOut ∈ gTs := gT 1519 rfl rfl
set_option maxRecDepth 100000 in
theorem mw886 : Cond.instanceMethod yX12_carryOut ∈ gTs := gT 1521 rfl rfl
set_option maxRecDepth 100000 in
theorem mw887 : Cond.selects "TreeAgentModel" yX12_carryOut yX12_carryOut ∈ gTs := gT3 (y := yX12_carryOut) (n := 66) 93 rfl rfl
set_option maxRecDepth 100000 in
theorem mw888 : Cond.instanceMethod yX12_write ∈ gTs := gT 1497 rfl rfl
set_option maxRecDepth 100000 in
theorem mw889 : Cond.selects "TreeAgentModel" yX12_write yX12_write ∈ gTs := gT3 (y := yX12_write) (n := 66) 87 rfl rfl
set_option maxRecDepth 100000 in
theorem mw890 : Cond.methodLink "TreeAgentModel" 440 yX12_check ∈ gTs := gT 1465 rfl rfl
set_option maxRecDepth 100000 in
theorem mw891 : Cond.instanceMethod yX12_check ∈ gTs := gT 1467 rfl rfl
set_option maxRecDepth 100000 in
theorem mw892 : Cond.selects "TreeAgentModel" yX12_check yX12_check ∈ gTs := gT3 (y := yX12_check) (n := 66) 80 rfl rfl
set_option maxRecDepth 100000 in
theorem mw893 : Cond.methodLink "TreeAgentModel" 434 yX12_readAll ∈ gTs := gT 1353 rfl rfl
set_option maxRecDepth 100000 in
theorem mw894 : Cond.methodLink "TreeAgentModel" 443 yX12_find ∈ gTs := gT 1487 rfl rfl
set_option maxRecDepth 100000 in
theorem mw895 : Cond.instanceMethod yX12_find ∈ gTs := gT 1489 rfl rfl
set_option maxRecDepth 100000 in
theorem mw896 : Cond.selects "TreeAgentModel" yX12_find yX12_find ∈ gTs := gT3 (y := yX12_find) (n := 66) 85 rfl rfl
set_option maxRecDepth 100000 in
theorem mw897 : Cond.methodLink "TreeAgentModel" 437 yX12_many ∈ gTs := gT 1394 rfl rfl
set_option maxRecDepth 100000 in
theorem mw898 : Cond.instanceMethod yX12_many ∈ gTs := gT 1396 rfl rfl
set_option maxRecDepth 100000 in
theorem mw899 : Cond.selects "TreeAgentModel" yX12_many yX12_many ∈ gTs := gT3 (y := yX12_many) (n := 66) 66 rfl rfl
set_option maxRecDepth 100000 in
theorem mw900 : Cond.instanceMethod yX12_readAll ∈ gTs := gT 1355 rfl rfl
set_option maxRecDepth 100000 in
theorem mw901 : Cond.selects "TreeAgentModel" yX12_readAll yX12_readAll ∈ gTs := gT3 (y := yX12_readAll) (n := 66) 57 rfl rfl
set_option maxRecDepth 100000 in
theorem mw902 : Cond.constantLong "TreeAgentModel" 452 (7) ∈ gTs := gT 1531 rfl rfl
set_option maxRecDepth 100000 in
theorem mw903 : Cond.methodLink "TreeAgentLaw" 45 yX11_row ∈ gTs := gT 524 rfl rfl
set_option maxRecDepth 100000 in
theorem mw904 : Cond.methodLink "TreeAgentLaw" 49 yX12_row ∈ gTs := gT 1289 rfl rfl
set_option maxRecDepth 100000 in
theorem mw905 : Cond.instanceMethod yX12_row ∈ gTs := gT 1290 rfl rfl
set_option maxRecDepth 100000 in
theorem mw906 : Cond.selects "TreeAgentModel" yX12_row yX12_row ∈ gTs := gT 1291 rfl rfl
set_option maxRecDepth 100000 in
theorem mw907 : Cond.instanceMethod yX11_row ∈ gTs := gT 525 rfl rfl
set_option maxRecDepth 100000 in
theorem mw908 : Cond.selects "TreeAgent" yX11_row yX11_row ∈ gTs := gT 526 rfl rfl
set_option maxRecDepth 100000 in
theorem mw909 : Cond.methodLink "TreeAgentLaw" 63 yX11_community ∈ gTs := gT 593 rfl rfl
set_option maxRecDepth 100000 in
theorem mw910 : Cond.methodLink "TreeAgentLaw" 67 yX12_community ∈ gTs := gT 1325 rfl rfl
set_option maxRecDepth 100000 in
theorem mw911 : Cond.instanceMethod yX12_community ∈ gTs := gT 1326 rfl rfl
set_option maxRecDepth 100000 in
theorem mw912 : Cond.selects "TreeAgentModel" yX12_community yX12_community ∈ gTs := gT 1327 rfl rfl
set_option maxRecDepth 100000 in
theorem mw913 : Cond.instanceMethod yX11_community ∈ gTs := gT 594 rfl rfl
set_option maxRecDepth 100000 in
theorem mw914 : Cond.selects "TreeAgent" yX11_community yX11_community ∈ gTs := gT 595 rfl rfl
set_option maxRecDepth 100000 in
theorem mw915 : Cond.methodLink "TreeAgentLaw" 68 yX11_view ∈ gTs := gT 638 rfl rfl
set_option maxRecDepth 100000 in
theorem mw916 : Cond.methodLink "TreeAgentLaw" 72 yX12_view ∈ gTs := gT 1333 rfl rfl
set_option maxRecDepth 100000 in
theorem mw917 : Cond.instanceMethod yX12_view ∈ gTs := gT 1334 rfl rfl
set_option maxRecDepth 100000 in
theorem mw918 : Cond.selects "TreeAgentModel" yX12_view yX12_view ∈ gTs := gT 1335 rfl rfl
set_option maxRecDepth 100000 in
theorem mw919 : Cond.instanceMethod yX11_view ∈ gTs := gT 639 rfl rfl
set_option maxRecDepth 100000 in
theorem mw920 : Cond.selects "TreeAgent" yX11_view yX11_view ∈ gTs := gT 640 rfl rfl
set_option maxRecDepth 100000 in
theorem mw921 : Cond.constantLong "TreeAgentLaw" 13 (4294967295) ∈ gTs := gT 1544 rfl rfl
set_option maxRecDepth 100000 in
theorem mw922 : Cond.methodLink "TreeAgentLaw" 15 yX11_feed ∈ gTs := gT 289 rfl rfl
set_option maxRecDepth 100000 in
theorem mw923 : Cond.methodLink "TreeAgentLaw" 19 yX12_feed ∈ gTs := gT 1230 rfl rfl
set_option maxRecDepth 100000 in
theorem mw924 : Cond.instanceMethod yX12_feed ∈ gTs := gT 1231 rfl rfl
set_option maxRecDepth 100000 in
theorem mw925 : Cond.selects "TreeAgentModel" yX12_feed yX12_feed ∈ gTs := gT 1232 rfl rfl
set_option maxRecDepth 100000 in
theorem mw926 : Cond.instanceMethod yX11_feed ∈ gTs := gT 290 rfl rfl
set_option maxRecDepth 100000 in
theorem mw927 : Cond.selects "TreeAgent" yX11_feed yX11_feed ∈ gTs := gT 291 rfl rfl
set_option maxRecDepth 100000 in
theorem mw928 : Cond.methodLink "TreeAgentLaw" 20 yX11_number ∈ gTs := gT 306 rfl rfl
set_option maxRecDepth 100000 in
theorem mw929 : Cond.methodLink "TreeAgentLaw" 24 yX12_number ∈ gTs := gT 1238 rfl rfl
set_option maxRecDepth 100000 in
theorem mw930 : Cond.instanceMethod yX12_number ∈ gTs := gT 1239 rfl rfl
set_option maxRecDepth 100000 in
theorem mw931 : Cond.selects "TreeAgentModel" yX12_number yX12_number ∈ gTs := gT 1240 rfl rfl
set_option maxRecDepth 100000 in
theorem mw932 : Cond.instanceMethod yX11_number ∈ gTs := gT 307 rfl rfl
set_option maxRecDepth 100000 in
theorem mw933 : Cond.selects "TreeAgent" yX11_number yX11_number ∈ gTs := gT 308 rfl rfl
set_option maxRecDepth 100000 in
theorem mw934 : Cond.methodLink "TreeAgentLaw" 25 yX11_scalar ∈ gTs := gT 317 rfl rfl
set_option maxRecDepth 100000 in
theorem mw935 : Cond.methodLink "TreeAgentLaw" 29 yX12_scalar ∈ gTs := gT 1246 rfl rfl
set_option maxRecDepth 100000 in
theorem mw936 : Cond.instanceMethod yX12_scalar ∈ gTs := gT 1247 rfl rfl
set_option maxRecDepth 100000 in
theorem mw937 : Cond.selects "TreeAgentModel" yX12_scalar yX12_scalar ∈ gTs := gT 1248 rfl rfl
set_option maxRecDepth 100000 in
theorem mw938 : Cond.instanceMethod yX11_scalar ∈ gTs := gT 318 rfl rfl
set_option maxRecDepth 100000 in
theorem mw939 : Cond.selects "TreeAgent" yX11_scalar yX11_scalar ∈ gTs := gT 319 rfl rfl
set_option maxRecDepth 100000 in
theorem mw940 : Cond.methodLink "TreeAgentLaw" 30 yX11_table ∈ gTs := gT 432 rfl rfl
set_option maxRecDepth 100000 in
theorem mw941 : Cond.methodLink "TreeAgentLaw" 34 yX12_table ∈ gTs := gT 1271 rfl rfl
set_option maxRecDepth 100000 in
theorem mw942 : Cond.instanceMethod yX12_table ∈ gTs := gT 1272 rfl rfl
set_option maxRecDepth 100000 in
theorem mw943 : Cond.selects "TreeAgentModel" yX12_table yX12_table ∈ gTs := gT 1273 rfl rfl
set_option maxRecDepth 100000 in
theorem mw944 : Cond.instanceMethod yX11_table ∈ gTs := gT 433 rfl rfl
set_option maxRecDepth 100000 in
theorem mw945 : Cond.selects "TreeAgent" yX11_table yX11_table ∈ gTs := gT 434 rfl rfl
set_option maxRecDepth 100000 in
theorem mw946 : Cond.methodLink "TreeAgentLaw" 35 yX11_column ∈ gTs := gT 482 rfl rfl
set_option maxRecDepth 100000 in
theorem mw947 : Cond.methodLink "TreeAgentLaw" 39 yX12_column ∈ gTs := gT 1276 rfl rfl
set_option maxRecDepth 100000 in
theorem mw948 : Cond.instanceMethod yX12_column ∈ gTs := gT 1277 rfl rfl
set_option maxRecDepth 100000 in
theorem mw949 : Cond.selects "TreeAgentModel" yX12_column yX12_column ∈ gTs := gT 1278 rfl rfl
set_option maxRecDepth 100000 in
theorem mw950 : Cond.instanceMethod yX11_column ∈ gTs := gT 483 rfl rfl
set_option maxRecDepth 100000 in
theorem mw951 : Cond.selects "TreeAgent" yX11_column yX11_column ∈ gTs := gT 484 rfl rfl
set_option maxRecDepth 100000 in
theorem mw952 : Cond.methodLink "TreeAgentLaw" 40 yX11_status ∈ gTs := gT 518 rfl rfl
set_option maxRecDepth 100000 in
theorem mw953 : Cond.methodLink "TreeAgentLaw" 44 yX12_status ∈ gTs := gT 1284 rfl rfl
set_option maxRecDepth 100000 in
theorem mw954 : Cond.instanceMethod yX12_status ∈ gTs := gT 1285 rfl rfl
set_option maxRecDepth 100000 in
theorem mw955 : Cond.selects "TreeAgentModel" yX12_status yX12_status ∈ gTs := gT 1286 rfl rfl
set_option maxRecDepth 100000 in
theorem mw956 : Cond.instanceMethod yX11_status ∈ gTs := gT 519 rfl rfl
set_option maxRecDepth 100000 in
theorem mw957 : Cond.selects "TreeAgent" yX11_status yX11_status ∈ gTs := gT 520 rfl rfl
set_option maxRecDepth 100000 in
theorem mw958 : Cond.methodLink "TreeAgentLaw" 50 yX11_value ∈ gTs := gT 550 rfl rfl
set_option maxRecDepth 100000 in
theorem mw959 : Cond.methodLink "TreeAgentLaw" 54 yX12_value ∈ gTs := gT 1305 rfl rfl
set_option maxRecDepth 100000 in
theorem mw960 : Cond.instanceMethod yX12_value ∈ gTs := gT 1306 rfl rfl
set_option maxRecDepth 100000 in
theorem mw961 : Cond.selects "TreeAgentModel" yX12_value yX12_value ∈ gTs := gT 1307 rfl rfl
set_option maxRecDepth 100000 in
theorem mw962 : Cond.instanceMethod yX11_value ∈ gTs := gT 551 rfl rfl
set_option maxRecDepth 100000 in
theorem mw963 : Cond.selects "TreeAgent" yX11_value yX11_value ∈ gTs := gT 552 rfl rfl
set_option maxRecDepth 100000 in
theorem mw964 : Cond.methodLink "TreeAgentLaw" 55 yX11_text ∈ gTs := gT 573 rfl rfl
set_option maxRecDepth 100000 in
theorem mw965 : Cond.methodLink "TreeAgentLaw" 58 yX12_text ∈ gTs := gT 1316 rfl rfl
set_option maxRecDepth 100000 in
theorem mw966 : Cond.instanceMethod yX12_text ∈ gTs := gT 1317 rfl rfl
set_option maxRecDepth 100000 in
theorem mw967 : Cond.selects "TreeAgentModel" yX12_text yX12_text ∈ gTs := gT 1318 rfl rfl
set_option maxRecDepth 100000 in
theorem mw968 : Cond.instanceMethod yX11_text ∈ gTs := gT 574 rfl rfl
set_option maxRecDepth 100000 in
theorem mw969 : Cond.selects "TreeAgent" yX11_text yX11_text ∈ gTs := gT 575 rfl rfl
set_option maxRecDepth 100000 in
theorem mw970 : Cond.methodLink "TreeAgentLaw" 59 yX11_identity ∈ gTs := gT 585 rfl rfl
set_option maxRecDepth 100000 in
theorem mw971 : Cond.methodLink "TreeAgentLaw" 62 yX12_identity ∈ gTs := gT 1320 rfl rfl
set_option maxRecDepth 100000 in
theorem mw972 : Cond.instanceMethod yX12_identity ∈ gTs := gT 1321 rfl rfl
set_option maxRecDepth 100000 in
theorem mw973 : Cond.selects "TreeAgentModel" yX12_identity yX12_identity ∈ gTs := gT 1322 rfl rfl
set_option maxRecDepth 100000 in
theorem mw974 : Cond.instanceMethod yX11_identity ∈ gTs := gT 586 rfl rfl
set_option maxRecDepth 100000 in
theorem mw975 : Cond.selects "TreeAgent" yX11_identity yX11_identity ∈ gTs := gT 587 rfl rfl
set_option maxRecDepth 100000 in
theorem mw976 : Cond.methodLink "TreeAgentLaw" 73 yX11_limit ∈ gTs := gT 654 rfl rfl
set_option maxRecDepth 100000 in
theorem mw977 : Cond.methodLink "TreeAgentLaw" 77 yX12_limit ∈ gTs := gT 1337 rfl rfl
set_option maxRecDepth 100000 in
theorem mw978 : Cond.instanceMethod yX12_limit ∈ gTs := gT 1338 rfl rfl
set_option maxRecDepth 100000 in
theorem mw979 : Cond.selects "TreeAgentModel" yX12_limit yX12_limit ∈ gTs := gT 1339 rfl rfl
set_option maxRecDepth 100000 in
theorem mw980 : Cond.instanceMethod yX11_limit ∈ gTs := gT 655 rfl rfl
set_option maxRecDepth 100000 in
theorem mw981 : Cond.selects "TreeAgent" yX11_limit yX11_limit ∈ gTs := gT 656 rfl rfl
set_option maxRecDepth 100000 in
theorem mw982 : Cond.methodLink "TreeAgentLaw" 78 yX11_tick ∈ gTs := gT 658 rfl rfl
set_option maxRecDepth 100000 in
theorem mw983 : Cond.methodLink "TreeAgentLaw" 82 yX12_tick ∈ gTs := gT 1343 rfl rfl
set_option maxRecDepth 100000 in
theorem mw984 : Cond.instanceMethod yX12_tick ∈ gTs := gT 1344 rfl rfl
set_option maxRecDepth 100000 in
theorem mw985 : Cond.selects "TreeAgentModel" yX12_tick yX12_tick ∈ gTs := gT 1345 rfl rfl
set_option maxRecDepth 100000 in
theorem mw986 : Cond.instanceMethod yX11_tick ∈ gTs := gT 659 rfl rfl
set_option maxRecDepth 100000 in
theorem mw987 : Cond.selects "TreeAgent" yX11_tick yX11_tick ∈ gTs := gT 660 rfl rfl
set_option maxRecDepth 100000 in
theorem mw988 : Cond.methodLink "TreeAgentLaw" 83 yX11_question ∈ gTs := gT 664 rfl rfl
set_option maxRecDepth 100000 in
theorem mw989 : Cond.methodLink "TreeAgentLaw" 86 yX12_question ∈ gTs := gT 1349 rfl rfl
set_option maxRecDepth 100000 in
theorem mw990 : Cond.instanceMethod yX12_question ∈ gTs := gT 1350 rfl rfl
set_option maxRecDepth 100000 in
theorem mw991 : Cond.selects "TreeAgentModel" yX12_question yX12_question ∈ gTs := gT 1351 rfl rfl
set_option maxRecDepth 100000 in
theorem mw992 : Cond.instanceMethod yX11_question ∈ gTs := gT 665 rfl rfl
set_option maxRecDepth 100000 in
theorem mw993 : Cond.selects "TreeAgent" yX11_question yX11_question ∈ gTs := gT 666 rfl rfl
set_option maxRecDepth 100000 in
theorem mw994 : Cond.methodLink "TreeAgentLaw" 87 yX11_answer ∈ gTs := gT 1004 rfl rfl
set_option maxRecDepth 100000 in
theorem mw995 : Cond.methodLink "TreeAgentLaw" 90 yX12_answer ∈ gTs := gT 1523 rfl rfl
set_option maxRecDepth 100000 in
theorem mw996 : Cond.instanceMethod yX12_answer ∈ gTs := gT 1524 rfl rfl
set_option maxRecDepth 100000 in
theorem mw997 : Cond.selects "TreeAgentModel" yX12_answer yX12_answer ∈ gTs := gT 1525 rfl rfl
set_option maxRecDepth 100000 in
theorem mw998 : Cond.instanceMethod yX11_answer ∈ gTs := gT 1005 rfl rfl
set_option maxRecDepth 100000 in
theorem mw999 : Cond.selects "TreeAgent" yX11_answer yX11_answer ∈ gTs := gT 1006 rfl rfl
set_option maxRecDepth 100000 in
theorem mw1000 : Cond.methodLink "TreeAgentLaw" 91 yX11_count ∈ gTs := gT 1008 rfl rfl
set_option maxRecDepth 100000 in
theorem mw1001 : Cond.methodLink "TreeAgentLaw" 94 yX12_count ∈ gTs := gT 1527 rfl rfl
set_option maxRecDepth 100000 in
theorem mw1002 : Cond.instanceMethod yX12_count ∈ gTs := gT 1528 rfl rfl
set_option maxRecDepth 100000 in
theorem mw1003 : Cond.selects "TreeAgentModel" yX12_count yX12_count ∈ gTs := gT 1529 rfl rfl
set_option maxRecDepth 100000 in
theorem mw1004 : Cond.instanceMethod yX11_count ∈ gTs := gT 1009 rfl rfl
set_option maxRecDepth 100000 in
theorem mw1005 : Cond.selects "TreeAgent" yX11_count yX11_count ∈ gTs := gT 1010 rfl rfl
set_option maxRecDepth 100000 in
theorem mw1006 : Cond.methodLink "TreeAgentLaw" 95 yX11_rows ∈ gTs := gT 1012 rfl rfl
set_option maxRecDepth 100000 in
theorem mw1007 : Cond.methodLink "TreeAgentLaw" 98 yX12_rows ∈ gTs := gT 1532 rfl rfl
set_option maxRecDepth 100000 in
theorem mw1008 : Cond.instanceMethod yX12_rows ∈ gTs := gT 1533 rfl rfl
set_option maxRecDepth 100000 in
theorem mw1009 : Cond.selects "TreeAgentModel" yX12_rows yX12_rows ∈ gTs := gT 1534 rfl rfl
set_option maxRecDepth 100000 in
theorem mw1010 : Cond.instanceMethod yX11_rows ∈ gTs := gT 1013 rfl rfl
set_option maxRecDepth 100000 in
theorem mw1011 : Cond.selects "TreeAgent" yX11_rows yX11_rows ∈ gTs := gT 1014 rfl rfl
set_option maxRecDepth 100000 in
theorem mw1012 : Cond.methodLink "TreeAgentLaw" 99 yX11_told ∈ gTs := gT 1016 rfl rfl
set_option maxRecDepth 100000 in
theorem mw1013 : Cond.methodLink "TreeAgentLaw" 103 yX12_told ∈ gTs := gT 1536 rfl rfl
set_option maxRecDepth 100000 in
theorem mw1014 : Cond.instanceMethod yX12_told ∈ gTs := gT 1537 rfl rfl
set_option maxRecDepth 100000 in
theorem mw1015 : Cond.selects "TreeAgentModel" yX12_told yX12_told ∈ gTs := gT 1538 rfl rfl
set_option maxRecDepth 100000 in
theorem mw1016 : Cond.instanceMethod yX11_told ∈ gTs := gT 1017 rfl rfl
set_option maxRecDepth 100000 in
theorem mw1017 : Cond.selects "TreeAgent" yX11_told yX11_told ∈ gTs := gT 1018 rfl rfl
set_option maxRecDepth 100000 in
theorem mw1018 : Cond.methodLink "TreeAgentLaw" 104 yX11_part ∈ gTs := gT 1020 rfl rfl
set_option maxRecDepth 100000 in
theorem mw1019 : Cond.methodLink "TreeAgentLaw" 108 yX12_part ∈ gTs := gT 1540 rfl rfl
set_option maxRecDepth 100000 in
theorem mw1020 : Cond.instanceMethod yX12_part ∈ gTs := gT 1541 rfl rfl
set_option maxRecDepth 100000 in
theorem mw1021 : Cond.selects "TreeAgentModel" yX12_part yX12_part ∈ gTs := gT 1542 rfl rfl
set_option maxRecDepth 100000 in
theorem mw1022 : Cond.instanceMethod yX11_part ∈ gTs := gT 1021 rfl rfl
set_option maxRecDepth 100000 in
theorem mw1023 : Cond.selects "TreeAgent" yX11_part yX11_part ∈ gTs := gT 1022 rfl rfl
set_option maxRecDepth 100000 in
theorem mw1024 : Cond.methodLink "TreeAgentLaw" 9 yX11_init ∈ gTs := gT 17 rfl rfl
set_option maxRecDepth 100000 in
theorem mw1025 : Cond.methodLink "TreeAgentLaw" 12 yX12_init ∈ gTs := gT 1026 rfl rfl
set_option maxRecDepth 100000 in
theorem mw1026 : Cond.instanceMethod yX12_init ∈ gTs := gT 1027 rfl rfl
set_option maxRecDepth 100000 in
theorem mw1027 : Cond.classLink "TreeAgentLaw" 10 "TreeAgentModel" ∈ gTs := gT 1024 rfl rfl
set_option maxRecDepth 100000 in
theorem mw1028 : Cond.instantiable "TreeAgentModel" 66 ∈ gTs := gT 1025 rfl rfl
set_option maxRecDepth 100000 in
theorem mw1029 : Cond.initialized "TreeAgentModel" ∈ gTs := gT 11 rfl rfl
set_option maxRecDepth 100000 in
theorem mw1030 : Cond.instanceMethod yX11_init ∈ gTs := gT 18 rfl rfl
set_option maxRecDepth 100000 in
theorem mw1031 : Cond.classLink "TreeAgentLaw" 7 "TreeAgent" ∈ gTs := gT 15 rfl rfl
set_option maxRecDepth 100000 in
theorem mw1032 : Cond.instantiable "TreeAgent" 17 ∈ gTs := gT 16 rfl rfl
set_option maxRecDepth 100000 in
theorem mw1033 : Cond.initialized "TreeAgent" ∈ gTs := gT 1 rfl rfl
set_option maxRecDepth 100000 in
theorem mw1034 : Cond.code yX0_init cX0_init 2 none ∈ gTs := gT 27 rfl rfl
set_option maxRecDepth 100000 in
theorem mw1035 : Cond.code yX0_size cX0_size 1 (some .int) ∈ gTs := gT 300 rfl rfl
set_option maxRecDepth 100000 in
theorem mw1036 : Cond.code yX0_at cX0_at 2 (some .long) ∈ gTs := gT 350 rfl rfl
set_option maxRecDepth 100000 in
theorem mw1037 : Cond.code yX0_add cX0_add 3 (some .boolean) ∈ gTs := gT 305 rfl rfl
set_option maxRecDepth 100000 in
theorem mw1038 : Cond.code yX0_clear cX0_clear 1 none ∈ gTs := gT 296 rfl rfl
set_option maxRecDepth 100000 in
theorem mw1039 : Cond.code yX0_copy cX0_copy 3 none ∈ gTs := gT 371 rfl rfl
set_option maxRecDepth 100000 in
theorem mw1040 : Cond.code yX0_beginsWith cX0_beginsWith 3 (some .boolean) ∈ gTs := gT 346 rfl rfl
set_option maxRecDepth 100000 in
theorem mw1041 : Cond.code yX0_isSame cX0_isSame 2 (some .boolean) ∈ gTs := gT 608 rfl rfl
set_option maxRecDepth 100000 in
theorem mw1042 : Cond.code yX0_isLess cX0_isLess 4 (some .boolean) ∈ gTs := gT 428 rfl rfl
set_option maxRecDepth 100000 in
theorem mw1043 : Cond.code yX1_init cX1_init 3 none ∈ gTs := gT 193 rfl rfl
set_option maxRecDepth 100000 in
theorem mw1044 : Cond.code yX3_pairAt cX3_pairAt 2 (some (.object "TreeAgent$Pair")) ∈ gTs := gT 729 rfl rfl
set_option maxRecDepth 100000 in
theorem mw1045 : Cond.code yX2_shows cX2_shows 6 (some .boolean) ∈ gTs := gT 775 rfl rfl
set_option maxRecDepth 100000 in
theorem mw1046 : Cond.code yX9_thingAt cX9_thingAt 2 (some (.object "TreeAgent$Thing")) ∈ gTs := gT 342 rfl rfl
set_option maxRecDepth 100000 in
theorem mw1047 : Cond.code yX9_thingFor cX9_thingFor 4 (some (.object "TreeAgent$Thing")) ∈ gTs := gT 771 rfl rfl
set_option maxRecDepth 100000 in
theorem mw1048 : Cond.code yX8_takesLength cX8_takesLength 2 (some .boolean) ∈ gTs := gT 892 rfl rfl
set_option maxRecDepth 100000 in
theorem mw1049 : Cond.code yX8_isStatus cX8_isStatus 1 (some .boolean) ∈ gTs := gT 557 rfl rfl
set_option maxRecDepth 100000 in
theorem mw1050 : Cond.code yX8_takesNumber cX8_takesNumber 3 (some .boolean) ∈ gTs := gT 896 rfl rfl
set_option maxRecDepth 100000 in
theorem mw1051 : Cond.code yX8_takesIndex cX8_takesIndex 4 (some .boolean) ∈ gTs := gT 902 rfl rfl
set_option maxRecDepth 100000 in
theorem mw1052 : Cond.code yX7_slotHolding cX7_slotHolding 4 (some .int) ∈ gTs := gT 535 rfl rfl
set_option maxRecDepth 100000 in
theorem mw1053 : Cond.code yX7_slotOf cX7_slotOf 3 (some .int) ∈ gTs := gT 531 rfl rfl
set_option maxRecDepth 100000 in
theorem mw1054 : Cond.code yX1_indexMade cX1_indexMade 4 (some .long) ∈ gTs := gT 920 rfl rfl
set_option maxRecDepth 100000 in
theorem mw1055 : Cond.code yX1_isMade cX1_isMade 6 (some .boolean) ∈ gTs := gT 917 rfl rfl
set_option maxRecDepth 100000 in
theorem mw1056 : Cond.code yX7_rowCount cX7_rowCount 1 (some .int) ∈ gTs := gT 500 rfl rfl
set_option maxRecDepth 100000 in
theorem mw1057 : Cond.code yX1_madeBefore cX1_madeBefore 5 (some .int) ∈ gTs := gT 929 rfl rfl
set_option maxRecDepth 100000 in
theorem mw1058 : Cond.code yX1_statusFault cX1_statusFault 8 (some .int) ∈ gTs := gT 910 rfl rfl
set_option maxRecDepth 100000 in
theorem mw1059 : Cond.code yX1_faultAt cX1_faultAt 7 (some .int) ∈ gTs := gT 885 rfl rfl
set_option maxRecDepth 100000 in
theorem mw1060 : Cond.code yX8_cellAt cX8_cellAt 2 (some (.object "TreeAgent$Value")) ∈ gTs := gT 548 rfl rfl
set_option maxRecDepth 100000 in
theorem mw1061 : Cond.code yX10_becomeEmpty cX10_becomeEmpty 2 none ∈ gTs := gT 383 rfl rfl
set_option maxRecDepth 100000 in
theorem mw1062 : Cond.code yX10_becomeFirst cX10_becomeFirst 1 none ∈ gTs := gT 379 rfl rfl
set_option maxRecDepth 100000 in
theorem mw1063 : Cond.code yX7_make cX7_make 7 (some .boolean) ∈ gTs := gT 544 rfl rfl
set_option maxRecDepth 100000 in
theorem mw1064 : Cond.code yX1_makeRow cX1_makeRow 5 none ∈ gTs := gT 955 rfl rfl
set_option maxRecDepth 100000 in
theorem mw1065 : Cond.code yX8_cellFor cX8_cellFor 3 (some (.object "TreeAgent$Value")) ∈ gTs := gT 561 rfl rfl
set_option maxRecDepth 100000 in
theorem mw1066 : Cond.code yX10_copy cX10_copy 2 none ∈ gTs := gT 965 rfl rfl
set_option maxRecDepth 100000 in
theorem mw1067 : Cond.code yX7_takeAway cX7_takeAway 4 none ∈ gTs := gT 539 rfl rfl
set_option maxRecDepth 100000 in
theorem mw1068 : Cond.code yX1_setOne cX1_setOne 4 none ∈ gTs := gT 960 rfl rfl
set_option maxRecDepth 100000 in
theorem mw1069 : Cond.code yX1_apply cX1_apply 2 none ∈ gTs := gT 951 rfl rfl
set_option maxRecDepth 100000 in
theorem mw1070 : Cond.code yX2_init cX2_init 3 none ∈ gTs := gT 613 rfl rfl
set_option maxRecDepth 100000 in
theorem mw1071 : Cond.code yX2_viewCount cX2_viewCount 1 (some .int) ∈ gTs := gT 653 rfl rfl
set_option maxRecDepth 100000 in
theorem mw1072 : Cond.code yX2_addView cX2_addView 4 (some .boolean) ∈ gTs := gT 649 rfl rfl
set_option maxRecDepth 100000 in
theorem mw1073 : Cond.code yX10_init cX10_init 3 none ∈ gTs := gT 83 rfl rfl
set_option maxRecDepth 100000 in
theorem mw1074 : Cond.code yX4_init cX4_init 2 none ∈ gTs := gT 112 rfl rfl
set_option maxRecDepth 100000 in
theorem mw1075 : Cond.code yX3_init cX3_init 2 none ∈ gTs := gT 72 rfl rfl
set_option maxRecDepth 100000 in
theorem mw1076 : Cond.code yX5_init cX5_init 2 none ∈ gTs := gT 175 rfl rfl
set_option maxRecDepth 100000 in
theorem mw1077 : Cond.code yX5_readLength cX5_readLength 7 (some .long) ∈ gTs := gT 698 rfl rfl
set_option maxRecDepth 100000 in
theorem mw1078 : Cond.code yX5_enter cX5_enter 5 (some .int) ∈ gTs := gT 693 rfl rfl
set_option maxRecDepth 100000 in
theorem mw1079 : Cond.code yX5_enterLast cX5_enterLast 2 (some .boolean) ∈ gTs := gT 688 rfl rfl
set_option maxRecDepth 100000 in
theorem mw1080 : Cond.code yX11_isNumberOf cX11_isNumberOf 3 (some .boolean) ∈ gTs := gT 570 rfl rfl
set_option maxRecDepth 100000 in
theorem mw1081 : Cond.code yX5_takeNumber cX5_takeNumber 11 (some .boolean) ∈ gTs := gT 710 rfl rfl
set_option maxRecDepth 100000 in
theorem mw1082 : Cond.code yX5_readInteger cX5_readInteger 2 (some .boolean) ∈ gTs := gT 706 rfl rfl
set_option maxRecDepth 100000 in
theorem mw1083 : Cond.code yX5_takeText cX5_takeText 3 (some .boolean) ∈ gTs := gT 716 rfl rfl
set_option maxRecDepth 100000 in
theorem mw1084 : Cond.code yX5_readHead cX5_readHead 3 (some .int) ∈ gTs := gT 684 rfl rfl
set_option maxRecDepth 100000 in
theorem mw1085 : Cond.code yX5_isKind cX5_isKind 2 (some .boolean) ∈ gTs := gT 725 rfl rfl
set_option maxRecDepth 100000 in
theorem mw1086 : Cond.code yX5_addToName cX5_addToName 3 (some .boolean) ∈ gTs := gT 742 rfl rfl
set_option maxRecDepth 100000 in
theorem mw1087 : Cond.code yX5_takeName cX5_takeName 8 (some .boolean) ∈ gTs := gT 737 rfl rfl
set_option maxRecDepth 100000 in
theorem mw1088 : Cond.code yX5_takeAddress cX5_takeAddress 3 (some .boolean) ∈ gTs := gT 753 rfl rfl
set_option maxRecDepth 100000 in
theorem mw1089 : Cond.code yX11_isObjectTag cX11_isObjectTag 1 (some .boolean) ∈ gTs := gT 327 rfl rfl
set_option maxRecDepth 100000 in
theorem mw1090 : Cond.code yX5_readValue cX5_readValue 5 (some .boolean) ∈ gTs := gT 748 rfl rfl
set_option maxRecDepth 100000 in
theorem mw1091 : Cond.code yX5_readPair cX5_readPair 4 (some .boolean) ∈ gTs := gT 733 rfl rfl
set_option maxRecDepth 100000 in
theorem mw1092 : Cond.code yX5_readBody cX5_readBody 4 (some .boolean) ∈ gTs := gT 722 rfl rfl
set_option maxRecDepth 100000 in
theorem mw1093 : Cond.code yX6_init cX6_init 3 none ∈ gTs := gT 206 rfl rfl
set_option maxRecDepth 100000 in
theorem mw1094 : Cond.code yX6_error cX6_error 1 (some .int) ∈ gTs := gT 943 rfl rfl
set_option maxRecDepth 100000 in
theorem mw1095 : Cond.code yX6_pairAt cX6_pairAt 2 (some (.object "TreeAgent$Pair")) ∈ gTs := gT 858 rfl rfl
set_option maxRecDepth 100000 in
theorem mw1096 : Cond.code yX6_fail cX6_fail 3 none ∈ gTs := gT 676 rfl rfl
set_option maxRecDepth 100000 in
theorem mw1097 : Cond.code yX6_clear cX6_clear 1 none ∈ gTs := gT 671 rfl rfl
set_option maxRecDepth 100000 in
theorem mw1098 : Cond.code yX6_sevens cX6_sevens 3 (some .int) ∈ gTs := gT 803 rfl rfl
set_option maxRecDepth 100000 in
theorem mw1099 : Cond.code yX6_nameContent cX6_nameContent 3 (some .int) ∈ gTs := gT 798 rfl rfl
set_option maxRecDepth 100000 in
theorem mw1100 : Cond.code yX6_fieldSize cX6_fieldSize 2 (some .int) ∈ gTs := gT 806 rfl rfl
set_option maxRecDepth 100000 in
theorem mw1101 : Cond.code yX6_numberContent cX6_numberContent 5 (some .int) ∈ gTs := gT 812 rfl rfl
set_option maxRecDepth 100000 in
theorem mw1102 : Cond.code yX6_valueContent cX6_valueContent 1 (some .int) ∈ gTs := gT 809 rfl rfl
set_option maxRecDepth 100000 in
theorem mw1103 : Cond.code yX6_pairContent cX6_pairContent 2 (some .int) ∈ gTs := gT 795 rfl rfl
set_option maxRecDepth 100000 in
theorem mw1104 : Cond.code yX6_tell cX6_tell 4 none ∈ gTs := gT 791 rfl rfl
set_option maxRecDepth 100000 in
theorem mw1105 : Cond.code yX6_tellAsked cX6_tellAsked 4 none ∈ gTs := gT 933 rfl rfl
set_option maxRecDepth 100000 in
theorem mw1106 : Cond.code yX6_integerSize cX6_integerSize 1 (some .int) ∈ gTs := gT 869 rfl rfl
set_option maxRecDepth 100000 in
theorem mw1107 : Cond.code yX6_innerContent cX6_innerContent 4 (some .int) ∈ gTs := gT 873 rfl rfl
set_option maxRecDepth 100000 in
theorem mw1108 : Cond.code yX6_outerContent cX6_outerContent 4 (some .int) ∈ gTs := gT 866 rfl rfl
set_option maxRecDepth 100000 in
theorem mw1109 : Cond.code yX6_sizeFor cX6_sizeFor 2 (some .int) ∈ gTs := gT 947 rfl rfl
set_option maxRecDepth 100000 in
theorem mw1110 : Cond.code yX6_sizeWith cX6_sizeWith 4 (some .int) ∈ gTs := gT 862 rfl rfl
set_option maxRecDepth 100000 in
theorem mw1111 : Cond.code yX6_putHead cX6_putHead 3 none ∈ gTs := gT 975 rfl rfl
set_option maxRecDepth 100000 in
theorem mw1112 : Cond.code yX6_putNumber cX6_putNumber 5 none ∈ gTs := gT 987 rfl rfl
set_option maxRecDepth 100000 in
theorem mw1113 : Cond.code yX6_putInteger cX6_putInteger 3 none ∈ gTs := gT 983 rfl rfl
set_option maxRecDepth 100000 in
theorem mw1114 : Cond.code yX6_putParts cX6_putParts 3 none ∈ gTs := gT 991 rfl rfl
set_option maxRecDepth 100000 in
theorem mw1115 : Cond.code yX6_putName cX6_putName 6 none ∈ gTs := gT 1000 rfl rfl
set_option maxRecDepth 100000 in
theorem mw1116 : Cond.code yX6_putPair cX6_putPair 3 none ∈ gTs := gT 996 rfl rfl
set_option maxRecDepth 100000 in
theorem mw1117 : Cond.code yX6_write cX6_write 4 none ∈ gTs := gT 971 rfl rfl
set_option maxRecDepth 100000 in
theorem mw1118 : Cond.code yX7_init cX7_init 2 none ∈ gTs := gT 448 rfl rfl
set_option maxRecDepth 100000 in
theorem mw1119 : Cond.code yX7_columnCount cX7_columnCount 1 (some .int) ∈ gTs := gT 504 rfl rfl
set_option maxRecDepth 100000 in
theorem mw1120 : Cond.code yX7_hasColumn cX7_hasColumn 4 (some .boolean) ∈ gTs := gT 494 rfl rfl
set_option maxRecDepth 100000 in
theorem mw1121 : Cond.code yX7_addColumn cX7_addColumn 2 none ∈ gTs := gT 517 rfl rfl
set_option maxRecDepth 100000 in
theorem mw1122 : Cond.code yX7_indexAbove cX7_indexAbove 8 (some .long) ∈ gTs := gT 847 rfl rfl
set_option maxRecDepth 100000 in
theorem mw1123 : Cond.code yX8_init cX8_init 12 none ∈ gTs := gT 364 rfl rfl
set_option maxRecDepth 100000 in
theorem mw1124 : Cond.code yX8_tellsClock cX8_tellsClock 1 (some .boolean) ∈ gTs := gT 782 rfl rfl
set_option maxRecDepth 100000 in
theorem mw1125 : Cond.code yX8_indexAbove cX8_indexAbove 3 (some .long) ∈ gTs := gT 843 rfl rfl
set_option maxRecDepth 100000 in
theorem mw1126 : Cond.code yX8_passedBy cX8_passedBy 2 (some .long) ∈ gTs := gT 833 rfl rfl
set_option maxRecDepth 100000 in
theorem mw1127 : Cond.code yX9_init cX9_init 1 none ∈ gTs := gT 44 rfl rfl
set_option maxRecDepth 100000 in
theorem mw1128 : Cond.code yX9_thingCount cX9_thingCount 1 (some .int) ∈ gTs := gT 359 rfl rfl
set_option maxRecDepth 100000 in
theorem mw1129 : Cond.code yX9_tableCount cX9_tableCount 1 (some .int) ∈ gTs := gT 443 rfl rfl
set_option maxRecDepth 100000 in
theorem mw1130 : Cond.code yX9_thingInOrder cX9_thingInOrder 2 (some (.object "TreeAgent$Thing")) ∈ gTs := gT 825 rfl rfl
set_option maxRecDepth 100000 in
theorem mw1131 : Cond.code yX9_tableAt cX9_tableAt 2 (some (.object "TreeAgent$Table")) ∈ gTs := gT 355 rfl rfl
set_option maxRecDepth 100000 in
theorem mw1132 : Cond.code yX9_isTaken cX9_isTaken 4 (some .boolean) ∈ gTs := gT 338 rfl rfl
set_option maxRecDepth 100000 in
theorem mw1133 : Cond.code yX9_putInOrder cX9_putInOrder 5 none ∈ gTs := gT 424 rfl rfl
set_option maxRecDepth 100000 in
theorem mw1134 : Cond.code yX9_addThing cX9_addThing 2 (some .int) ∈ gTs := gT 420 rfl rfl
set_option maxRecDepth 100000 in
theorem mw1135 : Cond.code yX9_addTable cX9_addTable 2 (some .int) ∈ gTs := gT 481 rfl rfl
set_option maxRecDepth 100000 in
theorem mw1136 : Cond.code yX10_isOfParts cX10_isOfParts 1 (some .boolean) ∈ gTs := gT 567 rfl rfl
set_option maxRecDepth 100000 in
theorem mw1137 : Cond.code yX10_isMissing cX10_isMissing 1 (some .boolean) ∈ gTs := gT 786 rfl rfl
set_option maxRecDepth 100000 in
theorem mw1138 : Cond.code yX11_init cX11_init 1 none ∈ gTs := gT 19 rfl rfl
set_option maxRecDepth 100000 in
theorem mw1139 : Cond.code yX11_feed cX11_feed 5 (some .int) ∈ gTs := gT 292 rfl rfl
set_option maxRecDepth 100000 in
theorem mw1140 : Cond.code yX11_mostNumberAt cX11_mostNumberAt 1 (some .long) ∈ gTs := gT 313 rfl rfl
set_option maxRecDepth 100000 in
theorem mw1141 : Cond.code yX11_number cX11_number 3 (some .int) ∈ gTs := gT 309 rfl rfl
set_option maxRecDepth 100000 in
theorem mw1142 : Cond.code yX11_isAccess cX11_isAccess 1 (some .boolean) ∈ gTs := gT 330 rfl rfl
set_option maxRecDepth 100000 in
theorem mw1143 : Cond.code yX11_isNameAtHand cX11_isNameAtHand 2 (some .boolean) ∈ gTs := gT 334 rfl rfl
set_option maxRecDepth 100000 in
theorem mw1144 : Cond.code yX11_newScalar cX11_newScalar 7 (some .int) ∈ gTs := gT 324 rfl rfl
set_option maxRecDepth 100000 in
theorem mw1145 : Cond.code yX11_scalar cX11_scalar 8 (some .int) ∈ gTs := gT 320 rfl rfl
set_option maxRecDepth 100000 in
theorem mw1146 : Cond.code yX11_newTable cX11_newTable 1 (some .int) ∈ gTs := gT 439 rfl rfl
set_option maxRecDepth 100000 in
theorem mw1147 : Cond.code yX11_table cX11_table 2 (some .int) ∈ gTs := gT 435 rfl rfl
set_option maxRecDepth 100000 in
theorem mw1148 : Cond.code yX11_columnRefusal cX11_columnRefusal 4 (some .int) ∈ gTs := gT 490 rfl rfl
set_option maxRecDepth 100000 in
theorem mw1149 : Cond.code yX11_columnName cX11_columnName 3 (some (.object "TreeAgent$Chain")) ∈ gTs := gT 508 rfl rfl
set_option maxRecDepth 100000 in
theorem mw1150 : Cond.code yX11_newColumn cX11_newColumn 10 (some .int) ∈ gTs := gT 513 rfl rfl
set_option maxRecDepth 100000 in
theorem mw1151 : Cond.code yX11_column cX11_column 11 (some .int) ∈ gTs := gT 485 rfl rfl
set_option maxRecDepth 100000 in
theorem mw1152 : Cond.code yX11_status cX11_status 6 (some .int) ∈ gTs := gT 521 rfl rfl
set_option maxRecDepth 100000 in
theorem mw1153 : Cond.code yX11_row cX11_row 5 (some .int) ∈ gTs := gT 527 rfl rfl
set_option maxRecDepth 100000 in
theorem mw1154 : Cond.code yX11_value cX11_value 7 (some .int) ∈ gTs := gT 553 rfl rfl
set_option maxRecDepth 100000 in
theorem mw1155 : Cond.code yX11_cellOfTag cX11_cellOfTag 5 (some (.object "TreeAgent$Value")) ∈ gTs := gT 584 rfl rfl
set_option maxRecDepth 100000 in
theorem mw1156 : Cond.code yX11_becomeText cX11_becomeText 4 (some .int) ∈ gTs := gT 580 rfl rfl
set_option maxRecDepth 100000 in
theorem mw1157 : Cond.code yX11_text cX11_text 4 (some .int) ∈ gTs := gT 576 rfl rfl
set_option maxRecDepth 100000 in
theorem mw1158 : Cond.code yX11_becomeName cX11_becomeName 4 (some .int) ∈ gTs := gT 592 rfl rfl
set_option maxRecDepth 100000 in
theorem mw1159 : Cond.code yX11_identity cX11_identity 4 (some .int) ∈ gTs := gT 588 rfl rfl
set_option maxRecDepth 100000 in
theorem mw1160 : Cond.code yX11_communityNamed cX11_communityNamed 4 (some (.object "TreeAgent$Community")) ∈ gTs := gT 604 rfl rfl
set_option maxRecDepth 100000 in
theorem mw1161 : Cond.code yX11_newCommunity cX11_newCommunity 2 (some .int) ∈ gTs := gT 600 rfl rfl
set_option maxRecDepth 100000 in
theorem mw1162 : Cond.code yX11_community cX11_community 3 (some .int) ∈ gTs := gT 596 rfl rfl
set_option maxRecDepth 100000 in
theorem mw1163 : Cond.code yX11_newView cX11_newView 5 (some .int) ∈ gTs := gT 645 rfl rfl
set_option maxRecDepth 100000 in
theorem mw1164 : Cond.code yX11_view cX11_view 4 (some .int) ∈ gTs := gT 641 rfl rfl
set_option maxRecDepth 100000 in
theorem mw1165 : Cond.code yX11_limit cX11_limit 3 (some .int) ∈ gTs := gT 657 rfl rfl
set_option maxRecDepth 100000 in
theorem mw1166 : Cond.code yX11_tick cX11_tick 3 (some .long) ∈ gTs := gT 661 rfl rfl
set_option maxRecDepth 100000 in
theorem mw1167 : Cond.code yX11_takeMessage cX11_takeMessage 2 (some .int) ∈ gTs := gT 680 rfl rfl
set_option maxRecDepth 100000 in
theorem mw1168 : Cond.code yX11_countOne cX11_countOne 2 none ∈ gTs := gT 758 rfl rfl
set_option maxRecDepth 100000 in
theorem mw1169 : Cond.code yX11_valueFor cX11_valueFor 6 (some (.object "TreeAgent$Value")) ∈ gTs := gT 767 rfl rfl
set_option maxRecDepth 100000 in
theorem mw1170 : Cond.code yX11_tellValues cX11_tellValues 4 none ∈ gTs := gT 762 rfl rfl
set_option maxRecDepth 100000 in
theorem mw1171 : Cond.code yX11_nextOf cX11_nextOf 7 (some (.object "TreeAgent$Value")) ∈ gTs := gT 829 rfl rfl
set_option maxRecDepth 100000 in
theorem mw1172 : Cond.code yX11_nextAfter cX11_nextAfter 5 (some (.object "TreeAgent$Value")) ∈ gTs := gT 821 rfl rfl
set_option maxRecDepth 100000 in
theorem mw1173 : Cond.code yX11_tellNexts cX11_tellNexts 4 none ∈ gTs := gT 817 rfl rfl
set_option maxRecDepth 100000 in
theorem mw1174 : Cond.code yX11_tellMany cX11_tellMany 10 none ∈ gTs := gT 852 rfl rfl
set_option maxRecDepth 100000 in
theorem mw1175 : Cond.code yX11_errorInVersion cX11_errorInVersion 2 (some .int) ∈ gTs := gT 881 rfl rfl
set_option maxRecDepth 100000 in
theorem mw1176 : Cond.code yX11_tellSet cX11_tellSet 3 none ∈ gTs := gT 877 rfl rfl
set_option maxRecDepth 100000 in
theorem mw1177 : Cond.code yX11_give cX11_give 2 (some .int) ∈ gTs := gT 939 rfl rfl
set_option maxRecDepth 100000 in
theorem mw1178 : Cond.code yX11_question cX11_question 2 (some .int) ∈ gTs := gT 667 rfl rfl
set_option maxRecDepth 100000 in
theorem mw1179 : Cond.code yX11_answer cX11_answer 2 (some .int) ∈ gTs := gT 1007 rfl rfl
set_option maxRecDepth 100000 in
theorem mw1180 : Cond.code yX11_count cX11_count 2 (some .int) ∈ gTs := gT 1011 rfl rfl
set_option maxRecDepth 100000 in
theorem mw1181 : Cond.code yX11_rows cX11_rows 3 (some .int) ∈ gTs := gT 1015 rfl rfl
set_option maxRecDepth 100000 in
theorem mw1182 : Cond.code yX11_told cX11_told 5 (some .long) ∈ gTs := gT 1019 rfl rfl
set_option maxRecDepth 100000 in
theorem mw1183 : Cond.code yX11_part cX11_part 6 (some .long) ∈ gTs := gT 1023 rfl rfl
set_option maxRecDepth 100000 in
theorem mw1184 : Cond.code yX12_init cX12_init 1 none ∈ gTs := gT 1028 rfl rfl
set_option maxRecDepth 100000 in
theorem mw1185 : Cond.code yX12_in cX12_in 6 (some .boolean) ∈ gTs := gT 1237 rfl rfl
set_option maxRecDepth 100000 in
theorem mw1186 : Cond.code yX12_begins cX12_begins 8 (some .boolean) ∈ gTs := gT 1262 rfl rfl
set_option maxRecDepth 100000 in
theorem mw1187 : Cond.code yX12_order cX12_order 7 (some .int) ∈ gTs := gT 1416 rfl rfl
set_option maxRecDepth 100000 in
theorem mw1188 : Cond.code yX12_feed cX12_feed 5 (some .int) ∈ gTs := gT 1233 rfl rfl
set_option maxRecDepth 100000 in
theorem mw1189 : Cond.code yX12_number cX12_number 5 (some .int) ∈ gTs := gT 1241 rfl rfl
set_option maxRecDepth 100000 in
theorem mw1190 : Cond.code yX12_clashes cX12_clashes 4 (some .boolean) ∈ gTs := gT 1259 rfl rfl
set_option maxRecDepth 100000 in
theorem mw1191 : Cond.code yX12_isTag cX12_isTag 1 (some .boolean) ∈ gTs := gT 1252 rfl rfl
set_option maxRecDepth 100000 in
theorem mw1192 : Cond.code yX12_first cX12_first 3 none ∈ gTs := gT 1270 rfl rfl
set_option maxRecDepth 100000 in
theorem mw1193 : Cond.code yX12_newObject cX12_newObject 11 (some .int) ∈ gTs := gT 1266 rfl rfl
set_option maxRecDepth 100000 in
theorem mw1194 : Cond.code yX12_scalar cX12_scalar 9 (some .int) ∈ gTs := gT 1249 rfl rfl
set_option maxRecDepth 100000 in
theorem mw1195 : Cond.code yX12_table cX12_table 3 (some .int) ∈ gTs := gT 1274 rfl rfl
set_option maxRecDepth 100000 in
theorem mw1196 : Cond.code yX12_columnOf cX12_columnOf 13 (some .int) ∈ gTs := gT 1283 rfl rfl
set_option maxRecDepth 100000 in
theorem mw1197 : Cond.code yX12_column cX12_column 9 (some .int) ∈ gTs := gT 1279 rfl rfl
set_option maxRecDepth 100000 in
theorem mw1198 : Cond.code yX12_status cX12_status 3 (some .int) ∈ gTs := gT 1287 rfl rfl
set_option maxRecDepth 100000 in
theorem mw1199 : Cond.code yX12_placeOf cX12_placeOf 5 (some .int) ∈ gTs := gT 1296 rfl rfl
set_option maxRecDepth 100000 in
theorem mw1200 : Cond.code yX12_makeRow cX12_makeRow 7 none ∈ gTs := gT 1304 rfl rfl
set_option maxRecDepth 100000 in
theorem mw1201 : Cond.code yX12_dropRow cX12_dropRow 3 none ∈ gTs := gT 1300 rfl rfl
set_option maxRecDepth 100000 in
theorem mw1202 : Cond.code yX12_row cX12_row 5 (some .int) ∈ gTs := gT 1292 rfl rfl
set_option maxRecDepth 100000 in
theorem mw1203 : Cond.code yX12_instance cX12_instance 4 (some .int) ∈ gTs := gT 1312 rfl rfl
set_option maxRecDepth 100000 in
theorem mw1204 : Cond.code yX12_value cX12_value 6 (some .int) ∈ gTs := gT 1308 rfl rfl
set_option maxRecDepth 100000 in
theorem mw1205 : Cond.code yX12_text cX12_text 6 (some .int) ∈ gTs := gT 1319 rfl rfl
set_option maxRecDepth 100000 in
theorem mw1206 : Cond.code yX12_identity cX12_identity 6 (some .int) ∈ gTs := gT 1323 rfl rfl
set_option maxRecDepth 100000 in
theorem mw1207 : Cond.code yX12_communityOf cX12_communityOf 7 (some .int) ∈ gTs := gT 1332 rfl rfl
set_option maxRecDepth 100000 in
theorem mw1208 : Cond.code yX12_community cX12_community 4 (some .int) ∈ gTs := gT 1328 rfl rfl
set_option maxRecDepth 100000 in
theorem mw1209 : Cond.code yX12_view cX12_view 6 (some .int) ∈ gTs := gT 1336 rfl rfl
set_option maxRecDepth 100000 in
theorem mw1210 : Cond.code yX12_limit cX12_limit 3 (some .int) ∈ gTs := gT 1340 rfl rfl
set_option maxRecDepth 100000 in
theorem mw1211 : Cond.code yX12_tick cX12_tick 3 (some .long) ∈ gTs := gT 1346 rfl rfl
set_option maxRecDepth 100000 in
theorem mw1212 : Cond.code yX12_octet cX12_octet 2 (some .int) ∈ gTs := gT 1364 rfl rfl
set_option maxRecDepth 100000 in
theorem mw1213 : Cond.code yX12_size cX12_size 6 (some .int) ∈ gTs := gT 1368 rfl rfl
set_option maxRecDepth 100000 in
theorem mw1214 : Cond.code yX12_field cX12_field 4 (some .int) ∈ gTs := gT 1360 rfl rfl
set_option maxRecDepth 100000 in
theorem mw1215 : Cond.code yX12_read cX12_read 7 (some .long) ∈ gTs := gT 1378 rfl rfl
set_option maxRecDepth 100000 in
theorem mw1216 : Cond.code yX12_integer cX12_integer 5 (some .int) ∈ gTs := gT 1374 rfl rfl
set_option maxRecDepth 100000 in
theorem mw1217 : Cond.code yX12_readName cX12_readName 8 (some .int) ∈ gTs := gT 1387 rfl rfl
set_option maxRecDepth 100000 in
theorem mw1218 : Cond.code yX12_readValue cX12_readValue 9 none ∈ gTs := gT 1393 rfl rfl
set_option maxRecDepth 100000 in
theorem mw1219 : Cond.code yX12_readRow cX12_readRow 5 none ∈ gTs := gT 1383 rfl rfl
set_option maxRecDepth 100000 in
theorem mw1220 : Cond.code yX12_readAll cX12_readAll 6 none ∈ gTs := gT 1356 rfl rfl
set_option maxRecDepth 100000 in
theorem mw1221 : Cond.code yX12_inView cX12_inView 7 (some .boolean) ∈ gTs := gT 1420 rfl rfl
set_option maxRecDepth 100000 in
theorem mw1222 : Cond.code yX12_nameOf cX12_nameOf 4 none ∈ gTs := gT 1413 rfl rfl
set_option maxRecDepth 100000 in
theorem mw1223 : Cond.code yX12_isThere cX12_isThere 3 (some .boolean) ∈ gTs := gT 1409 rfl rfl
set_option maxRecDepth 100000 in
theorem mw1224 : Cond.code yX12_objectOf cX12_objectOf 6 (some .int) ∈ gTs := gT 1472 rfl rfl
set_option maxRecDepth 100000 in
theorem mw1225 : Cond.code yX12_copyName cX12_copyName 4 none ∈ gTs := gT 1424 rfl rfl
set_option maxRecDepth 100000 in
theorem mw1226 : Cond.code yX12_numberOf cX12_numberOf 3 (some .long) ∈ gTs := gT 1432 rfl rfl
set_option maxRecDepth 100000 in
theorem mw1227 : Cond.code yX12_tell cX12_tell 6 none ∈ gTs := gT 1428 rfl rfl
set_option maxRecDepth 100000 in
theorem mw1228 : Cond.code yX12_get cX12_get 8 none ∈ gTs := gT 1494 rfl rfl
set_option maxRecDepth 100000 in
theorem mw1229 : Cond.code yX12_next cX12_next 10 none ∈ gTs := gT 1405 rfl rfl
set_option maxRecDepth 100000 in
theorem mw1230 : Cond.code yX12_around cX12_around 1 (some .int) ∈ gTs := gT 1439 rfl rfl
set_option maxRecDepth 100000 in
theorem mw1231 : Cond.code yX12_numberSize cX12_numberSize 4 (some .int) ∈ gTs := gT 1446 rfl rfl
set_option maxRecDepth 100000 in
theorem mw1232 : Cond.code yX12_partSize cX12_partSize 3 (some .int) ∈ gTs := gT 1460 rfl rfl
set_option maxRecDepth 100000 in
theorem mw1233 : Cond.code yX12_nameOctets cX12_nameOctets 5 (some .int) ∈ gTs := gT 1457 rfl rfl
set_option maxRecDepth 100000 in
theorem mw1234 : Cond.code yX12_valueOctets cX12_valueOctets 3 (some .int) ∈ gTs := gT 1464 rfl rfl
set_option maxRecDepth 100000 in
theorem mw1235 : Cond.code yX12_rowOctets cX12_rowOctets 2 (some .int) ∈ gTs := gT 1454 rfl rfl
set_option maxRecDepth 100000 in
theorem mw1236 : Cond.code yX12_rowsOctets cX12_rowsOctets 5 (some .int) ∈ gTs := gT 1450 rfl rfl
set_option maxRecDepth 100000 in
theorem mw1237 : Cond.code yX12_bodyOctets cX12_bodyOctets 3 (some .int) ∈ gTs := gT 1443 rfl rfl
set_option maxRecDepth 100000 in
theorem mw1238 : Cond.code yX12_allOctets cX12_allOctets 3 (some .int) ∈ gTs := gT 1436 rfl rfl
set_option maxRecDepth 100000 in
theorem mw1239 : Cond.code yX12_put cX12_put 2 none ∈ gTs := gT 1506 rfl rfl
set_option maxRecDepth 100000 in
theorem mw1240 : Cond.code yX12_head cX12_head 3 none ∈ gTs := gT 1502 rfl rfl
set_option maxRecDepth 100000 in
theorem mw1241 : Cond.code yX12_writeNumber cX12_writeNumber 6 none ∈ gTs := gT 1510 rfl rfl
set_option maxRecDepth 100000 in
theorem mw1242 : Cond.code yX12_names cX12_names 6 none ∈ gTs := gT 1514 rfl rfl
set_option maxRecDepth 100000 in
theorem mw1243 : Cond.code yX12_writeValue cX12_writeValue 4 none ∈ gTs := gT 1518 rfl rfl
set_option maxRecDepth 100000 in
theorem mw1244 : Cond.code yX12_write cX12_write 4 none ∈ gTs := gT 1498 rfl rfl
set_option maxRecDepth 100000 in
theorem mw1245 : Cond.code yX12_oneMore cX12_oneMore 2 (some .boolean) ∈ gTs := gT 1401 rfl rfl
set_option maxRecDepth 100000 in
theorem mw1246 : Cond.code yX12_many cX12_many 9 none ∈ gTs := gT 1397 rfl rfl
set_option maxRecDepth 100000 in
theorem mw1247 : Cond.code yX12_fail cX12_fail 3 none ∈ gTs := gT 1476 rfl rfl
set_option maxRecDepth 100000 in
theorem mw1248 : Cond.code yX12_isMaking cX12_isMaking 6 (some .boolean) ∈ gTs := gT 1484 rfl rfl
set_option maxRecDepth 100000 in
theorem mw1249 : Cond.code yX12_checkPlace cX12_checkPlace 12 none ∈ gTs := gT 1480 rfl rfl
set_option maxRecDepth 100000 in
theorem mw1250 : Cond.code yX12_check cX12_check 6 none ∈ gTs := gT 1468 rfl rfl
set_option maxRecDepth 100000 in
theorem mw1251 : Cond.code yX12_carryOut cX12_carryOut 6 none ∈ gTs := gT 1522 rfl rfl
set_option maxRecDepth 100000 in
theorem mw1252 : Cond.code yX12_find cX12_find 2 none ∈ gTs := gT 1490 rfl rfl
set_option maxRecDepth 100000 in
theorem mw1253 : Cond.code yX12_question cX12_question 4 (some .int) ∈ gTs := gT 1352 rfl rfl
set_option maxRecDepth 100000 in
theorem mw1254 : Cond.code yX12_answer cX12_answer 2 (some .int) ∈ gTs := gT 1526 rfl rfl
set_option maxRecDepth 100000 in
theorem mw1255 : Cond.code yX12_count cX12_count 2 (some .int) ∈ gTs := gT 1530 rfl rfl
set_option maxRecDepth 100000 in
theorem mw1256 : Cond.code yX12_rows cX12_rows 2 (some .int) ∈ gTs := gT 1535 rfl rfl
set_option maxRecDepth 100000 in
theorem mw1257 : Cond.code yX12_told cX12_told 4 (some .long) ∈ gTs := gT 1539 rfl rfl
set_option maxRecDepth 100000 in
theorem mw1258 : Cond.code yX12_part cX12_part 5 (some .long) ∈ gTs := gT 1543 rfl rfl
theorem yY_yX0_init : sm_Y gTs yX0_init cX0_init 2 none 1 := ⟨mw1034, mw169, by decide, by decide, by decide +kernel⟩
theorem yY_yX0_size : sm_Y gTs yX0_size cX0_size 1 (some .int) 0 := ⟨mw1035, mw169, by decide, by decide, by decide +kernel⟩
theorem yY_yX0_at : sm_Y gTs yX0_at cX0_at 2 (some .long) 1 := ⟨mw1036, mw169, by decide, by decide, by decide +kernel⟩
theorem yY_yX0_add : sm_Y gTs yX0_add cX0_add 3 (some .boolean) 1 := ⟨mw1037, mw169, by decide, by decide, by decide +kernel⟩
theorem yY_yX0_clear : sm_Y gTs yX0_clear cX0_clear 1 none 0 := ⟨mw1038, mw169, by decide, by decide, by decide +kernel⟩
theorem yY_yX0_copy : sm_Y gTs yX0_copy cX0_copy 3 none 1 := ⟨mw1039, mw169, by decide, by decide, by decide +kernel⟩
theorem yY_yX0_beginsWith : sm_Y gTs yX0_beginsWith cX0_beginsWith 3 (some .boolean) 1 := ⟨mw1040, mw169, by decide, by decide, by decide +kernel⟩
theorem yY_yX0_isSame : sm_Y gTs yX0_isSame cX0_isSame 2 (some .boolean) 1 := ⟨mw1041, mw169, by decide, by decide, by decide +kernel⟩
theorem yY_yX0_isLess : sm_Y gTs yX0_isLess cX0_isLess 4 (some .boolean) 1 := ⟨mw1042, mw169, by decide, by decide, by decide +kernel⟩
theorem yY_yX1_init : sm_Y gTs yX1_init cX1_init 3 none 2 := ⟨mw1043, mw423, by decide, by decide, by decide +kernel⟩
theorem yY_yX3_pairAt : sm_Y gTs yX3_pairAt cX3_pairAt 2 (some (.object "TreeAgent$Pair")) 1 := ⟨mw1044, mw431, by decide, by decide, by decide +kernel⟩
theorem yY_yX2_shows : sm_Y gTs yX2_shows cX2_shows 6 (some .boolean) 1 := ⟨mw1045, mw538, by decide, by decide, by decide +kernel⟩
theorem yY_yX9_thingAt : sm_Y gTs yX9_thingAt cX9_thingAt 2 (some (.object "TreeAgent$Thing")) 1 := ⟨mw1046, mw435, by decide, by decide, by decide +kernel⟩
theorem yY_yX9_thingFor : sm_Y gTs yX9_thingFor cX9_thingFor 4 (some (.object "TreeAgent$Thing")) 1 := ⟨mw1047, mw435, by decide, by decide, by decide +kernel⟩
theorem yY_yX8_takesLength : sm_Y gTs yX8_takesLength cX8_takesLength 2 (some .boolean) 1 := ⟨mw1048, mw457, by decide, by decide, by decide +kernel⟩
theorem yY_yX8_isStatus : sm_Y gTs yX8_isStatus cX8_isStatus 1 (some .boolean) 0 := ⟨mw1049, mw457, by decide, by decide, by decide +kernel⟩
theorem yY_yX8_takesNumber : sm_Y gTs yX8_takesNumber cX8_takesNumber 3 (some .boolean) 1 := ⟨mw1050, mw457, by decide, by decide, by decide +kernel⟩
theorem yY_yX8_takesIndex : sm_Y gTs yX8_takesIndex cX8_takesIndex 4 (some .boolean) 1 := ⟨mw1051, mw457, by decide, by decide, by decide +kernel⟩
theorem yY_yX7_slotHolding : sm_Y gTs yX7_slotHolding cX7_slotHolding 4 (some .int) 1 := ⟨mw1052, mw476, by decide, by decide, by decide +kernel⟩
theorem yY_yX7_slotOf : sm_Y gTs yX7_slotOf cX7_slotOf 3 (some .int) 1 := ⟨mw1053, mw476, by decide, by decide, by decide +kernel⟩
theorem yY_yX1_indexMade : sm_Y gTs yX1_indexMade cX1_indexMade 4 (some .long) 2 := ⟨mw1054, mw423, by decide, by decide, by decide +kernel⟩
theorem yY_yX1_isMade : sm_Y gTs yX1_isMade cX1_isMade 6 (some .boolean) 3 := ⟨mw1055, mw423, by decide, by decide, by decide +kernel⟩
theorem yY_yX7_rowCount : sm_Y gTs yX7_rowCount cX7_rowCount 1 (some .int) 0 := ⟨mw1056, mw476, by decide, by decide, by decide +kernel⟩
theorem yY_yX1_madeBefore : sm_Y gTs yX1_madeBefore cX1_madeBefore 5 (some .int) 2 := ⟨mw1057, mw423, by decide, by decide, by decide +kernel⟩
theorem yY_yX1_statusFault : sm_Y gTs yX1_statusFault cX1_statusFault 8 (some .int) 4 := ⟨mw1058, mw423, by decide, by decide, by decide +kernel⟩
theorem yY_yX1_faultAt : sm_Y gTs yX1_faultAt cX1_faultAt 7 (some .int) 1 := ⟨mw1059, mw423, by decide, by decide, by decide +kernel⟩
theorem yY_yX8_cellAt : sm_Y gTs yX8_cellAt cX8_cellAt 2 (some (.object "TreeAgent$Value")) 1 := ⟨mw1060, mw457, by decide, by decide, by decide +kernel⟩
theorem yY_yX10_becomeEmpty : sm_Y gTs yX10_becomeEmpty cX10_becomeEmpty 2 none 1 := ⟨mw1061, mw184, by decide, by decide, by decide +kernel⟩
theorem yY_yX10_becomeFirst : sm_Y gTs yX10_becomeFirst cX10_becomeFirst 1 none 0 := ⟨mw1062, mw184, by decide, by decide, by decide +kernel⟩
theorem yY_yX7_make : sm_Y gTs yX7_make cX7_make 7 (some .boolean) 2 := ⟨mw1063, mw476, by decide, by decide, by decide +kernel⟩
theorem yY_yX1_makeRow : sm_Y gTs yX1_makeRow cX1_makeRow 5 none 1 := ⟨mw1064, mw423, by decide, by decide, by decide +kernel⟩
theorem yY_yX8_cellFor : sm_Y gTs yX8_cellFor cX8_cellFor 3 (some (.object "TreeAgent$Value")) 1 := ⟨mw1065, mw457, by decide, by decide, by decide +kernel⟩
theorem yY_yX10_copy : sm_Y gTs yX10_copy cX10_copy 2 none 1 := ⟨mw1066, mw184, by decide, by decide, by decide +kernel⟩
theorem yY_yX7_takeAway : sm_Y gTs yX7_takeAway cX7_takeAway 4 none 1 := ⟨mw1067, mw476, by decide, by decide, by decide +kernel⟩
theorem yY_yX1_setOne : sm_Y gTs yX1_setOne cX1_setOne 4 none 1 := ⟨mw1068, mw423, by decide, by decide, by decide +kernel⟩
theorem yY_yX1_apply : sm_Y gTs yX1_apply cX1_apply 2 none 0 := ⟨mw1069, mw423, by decide, by decide, by decide +kernel⟩
theorem yY_yX2_init : sm_Y gTs yX2_init cX2_init 3 none 2 := ⟨mw1070, mw538, by decide, by decide, by decide +kernel⟩
theorem yY_yX2_viewCount : sm_Y gTs yX2_viewCount cX2_viewCount 1 (some .int) 0 := ⟨mw1071, mw538, by decide, by decide, by decide +kernel⟩
theorem yY_yX2_addView : sm_Y gTs yX2_addView cX2_addView 4 (some .boolean) 2 := ⟨mw1072, mw538, by decide, by decide, by decide +kernel⟩
theorem yY_yX10_init : sm_Y gTs yX10_init cX10_init 3 none 2 := ⟨mw1073, mw184, by decide, by decide, by decide +kernel⟩
theorem yY_yX4_init : sm_Y gTs yX4_init cX4_init 2 none 1 := ⟨mw1074, mw187, by decide, by decide, by decide +kernel⟩
theorem yY_yX3_init : sm_Y gTs yX3_init cX3_init 2 none 0 := ⟨mw1075, mw431, by decide, by decide, by decide +kernel⟩
theorem yY_yX5_init : sm_Y gTs yX5_init cX5_init 2 none 1 := ⟨mw1076, mw427, by decide, by decide, by decide +kernel⟩
theorem yY_yX5_readLength : sm_Y gTs yX5_readLength cX5_readLength 7 (some .long) 1 := ⟨mw1077, mw427, by decide, by decide, by decide +kernel⟩
theorem yY_yX5_enter : sm_Y gTs yX5_enter cX5_enter 5 (some .int) 2 := ⟨mw1078, mw427, by decide, by decide, by decide +kernel⟩
theorem yY_yX5_enterLast : sm_Y gTs yX5_enterLast cX5_enterLast 2 (some .boolean) 1 := ⟨mw1079, mw427, by decide, by decide, by decide +kernel⟩
theorem yY_yX11_isNumberOf : sm_Y gTs yX11_isNumberOf cX11_isNumberOf 3 (some .boolean) 2 := ⟨mw1080, mw1033, by decide, by decide, by decide +kernel⟩
theorem yY_yX5_takeNumber : sm_Y gTs yX5_takeNumber cX5_takeNumber 11 (some .boolean) 3 := ⟨mw1081, mw427, by decide, by decide, by decide +kernel⟩
theorem yY_yX5_readInteger : sm_Y gTs yX5_readInteger cX5_readInteger 2 (some .boolean) 0 := ⟨mw1082, mw427, by decide, by decide, by decide +kernel⟩
theorem yY_yX5_takeText : sm_Y gTs yX5_takeText cX5_takeText 3 (some .boolean) 2 := ⟨mw1083, mw427, by decide, by decide, by decide +kernel⟩
theorem yY_yX5_readHead : sm_Y gTs yX5_readHead cX5_readHead 3 (some .int) 1 := ⟨mw1084, mw427, by decide, by decide, by decide +kernel⟩
theorem yY_yX5_isKind : sm_Y gTs yX5_isKind cX5_isKind 2 (some .boolean) 2 := ⟨mw1085, mw427, by decide, by decide, by decide +kernel⟩
theorem yY_yX5_addToName : sm_Y gTs yX5_addToName cX5_addToName 3 (some .boolean) 2 := ⟨mw1086, mw427, by decide, by decide, by decide +kernel⟩
theorem yY_yX5_takeName : sm_Y gTs yX5_takeName cX5_takeName 8 (some .boolean) 2 := ⟨mw1087, mw427, by decide, by decide, by decide +kernel⟩
theorem yY_yX5_takeAddress : sm_Y gTs yX5_takeAddress cX5_takeAddress 3 (some .boolean) 2 := ⟨mw1088, mw427, by decide, by decide, by decide +kernel⟩
theorem yY_yX11_isObjectTag : sm_Y gTs yX11_isObjectTag cX11_isObjectTag 1 (some .boolean) 1 := ⟨mw1089, mw1033, by decide, by decide, by decide +kernel⟩
theorem yY_yX5_readValue : sm_Y gTs yX5_readValue cX5_readValue 5 (some .boolean) 2 := ⟨mw1090, mw427, by decide, by decide, by decide +kernel⟩
theorem yY_yX5_readPair : sm_Y gTs yX5_readPair cX5_readPair 4 (some .boolean) 1 := ⟨mw1091, mw427, by decide, by decide, by decide +kernel⟩
theorem yY_yX5_readBody : sm_Y gTs yX5_readBody cX5_readBody 4 (some .boolean) 1 := ⟨mw1092, mw427, by decide, by decide, by decide +kernel⟩
theorem yY_yX6_init : sm_Y gTs yX6_init cX6_init 3 none 0 := ⟨mw1093, mw419, by decide, by decide, by decide +kernel⟩
theorem yY_yX6_error : sm_Y gTs yX6_error cX6_error 1 (some .int) 0 := ⟨mw1094, mw419, by decide, by decide, by decide +kernel⟩
theorem yY_yX6_pairAt : sm_Y gTs yX6_pairAt cX6_pairAt 2 (some (.object "TreeAgent$Pair")) 1 := ⟨mw1095, mw419, by decide, by decide, by decide +kernel⟩
theorem yY_yX6_fail : sm_Y gTs yX6_fail cX6_fail 3 none 2 := ⟨mw1096, mw419, by decide, by decide, by decide +kernel⟩
theorem yY_yX6_clear : sm_Y gTs yX6_clear cX6_clear 1 none 0 := ⟨mw1097, mw419, by decide, by decide, by decide +kernel⟩
theorem yY_yX6_sevens : sm_Y gTs yX6_sevens cX6_sevens 3 (some .int) 1 := ⟨mw1098, mw419, by decide, by decide, by decide +kernel⟩
theorem yY_yX6_nameContent : sm_Y gTs yX6_nameContent cX6_nameContent 3 (some .int) 1 := ⟨mw1099, mw419, by decide, by decide, by decide +kernel⟩
theorem yY_yX6_fieldSize : sm_Y gTs yX6_fieldSize cX6_fieldSize 2 (some .int) 1 := ⟨mw1100, mw419, by decide, by decide, by decide +kernel⟩
theorem yY_yX6_numberContent : sm_Y gTs yX6_numberContent cX6_numberContent 5 (some .int) 1 := ⟨mw1101, mw419, by decide, by decide, by decide +kernel⟩
theorem yY_yX6_valueContent : sm_Y gTs yX6_valueContent cX6_valueContent 1 (some .int) 1 := ⟨mw1102, mw419, by decide, by decide, by decide +kernel⟩
theorem yY_yX6_pairContent : sm_Y gTs yX6_pairContent cX6_pairContent 2 (some .int) 2 := ⟨mw1103, mw419, by decide, by decide, by decide +kernel⟩
theorem yY_yX6_tell : sm_Y gTs yX6_tell cX6_tell 4 none 2 := ⟨mw1104, mw419, by decide, by decide, by decide +kernel⟩
theorem yY_yX6_tellAsked : sm_Y gTs yX6_tellAsked cX6_tellAsked 4 none 1 := ⟨mw1105, mw419, by decide, by decide, by decide +kernel⟩
theorem yY_yX6_integerSize : sm_Y gTs yX6_integerSize cX6_integerSize 1 (some .int) 1 := ⟨mw1106, mw419, by decide, by decide, by decide +kernel⟩
theorem yY_yX6_innerContent : sm_Y gTs yX6_innerContent cX6_innerContent 4 (some .int) 2 := ⟨mw1107, mw419, by decide, by decide, by decide +kernel⟩
theorem yY_yX6_outerContent : sm_Y gTs yX6_outerContent cX6_outerContent 4 (some .int) 2 := ⟨mw1108, mw419, by decide, by decide, by decide +kernel⟩
theorem yY_yX6_sizeFor : sm_Y gTs yX6_sizeFor cX6_sizeFor 2 (some .int) 1 := ⟨mw1109, mw419, by decide, by decide, by decide +kernel⟩
theorem yY_yX6_sizeWith : sm_Y gTs yX6_sizeWith cX6_sizeWith 4 (some .int) 3 := ⟨mw1110, mw419, by decide, by decide, by decide +kernel⟩
theorem yY_yX6_putHead : sm_Y gTs yX6_putHead cX6_putHead 3 none 2 := ⟨mw1111, mw419, by decide, by decide, by decide +kernel⟩
theorem yY_yX6_putNumber : sm_Y gTs yX6_putNumber cX6_putNumber 5 none 2 := ⟨mw1112, mw419, by decide, by decide, by decide +kernel⟩
theorem yY_yX6_putInteger : sm_Y gTs yX6_putInteger cX6_putInteger 3 none 1 := ⟨mw1113, mw419, by decide, by decide, by decide +kernel⟩
theorem yY_yX6_putParts : sm_Y gTs yX6_putParts cX6_putParts 3 none 1 := ⟨mw1114, mw419, by decide, by decide, by decide +kernel⟩
theorem yY_yX6_putName : sm_Y gTs yX6_putName cX6_putName 6 none 1 := ⟨mw1115, mw419, by decide, by decide, by decide +kernel⟩
theorem yY_yX6_putPair : sm_Y gTs yX6_putPair cX6_putPair 3 none 1 := ⟨mw1116, mw419, by decide, by decide, by decide +kernel⟩
theorem yY_yX6_write : sm_Y gTs yX6_write cX6_write 4 none 1 := ⟨mw1117, mw419, by decide, by decide, by decide +kernel⟩
theorem yY_yX7_init : sm_Y gTs yX7_init cX7_init 2 none 1 := ⟨mw1118, mw476, by decide, by decide, by decide +kernel⟩
theorem yY_yX7_columnCount : sm_Y gTs yX7_columnCount cX7_columnCount 1 (some .int) 0 := ⟨mw1119, mw476, by decide, by decide, by decide +kernel⟩
theorem yY_yX7_hasColumn : sm_Y gTs yX7_hasColumn cX7_hasColumn 4 (some .boolean) 1 := ⟨mw1120, mw476, by decide, by decide, by decide +kernel⟩
theorem yY_yX7_addColumn : sm_Y gTs yX7_addColumn cX7_addColumn 2 none 1 := ⟨mw1121, mw476, by decide, by decide, by decide +kernel⟩
theorem yY_yX7_indexAbove : sm_Y gTs yX7_indexAbove cX7_indexAbove 8 (some .long) 1 := ⟨mw1122, mw476, by decide, by decide, by decide +kernel⟩
theorem yY_yX8_init : sm_Y gTs yX8_init cX8_init 12 none 6 := ⟨mw1123, mw457, by decide, by decide, by decide +kernel⟩
theorem yY_yX8_tellsClock : sm_Y gTs yX8_tellsClock cX8_tellsClock 1 (some .boolean) 0 := ⟨mw1124, mw457, by decide, by decide, by decide +kernel⟩
theorem yY_yX8_indexAbove : sm_Y gTs yX8_indexAbove cX8_indexAbove 3 (some .long) 1 := ⟨mw1125, mw457, by decide, by decide, by decide +kernel⟩
theorem yY_yX8_passedBy : sm_Y gTs yX8_passedBy cX8_passedBy 2 (some .long) 1 := ⟨mw1126, mw457, by decide, by decide, by decide +kernel⟩
theorem yY_yX9_init : sm_Y gTs yX9_init cX9_init 1 none 0 := ⟨mw1127, mw435, by decide, by decide, by decide +kernel⟩
theorem yY_yX9_thingCount : sm_Y gTs yX9_thingCount cX9_thingCount 1 (some .int) 0 := ⟨mw1128, mw435, by decide, by decide, by decide +kernel⟩
theorem yY_yX9_tableCount : sm_Y gTs yX9_tableCount cX9_tableCount 1 (some .int) 0 := ⟨mw1129, mw435, by decide, by decide, by decide +kernel⟩
theorem yY_yX9_thingInOrder : sm_Y gTs yX9_thingInOrder cX9_thingInOrder 2 (some (.object "TreeAgent$Thing")) 1 := ⟨mw1130, mw435, by decide, by decide, by decide +kernel⟩
theorem yY_yX9_tableAt : sm_Y gTs yX9_tableAt cX9_tableAt 2 (some (.object "TreeAgent$Table")) 1 := ⟨mw1131, mw435, by decide, by decide, by decide +kernel⟩
theorem yY_yX9_isTaken : sm_Y gTs yX9_isTaken cX9_isTaken 4 (some .boolean) 1 := ⟨mw1132, mw435, by decide, by decide, by decide +kernel⟩
theorem yY_yX9_putInOrder : sm_Y gTs yX9_putInOrder cX9_putInOrder 5 none 1 := ⟨mw1133, mw435, by decide, by decide, by decide +kernel⟩
theorem yY_yX9_addThing : sm_Y gTs yX9_addThing cX9_addThing 2 (some .int) 1 := ⟨mw1134, mw435, by decide, by decide, by decide +kernel⟩
theorem yY_yX9_addTable : sm_Y gTs yX9_addTable cX9_addTable 2 (some .int) 1 := ⟨mw1135, mw435, by decide, by decide, by decide +kernel⟩
theorem yY_yX10_isOfParts : sm_Y gTs yX10_isOfParts cX10_isOfParts 1 (some .boolean) 0 := ⟨mw1136, mw184, by decide, by decide, by decide +kernel⟩
theorem yY_yX10_isMissing : sm_Y gTs yX10_isMissing cX10_isMissing 1 (some .boolean) 0 := ⟨mw1137, mw184, by decide, by decide, by decide +kernel⟩
theorem yY_yX11_init : sm_Y gTs yX11_init cX11_init 1 none 0 := ⟨mw1138, mw1033, by decide, by decide, by decide +kernel⟩
theorem yY_yX11_feed : sm_Y gTs yX11_feed cX11_feed 5 (some .int) 2 := ⟨mw1139, mw1033, by decide, by decide, by decide +kernel⟩
theorem yY_yX11_mostNumberAt : sm_Y gTs yX11_mostNumberAt cX11_mostNumberAt 1 (some .long) 1 := ⟨mw1140, mw1033, by decide, by decide, by decide +kernel⟩
theorem yY_yX11_number : sm_Y gTs yX11_number cX11_number 3 (some .int) 1 := ⟨mw1141, mw1033, by decide, by decide, by decide +kernel⟩
theorem yY_yX11_isAccess : sm_Y gTs yX11_isAccess cX11_isAccess 1 (some .boolean) 1 := ⟨mw1142, mw1033, by decide, by decide, by decide +kernel⟩
theorem yY_yX11_isNameAtHand : sm_Y gTs yX11_isNameAtHand cX11_isNameAtHand 2 (some .boolean) 1 := ⟨mw1143, mw1033, by decide, by decide, by decide +kernel⟩
theorem yY_yX11_newScalar : sm_Y gTs yX11_newScalar cX11_newScalar 7 (some .int) 4 := ⟨mw1144, mw1033, by decide, by decide, by decide +kernel⟩
theorem yY_yX11_scalar : sm_Y gTs yX11_scalar cX11_scalar 8 (some .int) 4 := ⟨mw1145, mw1033, by decide, by decide, by decide +kernel⟩
theorem yY_yX11_newTable : sm_Y gTs yX11_newTable cX11_newTable 1 (some .int) 0 := ⟨mw1146, mw1033, by decide, by decide, by decide +kernel⟩
theorem yY_yX11_table : sm_Y gTs yX11_table cX11_table 2 (some .int) 0 := ⟨mw1147, mw1033, by decide, by decide, by decide +kernel⟩
theorem yY_yX11_columnRefusal : sm_Y gTs yX11_columnRefusal cX11_columnRefusal 4 (some .int) 2 := ⟨mw1148, mw1033, by decide, by decide, by decide +kernel⟩
theorem yY_yX11_columnName : sm_Y gTs yX11_columnName cX11_columnName 3 (some (.object "TreeAgent$Chain")) 2 := ⟨mw1149, mw1033, by decide, by decide, by decide +kernel⟩
theorem yY_yX11_newColumn : sm_Y gTs yX11_newColumn cX11_newColumn 10 (some .int) 6 := ⟨mw1150, mw1033, by decide, by decide, by decide +kernel⟩
theorem yY_yX11_column : sm_Y gTs yX11_column cX11_column 11 (some .int) 6 := ⟨mw1151, mw1033, by decide, by decide, by decide +kernel⟩
theorem yY_yX11_status : sm_Y gTs yX11_status cX11_status 6 (some .int) 2 := ⟨mw1152, mw1033, by decide, by decide, by decide +kernel⟩
theorem yY_yX11_row : sm_Y gTs yX11_row cX11_row 5 (some .int) 3 := ⟨mw1153, mw1033, by decide, by decide, by decide +kernel⟩
theorem yY_yX11_value : sm_Y gTs yX11_value cX11_value 7 (some .int) 3 := ⟨mw1154, mw1033, by decide, by decide, by decide +kernel⟩
theorem yY_yX11_cellOfTag : sm_Y gTs yX11_cellOfTag cX11_cellOfTag 5 (some (.object "TreeAgent$Value")) 3 := ⟨mw1155, mw1033, by decide, by decide, by decide +kernel⟩
theorem yY_yX11_becomeText : sm_Y gTs yX11_becomeText cX11_becomeText 4 (some .int) 2 := ⟨mw1156, mw1033, by decide, by decide, by decide +kernel⟩
theorem yY_yX11_text : sm_Y gTs yX11_text cX11_text 4 (some .int) 2 := ⟨mw1157, mw1033, by decide, by decide, by decide +kernel⟩
theorem yY_yX11_becomeName : sm_Y gTs yX11_becomeName cX11_becomeName 4 (some .int) 2 := ⟨mw1158, mw1033, by decide, by decide, by decide +kernel⟩
theorem yY_yX11_identity : sm_Y gTs yX11_identity cX11_identity 4 (some .int) 2 := ⟨mw1159, mw1033, by decide, by decide, by decide +kernel⟩
theorem yY_yX11_communityNamed : sm_Y gTs yX11_communityNamed cX11_communityNamed 4 (some (.object "TreeAgent$Community")) 1 := ⟨mw1160, mw1033, by decide, by decide, by decide +kernel⟩
theorem yY_yX11_newCommunity : sm_Y gTs yX11_newCommunity cX11_newCommunity 2 (some .int) 1 := ⟨mw1161, mw1033, by decide, by decide, by decide +kernel⟩
theorem yY_yX11_community : sm_Y gTs yX11_community cX11_community 3 (some .int) 1 := ⟨mw1162, mw1033, by decide, by decide, by decide +kernel⟩
theorem yY_yX11_newView : sm_Y gTs yX11_newView cX11_newView 5 (some .int) 2 := ⟨mw1163, mw1033, by decide, by decide, by decide +kernel⟩
theorem yY_yX11_view : sm_Y gTs yX11_view cX11_view 4 (some .int) 2 := ⟨mw1164, mw1033, by decide, by decide, by decide +kernel⟩
theorem yY_yX11_limit : sm_Y gTs yX11_limit cX11_limit 3 (some .int) 1 := ⟨mw1165, mw1033, by decide, by decide, by decide +kernel⟩
theorem yY_yX11_tick : sm_Y gTs yX11_tick cX11_tick 3 (some .long) 1 := ⟨mw1166, mw1033, by decide, by decide, by decide +kernel⟩
theorem yY_yX11_takeMessage : sm_Y gTs yX11_takeMessage cX11_takeMessage 2 (some .int) 0 := ⟨mw1167, mw1033, by decide, by decide, by decide +kernel⟩
theorem yY_yX11_countOne : sm_Y gTs yX11_countOne cX11_countOne 2 none 1 := ⟨mw1168, mw1033, by decide, by decide, by decide +kernel⟩
theorem yY_yX11_valueFor : sm_Y gTs yX11_valueFor cX11_valueFor 6 (some (.object "TreeAgent$Value")) 1 := ⟨mw1169, mw1033, by decide, by decide, by decide +kernel⟩
theorem yY_yX11_tellValues : sm_Y gTs yX11_tellValues cX11_tellValues 4 none 0 := ⟨mw1170, mw1033, by decide, by decide, by decide +kernel⟩
theorem yY_yX11_nextOf : sm_Y gTs yX11_nextOf cX11_nextOf 7 (some (.object "TreeAgent$Value")) 2 := ⟨mw1171, mw1033, by decide, by decide, by decide +kernel⟩
theorem yY_yX11_nextAfter : sm_Y gTs yX11_nextAfter cX11_nextAfter 5 (some (.object "TreeAgent$Value")) 1 := ⟨mw1172, mw1033, by decide, by decide, by decide +kernel⟩
theorem yY_yX11_tellNexts : sm_Y gTs yX11_tellNexts cX11_tellNexts 4 none 0 := ⟨mw1173, mw1033, by decide, by decide, by decide +kernel⟩
theorem yY_yX11_tellMany : sm_Y gTs yX11_tellMany cX11_tellMany 10 none 0 := ⟨mw1174, mw1033, by decide, by decide, by decide +kernel⟩
theorem yY_yX11_errorInVersion : sm_Y gTs yX11_errorInVersion cX11_errorInVersion 2 (some .int) 1 := ⟨mw1175, mw1033, by decide, by decide, by decide +kernel⟩
theorem yY_yX11_tellSet : sm_Y gTs yX11_tellSet cX11_tellSet 3 none 0 := ⟨mw1176, mw1033, by decide, by decide, by decide +kernel⟩
theorem yY_yX11_give : sm_Y gTs yX11_give cX11_give 2 (some .int) 0 := ⟨mw1177, mw1033, by decide, by decide, by decide +kernel⟩
theorem yY_yX11_question : sm_Y gTs yX11_question cX11_question 2 (some .int) 0 := ⟨mw1178, mw1033, by decide, by decide, by decide +kernel⟩
theorem yY_yX11_answer : sm_Y gTs yX11_answer cX11_answer 2 (some .int) 1 := ⟨mw1179, mw1033, by decide, by decide, by decide +kernel⟩
theorem yY_yX11_count : sm_Y gTs yX11_count cX11_count 2 (some .int) 1 := ⟨mw1180, mw1033, by decide, by decide, by decide +kernel⟩
theorem yY_yX11_rows : sm_Y gTs yX11_rows cX11_rows 3 (some .int) 1 := ⟨mw1181, mw1033, by decide, by decide, by decide +kernel⟩
theorem yY_yX11_told : sm_Y gTs yX11_told cX11_told 5 (some .long) 2 := ⟨mw1182, mw1033, by decide, by decide, by decide +kernel⟩
theorem yY_yX11_part : sm_Y gTs yX11_part cX11_part 6 (some .long) 3 := ⟨mw1183, mw1033, by decide, by decide, by decide +kernel⟩
theorem yY_yX12_init : sm_Y gTs yX12_init cX12_init 1 none 0 := ⟨mw1184, mw1029, by decide, by decide, by decide +kernel⟩
theorem yY_yX12_in : sm_Y gTs yX12_in cX12_in 6 (some .boolean) 3 := ⟨mw1185, mw1029, by decide, by decide, by decide +kernel⟩
theorem yY_yX12_begins : sm_Y gTs yX12_begins cX12_begins 8 (some .boolean) 6 := ⟨mw1186, mw1029, by decide, by decide, by decide +kernel⟩
theorem yY_yX12_order : sm_Y gTs yX12_order cX12_order 7 (some .int) 6 := ⟨mw1187, mw1029, by decide, by decide, by decide +kernel⟩
theorem yY_yX12_feed : sm_Y gTs yX12_feed cX12_feed 5 (some .int) 2 := ⟨mw1188, mw1029, by decide, by decide, by decide +kernel⟩
theorem yY_yX12_number : sm_Y gTs yX12_number cX12_number 5 (some .int) 1 := ⟨mw1189, mw1029, by decide, by decide, by decide +kernel⟩
theorem yY_yX12_clashes : sm_Y gTs yX12_clashes cX12_clashes 4 (some .boolean) 1 := ⟨mw1190, mw1029, by decide, by decide, by decide +kernel⟩
theorem yY_yX12_isTag : sm_Y gTs yX12_isTag cX12_isTag 1 (some .boolean) 1 := ⟨mw1191, mw1029, by decide, by decide, by decide +kernel⟩
theorem yY_yX12_first : sm_Y gTs yX12_first cX12_first 3 none 2 := ⟨mw1192, mw1029, by decide, by decide, by decide +kernel⟩
theorem yY_yX12_newObject : sm_Y gTs yX12_newObject cX12_newObject 11 (some .int) 6 := ⟨mw1193, mw1029, by decide, by decide, by decide +kernel⟩
theorem yY_yX12_scalar : sm_Y gTs yX12_scalar cX12_scalar 9 (some .int) 4 := ⟨mw1194, mw1029, by decide, by decide, by decide +kernel⟩
theorem yY_yX12_table : sm_Y gTs yX12_table cX12_table 3 (some .int) 0 := ⟨mw1195, mw1029, by decide, by decide, by decide +kernel⟩
theorem yY_yX12_columnOf : sm_Y gTs yX12_columnOf cX12_columnOf 13 (some .int) 7 := ⟨mw1196, mw1029, by decide, by decide, by decide +kernel⟩
theorem yY_yX12_column : sm_Y gTs yX12_column cX12_column 9 (some .int) 6 := ⟨mw1197, mw1029, by decide, by decide, by decide +kernel⟩
theorem yY_yX12_status : sm_Y gTs yX12_status cX12_status 3 (some .int) 2 := ⟨mw1198, mw1029, by decide, by decide, by decide +kernel⟩
theorem yY_yX12_placeOf : sm_Y gTs yX12_placeOf cX12_placeOf 5 (some .int) 2 := ⟨mw1199, mw1029, by decide, by decide, by decide +kernel⟩
theorem yY_yX12_makeRow : sm_Y gTs yX12_makeRow cX12_makeRow 7 none 3 := ⟨mw1200, mw1029, by decide, by decide, by decide +kernel⟩
theorem yY_yX12_dropRow : sm_Y gTs yX12_dropRow cX12_dropRow 3 none 2 := ⟨mw1201, mw1029, by decide, by decide, by decide +kernel⟩
theorem yY_yX12_row : sm_Y gTs yX12_row cX12_row 5 (some .int) 3 := ⟨mw1202, mw1029, by decide, by decide, by decide +kernel⟩
theorem yY_yX12_instance : sm_Y gTs yX12_instance cX12_instance 4 (some .int) 2 := ⟨mw1203, mw1029, by decide, by decide, by decide +kernel⟩
theorem yY_yX12_value : sm_Y gTs yX12_value cX12_value 6 (some .int) 3 := ⟨mw1204, mw1029, by decide, by decide, by decide +kernel⟩
theorem yY_yX12_text : sm_Y gTs yX12_text cX12_text 6 (some .int) 2 := ⟨mw1205, mw1029, by decide, by decide, by decide +kernel⟩
theorem yY_yX12_identity : sm_Y gTs yX12_identity cX12_identity 6 (some .int) 2 := ⟨mw1206, mw1029, by decide, by decide, by decide +kernel⟩
theorem yY_yX12_communityOf : sm_Y gTs yX12_communityOf cX12_communityOf 7 (some .int) 3 := ⟨mw1207, mw1029, by decide, by decide, by decide +kernel⟩
theorem yY_yX12_community : sm_Y gTs yX12_community cX12_community 4 (some .int) 1 := ⟨mw1208, mw1029, by decide, by decide, by decide +kernel⟩
theorem yY_yX12_view : sm_Y gTs yX12_view cX12_view 6 (some .int) 2 := ⟨mw1209, mw1029, by decide, by decide, by decide +kernel⟩
theorem yY_yX12_limit : sm_Y gTs yX12_limit cX12_limit 3 (some .int) 1 := ⟨mw1210, mw1029, by decide, by decide, by decide +kernel⟩
theorem yY_yX12_tick : sm_Y gTs yX12_tick cX12_tick 3 (some .long) 1 := ⟨mw1211, mw1029, by decide, by decide, by decide +kernel⟩
theorem yY_yX12_octet : sm_Y gTs yX12_octet cX12_octet 2 (some .int) 1 := ⟨mw1212, mw1029, by decide, by decide, by decide +kernel⟩
theorem yY_yX12_size : sm_Y gTs yX12_size cX12_size 6 (some .int) 1 := ⟨mw1213, mw1029, by decide, by decide, by decide +kernel⟩
theorem yY_yX12_field : sm_Y gTs yX12_field cX12_field 4 (some .int) 2 := ⟨mw1214, mw1029, by decide, by decide, by decide +kernel⟩
theorem yY_yX12_read : sm_Y gTs yX12_read cX12_read 7 (some .long) 1 := ⟨mw1215, mw1029, by decide, by decide, by decide +kernel⟩
theorem yY_yX12_integer : sm_Y gTs yX12_integer cX12_integer 5 (some .int) 1 := ⟨mw1216, mw1029, by decide, by decide, by decide +kernel⟩
theorem yY_yX12_readName : sm_Y gTs yX12_readName cX12_readName 8 (some .int) 3 := ⟨mw1217, mw1029, by decide, by decide, by decide +kernel⟩
theorem yY_yX12_readValue : sm_Y gTs yX12_readValue cX12_readValue 9 none 2 := ⟨mw1218, mw1029, by decide, by decide, by decide +kernel⟩
theorem yY_yX12_readRow : sm_Y gTs yX12_readRow cX12_readRow 5 none 1 := ⟨mw1219, mw1029, by decide, by decide, by decide +kernel⟩
theorem yY_yX12_readAll : sm_Y gTs yX12_readAll cX12_readAll 6 none 1 := ⟨mw1220, mw1029, by decide, by decide, by decide +kernel⟩
theorem yY_yX12_inView : sm_Y gTs yX12_inView cX12_inView 7 (some .boolean) 3 := ⟨mw1221, mw1029, by decide, by decide, by decide +kernel⟩
theorem yY_yX12_nameOf : sm_Y gTs yX12_nameOf cX12_nameOf 4 none 2 := ⟨mw1222, mw1029, by decide, by decide, by decide +kernel⟩
theorem yY_yX12_isThere : sm_Y gTs yX12_isThere cX12_isThere 3 (some .boolean) 2 := ⟨mw1223, mw1029, by decide, by decide, by decide +kernel⟩
theorem yY_yX12_objectOf : sm_Y gTs yX12_objectOf cX12_objectOf 6 (some .int) 4 := ⟨mw1224, mw1029, by decide, by decide, by decide +kernel⟩
theorem yY_yX12_copyName : sm_Y gTs yX12_copyName cX12_copyName 4 none 2 := ⟨mw1225, mw1029, by decide, by decide, by decide +kernel⟩
theorem yY_yX12_numberOf : sm_Y gTs yX12_numberOf cX12_numberOf 3 (some .long) 2 := ⟨mw1226, mw1029, by decide, by decide, by decide +kernel⟩
theorem yY_yX12_tell : sm_Y gTs yX12_tell cX12_tell 6 none 3 := ⟨mw1227, mw1029, by decide, by decide, by decide +kernel⟩
theorem yY_yX12_get : sm_Y gTs yX12_get cX12_get 8 none 2 := ⟨mw1228, mw1029, by decide, by decide, by decide +kernel⟩
theorem yY_yX12_next : sm_Y gTs yX12_next cX12_next 10 none 2 := ⟨mw1229, mw1029, by decide, by decide, by decide +kernel⟩
theorem yY_yX12_around : sm_Y gTs yX12_around cX12_around 1 (some .int) 1 := ⟨mw1230, mw1029, by decide, by decide, by decide +kernel⟩
theorem yY_yX12_numberSize : sm_Y gTs yX12_numberSize cX12_numberSize 4 (some .int) 2 := ⟨mw1231, mw1029, by decide, by decide, by decide +kernel⟩
theorem yY_yX12_partSize : sm_Y gTs yX12_partSize cX12_partSize 3 (some .int) 1 := ⟨mw1232, mw1029, by decide, by decide, by decide +kernel⟩
theorem yY_yX12_nameOctets : sm_Y gTs yX12_nameOctets cX12_nameOctets 5 (some .int) 3 := ⟨mw1233, mw1029, by decide, by decide, by decide +kernel⟩
theorem yY_yX12_valueOctets : sm_Y gTs yX12_valueOctets cX12_valueOctets 3 (some .int) 1 := ⟨mw1234, mw1029, by decide, by decide, by decide +kernel⟩
theorem yY_yX12_rowOctets : sm_Y gTs yX12_rowOctets cX12_rowOctets 2 (some .int) 1 := ⟨mw1235, mw1029, by decide, by decide, by decide +kernel⟩
theorem yY_yX12_rowsOctets : sm_Y gTs yX12_rowsOctets cX12_rowsOctets 5 (some .int) 2 := ⟨mw1236, mw1029, by decide, by decide, by decide +kernel⟩
theorem yY_yX12_bodyOctets : sm_Y gTs yX12_bodyOctets cX12_bodyOctets 3 (some .int) 2 := ⟨mw1237, mw1029, by decide, by decide, by decide +kernel⟩
theorem yY_yX12_allOctets : sm_Y gTs yX12_allOctets cX12_allOctets 3 (some .int) 2 := ⟨mw1238, mw1029, by decide, by decide, by decide +kernel⟩
theorem yY_yX12_put : sm_Y gTs yX12_put cX12_put 2 none 1 := ⟨mw1239, mw1029, by decide, by decide, by decide +kernel⟩
theorem yY_yX12_head : sm_Y gTs yX12_head cX12_head 3 none 2 := ⟨mw1240, mw1029, by decide, by decide, by decide +kernel⟩
theorem yY_yX12_writeNumber : sm_Y gTs yX12_writeNumber cX12_writeNumber 6 none 2 := ⟨mw1241, mw1029, by decide, by decide, by decide +kernel⟩
theorem yY_yX12_names : sm_Y gTs yX12_names cX12_names 6 none 3 := ⟨mw1242, mw1029, by decide, by decide, by decide +kernel⟩
theorem yY_yX12_writeValue : sm_Y gTs yX12_writeValue cX12_writeValue 4 none 1 := ⟨mw1243, mw1029, by decide, by decide, by decide +kernel⟩
theorem yY_yX12_write : sm_Y gTs yX12_write cX12_write 4 none 2 := ⟨mw1244, mw1029, by decide, by decide, by decide +kernel⟩
theorem yY_yX12_oneMore : sm_Y gTs yX12_oneMore cX12_oneMore 2 (some .boolean) 1 := ⟨mw1245, mw1029, by decide, by decide, by decide +kernel⟩
theorem yY_yX12_many : sm_Y gTs yX12_many cX12_many 9 none 0 := ⟨mw1246, mw1029, by decide, by decide, by decide +kernel⟩
theorem yY_yX12_fail : sm_Y gTs yX12_fail cX12_fail 3 none 2 := ⟨mw1247, mw1029, by decide, by decide, by decide +kernel⟩
theorem yY_yX12_isMaking : sm_Y gTs yX12_isMaking cX12_isMaking 6 (some .boolean) 3 := ⟨mw1248, mw1029, by decide, by decide, by decide +kernel⟩
theorem yY_yX12_checkPlace : sm_Y gTs yX12_checkPlace cX12_checkPlace 12 none 2 := ⟨mw1249, mw1029, by decide, by decide, by decide +kernel⟩
theorem yY_yX12_check : sm_Y gTs yX12_check cX12_check 6 none 1 := ⟨mw1250, mw1029, by decide, by decide, by decide +kernel⟩
theorem yY_yX12_carryOut : sm_Y gTs yX12_carryOut cX12_carryOut 6 none 0 := ⟨mw1251, mw1029, by decide, by decide, by decide +kernel⟩
theorem yY_yX12_find : sm_Y gTs yX12_find cX12_find 2 none 0 := ⟨mw1252, mw1029, by decide, by decide, by decide +kernel⟩
theorem yY_yX12_question : sm_Y gTs yX12_question cX12_question 4 (some .int) 0 := ⟨mw1253, mw1029, by decide, by decide, by decide +kernel⟩
theorem yY_yX12_answer : sm_Y gTs yX12_answer cX12_answer 2 (some .int) 1 := ⟨mw1254, mw1029, by decide, by decide, by decide +kernel⟩
theorem yY_yX12_count : sm_Y gTs yX12_count cX12_count 2 (some .int) 1 := ⟨mw1255, mw1029, by decide, by decide, by decide +kernel⟩
theorem yY_yX12_rows : sm_Y gTs yX12_rows cX12_rows 2 (some .int) 1 := ⟨mw1256, mw1029, by decide, by decide, by decide +kernel⟩
theorem yY_yX12_told : sm_Y gTs yX12_told cX12_told 4 (some .long) 2 := ⟨mw1257, mw1029, by decide, by decide, by decide +kernel⟩
theorem yY_yX12_part : sm_Y gTs yX12_part cX12_part 5 (some .long) 3 := ⟨mw1258, mw1029, by decide, by decide, by decide +kernel⟩

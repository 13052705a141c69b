/-! the words that the walks use, by their places -/
def kAll : List Cond := lw_tbl.filter goodWord
theorem kin {w : Cond} {i : Nat} (h : tables_1[i]? = some w) (hg : goodWord w = true) : w ∈ kAll := List.mem_filter.mpr ⟨List.mem_append_right _ (List.mem_of_getElem? h), hg⟩
theorem kis {w : Cond} {i : Nat} (h : (k2_sels lw_privs)[i]? = some w) (hg : goodWord w = true) : w ∈ kAll := List.mem_filter.mpr ⟨List.mem_append_left _ (List.mem_of_getElem? h), hg⟩
theorem kAll_good : ∀ w ∈ kAll, (w.onTables && w.keeps) = true ∨ ∃ ty, w = .arrayClass ty := fun w h => good_of_word (List.mem_filter.mp h).2
theorem kAll_tbl : ∀ w ∈ kAll, w ∈ lw_tbl := fun w h => (List.mem_filter.mp h).1
theorem g_cons {a b : Cond} (hb : b ∈ kAll) : ∀ w ∈ b :: kAll, w ∈ a :: kAll ∧ ((w.onTables && w.keeps) = true ∨ ∃ ty, w = .arrayClass ty) := fun w h => by
  have h2 : w ∈ kAll := (List.mem_cons.mp h).elim (fun e => by rw [e]; exact hb) id
  exact ⟨List.mem_cons_of_mem _ h2, kAll_good w h2⟩
theorem g_one {a w : Cond} (h : w ∈ kAll) : w ∈ a :: kAll ∧ ((w.onTables && w.keeps) = true ∨ ∃ ty, w = .arrayClass ty) := ⟨List.mem_cons_of_mem _ h, kAll_good w h⟩
theorem g_I {a b : Cond} (hb : b ∈ kAll) : GoodIn (a :: kAll) (b :: kAll) := g_cons hb
theorem g_V {a b : Cond} {own C : String} {ix : Nat} {y : MethodName} (h1 : Cond.methodLink own ix y ∈ kAll) (h2 : Cond.instanceMethod y ∈ kAll) (h3 : Cond.selects C y y ∈ kAll) (h4 : Cond.initialized C ∈ kAll) (hb : b ∈ kAll) : GoodIn (a :: kAll) (wsV own ix C y (b :: kAll)) := by
  intro w hw
  unfold wsV at hw
  rcases List.mem_append.mp hw with h | h
  · simp only [List.mem_cons, List.not_mem_nil, or_false] at h
    rcases h with h | h | h | h <;> subst h
    · exact g_one h1
    · exact g_one h2
    · exact g_one h3
    · exact g_one h4
  · exact g_cons hb w h
theorem g_S {a b : Cond} {own : String} {ix : Nat} {y : MethodName} (h1 : Cond.methodLink own ix y ∈ kAll) (h2 : Cond.static y ∈ kAll) (h3 : Cond.initialized y.cls ∈ kAll) (hb : b ∈ kAll) : GoodIn (a :: kAll) (va_wsS own ix y (b :: kAll)) := by
  intro w hw
  unfold va_wsS at hw
  rcases List.mem_append.mp hw with h | h
  · simp only [List.mem_cons, List.not_mem_nil, or_false] at h
    rcases h with h | h | h <;> subst h
    · exact g_one h1
    · exact g_one h2
    · exact g_one h3
  · exact g_cons hb w h
theorem iaX2 : ∀ w ∈ wsX20, w ∈ kAll := by decide +kernel
theorem iaX3 : ∀ w ∈ wsX30, w ∈ kAll := by decide +kernel
theorem iaX4 : ∀ w ∈ wsX40, w ∈ kAll := by decide +kernel
theorem iaX5 : ∀ w ∈ wsX50, w ∈ kAll := by decide +kernel
theorem iaX6 : ∀ w ∈ wsX60, w ∈ kAll := by decide +kernel
theorem iaX7 : ∀ w ∈ wsX70, w ∈ kAll := by decide +kernel
theorem wd_0 : (Cond.methodLink RX6 141 Lib.Math.min.name : Cond) ∈ kAll := kin (i := 50) (by decide +kernel) (by decide +kernel)
theorem wd_1 : (Cond.static Lib.Math.min.name : Cond) ∈ kAll := kin (i := 51) (by decide +kernel) (by decide +kernel)
theorem wd_2 : (Cond.initialized "java/lang/Math" : Cond) ∈ kAll := kin (i := 3) (by decide +kernel) (by decide +kernel)
theorem wd_3 : (Cond.code Lib.Math.min.name Lib.Math.min.code 2 (some .int) : Cond) ∈ kAll := kin (i := 52) (by decide +kernel) (by decide +kernel)
theorem wd_4 : (Cond.methodLink RX6 146 Lib.Math.max.name : Cond) ∈ kAll := kin (i := 53) (by decide +kernel) (by decide +kernel)
theorem wd_5 : (Cond.static Lib.Math.max.name : Cond) ∈ kAll := kin (i := 35) (by decide +kernel) (by decide +kernel)
theorem wd_6 : (Cond.code Lib.Math.max.name Lib.Math.max.code 2 (some .int) : Cond) ∈ kAll := kin (i := 36) (by decide +kernel) (by decide +kernel)
theorem wd_7 : (Cond.fieldLink RX3 19 "ByteShapes$Row" "size" "I" : Cond) ∈ kAll := kin (i := 38) (by decide +kernel) (by decide +kernel)
theorem wd_8 : (Cond.initialized RX6 : Cond) ∈ kAll := kin (i := 1) (by decide +kernel) (by decide +kernel)
theorem wd_9 : (Cond.static yX6_between : Cond) ∈ kAll := kin (i := 48) (by decide +kernel) (by decide +kernel)
theorem wd_10 : (Cond.code yX6_between cX6_between 3 (some .int) : Cond) ∈ kAll := kin (i := 49) (by decide +kernel) (by decide +kernel)
theorem wd_11 : (Cond.fieldLink RX3 13 "ByteShapes$Row" "bytes" "[B" : Cond) ∈ kAll := kin (i := 37) (by decide +kernel) (by decide +kernel)
theorem wd_12 : (Cond.methodLink RX3 38 Lib.Math.min.name : Cond) ∈ kAll := kin (i := 161) (by decide +kernel) (by decide +kernel)
theorem wd_13 : (Cond.methodLink RX3 41 arraycopyName : Cond) ∈ kAll := kin (i := 162) (by decide +kernel) (by decide +kernel)
theorem wd_14 : (Cond.native arraycopyName : Cond) ∈ kAll := kin (i := 164) (by decide +kernel) (by decide +kernel)
theorem wd_15 : (Cond.static arraycopyName : Cond) ∈ kAll := kin (i := 163) (by decide +kernel) (by decide +kernel)
theorem wd_16 : (Cond.initialized "java/lang/System" : Cond) ∈ kAll := kin (i := 16) (by decide +kernel) (by decide +kernel)
theorem wd_17 : (Cond.constant RX1 9 (536870911) : Cond) ∈ kAll := kin (i := 406) (by decide +kernel) (by decide +kernel)
theorem wd_18 : (Cond.constant RX1 10 (-1073741824) : Cond) ∈ kAll := kin (i := 410) (by decide +kernel) (by decide +kernel)
theorem wd_19 : (Cond.constant RX1 11 (536870912) : Cond) ∈ kAll := kin (i := 418) (by decide +kernel) (by decide +kernel)
theorem wd_20 : (Cond.constantLong RX0 9 (9223372036854775807) : Cond) ∈ kAll := kin (i := 361) (by decide +kernel) (by decide +kernel)
theorem wd_21 : (Cond.constantLong RX0 11 (9218868437227405312) : Cond) ∈ kAll := kin (i := 362) (by decide +kernel) (by decide +kernel)
theorem wd_22 : (Cond.constantLong RX0 15 (4503599627370496) : Cond) ∈ kAll := kin (i := 367) (by decide +kernel) (by decide +kernel)
theorem wd_23 : (Cond.constantLong RX0 17 (4503599627370495) : Cond) ∈ kAll := kin (i := 368) (by decide +kernel) (by decide +kernel)
theorem wd_24 : (Cond.constantLong RX0 13 (4611686018427387904) : Cond) ∈ kAll := kin (i := 366) (by decide +kernel) (by decide +kernel)
theorem wd_25 : (Cond.methodLink RX0 19 yX0_roundsUp : Cond) ∈ kAll := kin (i := 369) (by decide +kernel) (by decide +kernel)
theorem wd_26 : (Cond.static yX0_roundsUp : Cond) ∈ kAll := kin (i := 370) (by decide +kernel) (by decide +kernel)
theorem wd_27 : (Cond.initialized RX0 : Cond) ∈ kAll := kin (i := 14) (by decide +kernel) (by decide +kernel)
theorem wd_28 : (Cond.code yX0_roundsUp cX0_roundsUp 6 (some .boolean) : Cond) ∈ kAll := kin (i := 371) (by decide +kernel) (by decide +kernel)
theorem wd_29 : (Cond.methodLink RX0 23 Lib.MathLoose.abs_long.x : Cond) ∈ kAll := kin (i := 530) (by decide +kernel) (by decide +kernel)
theorem wd_30 : (Cond.static Lib.MathLoose.abs_long.x : Cond) ∈ kAll := kin (i := 531) (by decide +kernel) (by decide +kernel)
theorem wd_31 : (Cond.code Lib.MathLoose.abs_long.x Lib.MathLoose.abs_long.code 2 (some .long) : Cond) ∈ kAll := kin (i := 532) (by decide +kernel) (by decide +kernel)
theorem wd_32 : (Cond.constantLong RX0 29 (2) : Cond) ∈ kAll := kin (i := 533) (by decide +kernel) (by decide +kernel)
theorem wd_33 : (Cond.constantLong RX0 31 (-9223372036854775808) : Cond) ∈ kAll := kin (i := 534) (by decide +kernel) (by decide +kernel)
theorem wd_34 : (Cond.fieldLink RX4 22 "ByteShapes$Shape" "numbersKept" "I" : Cond) ∈ kAll := kin (i := 62) (by decide +kernel) (by decide +kernel)
theorem wd_35 : (Cond.fieldLink RX4 26 "ByteShapes$Shape" "valuesKept" "I" : Cond) ∈ kAll := kin (i := 63) (by decide +kernel) (by decide +kernel)
theorem wd_36 : (Cond.fieldLink RX4 13 "ByteShapes$Shape" "numbers" "[I" : Cond) ∈ kAll := kin (i := 60) (by decide +kernel) (by decide +kernel)
theorem wd_37 : (Cond.fieldLink RX4 19 "ByteShapes$Shape" "values" "[I" : Cond) ∈ kAll := kin (i := 61) (by decide +kernel) (by decide +kernel)
theorem wd_38 : (Cond.methodLink RX4 36 yX4_pointSize : Cond) ∈ kAll := kin (i := 522) (by decide +kernel) (by decide +kernel)
theorem wd_39 : (Cond.instanceMethod yX4_pointSize : Cond) ∈ kAll := kin (i := 523) (by decide +kernel) (by decide +kernel)
theorem wd_40 : (Cond.selects RX4 yX4_pointSize yX4_pointSize : Cond) ∈ kAll := kin (i := 524) (by decide +kernel) (by decide +kernel)
theorem wd_41 : (Cond.initialized RX4 : Cond) ∈ kAll := kin (i := 4) (by decide +kernel) (by decide +kernel)
theorem wd_42 : (Cond.code yX4_pointSize cX4_pointSize 1 (some .int) : Cond) ∈ kAll := kin (i := 525) (by decide +kernel) (by decide +kernel)
theorem wd_43 : (Cond.fieldLink RX2 23 "ByteShapes$Reader" "wrong" "I" : Cond) ∈ kAll := kin (i := 88) (by decide +kernel) (by decide +kernel)
theorem wd_44 : (Cond.fieldLink RX2 26 "ByteShapes$Reader" "place" "I" : Cond) ∈ kAll := kin (i := 89) (by decide +kernel) (by decide +kernel)
theorem wd_45 : (Cond.fieldLink RX2 46 "ByteShapes$Reader" "from" "LByteShapes$Row;" : Cond) ∈ kAll := kin (i := 84) (by decide +kernel) (by decide +kernel)
theorem wd_46 : (Cond.fieldLink RX2 43 "ByteShapes$Reader" "at" "I" : Cond) ∈ kAll := kin (i := 86) (by decide +kernel) (by decide +kernel)
theorem wd_47 : (Cond.methodLink RX2 50 yX3_size : Cond) ∈ kAll := kin (i := 333) (by decide +kernel) (by decide +kernel)
theorem wd_48 : (Cond.instanceMethod yX3_size : Cond) ∈ kAll := kin (i := 166) (by decide +kernel) (by decide +kernel)
theorem wd_49 : (Cond.selects RX3 yX3_size yX3_size : Cond) ∈ kAll := kin (i := 167) (by decide +kernel) (by decide +kernel)
theorem wd_50 : (Cond.initialized RX3 : Cond) ∈ kAll := kin (i := 2) (by decide +kernel) (by decide +kernel)
theorem wd_51 : (Cond.code yX3_size cX3_size 1 (some .int) : Cond) ∈ kAll := kin (i := 168) (by decide +kernel) (by decide +kernel)
theorem wd_52 : (Cond.methodLink RX2 56 yX2_fail : Cond) ∈ kAll := kin (i := 321) (by decide +kernel) (by decide +kernel)
theorem wd_53 : (Cond.instanceMethod yX2_fail : Cond) ∈ kAll := kin (i := 323) (by decide +kernel) (by decide +kernel)
theorem wd_54 : (Cond.selects RX2 yX2_fail yX2_fail : Cond) ∈ kAll := kis (i := 5) (by decide +kernel) (by decide +kernel)
theorem wd_55 : (Cond.initialized RX2 : Cond) ∈ kAll := kin (i := 5) (by decide +kernel) (by decide +kernel)
theorem wd_56 : (Cond.code yX2_fail cX2_fail 3 (some .boolean) : Cond) ∈ kAll := kin (i := 324) (by decide +kernel) (by decide +kernel)
theorem wd_57 : (Cond.fieldLink RX2 85 "ByteShapes$Reader" "lowFirst" "Z" : Cond) ∈ kAll := kin (i := 87) (by decide +kernel) (by decide +kernel)
theorem wd_58 : (Cond.methodLink RX2 89 yX3_numberAt : Cond) ∈ kAll := kin (i := 338) (by decide +kernel) (by decide +kernel)
theorem wd_59 : (Cond.instanceMethod yX3_numberAt : Cond) ∈ kAll := kin (i := 339) (by decide +kernel) (by decide +kernel)
theorem wd_60 : (Cond.selects RX3 yX3_numberAt yX3_numberAt : Cond) ∈ kAll := kin (i := 340) (by decide +kernel) (by decide +kernel)
theorem wd_61 : (Cond.code yX3_numberAt cX3_numberAt 8 (some .long) : Cond) ∈ kAll := kin (i := 341) (by decide +kernel) (by decide +kernel)
theorem wd_62 : (Cond.fieldLink RX2 33 "ByteShapes$Reader" "waiting" "I" : Cond) ∈ kAll := kin (i := 83) (by decide +kernel) (by decide +kernel)
theorem wd_63 : (Cond.fieldLink RX2 11 "ByteShapes$Reader" "itemsLeft" "[J" : Cond) ∈ kAll := kin (i := 81) (by decide +kernel) (by decide +kernel)
theorem wd_64 : (Cond.fieldLink RX2 15 "ByteShapes$Reader" "itemsDue" "[I" : Cond) ∈ kAll := kin (i := 82) (by decide +kernel) (by decide +kernel)
theorem wd_65 : (Cond.methodLink RX2 96 yX2_isThere : Cond) ∈ kAll := kin (i := 329) (by decide +kernel) (by decide +kernel)
theorem wd_66 : (Cond.instanceMethod yX2_isThere : Cond) ∈ kAll := kin (i := 331) (by decide +kernel) (by decide +kernel)
theorem wd_67 : (Cond.selects RX2 yX2_isThere yX2_isThere : Cond) ∈ kAll := kis (i := 7) (by decide +kernel) (by decide +kernel)
theorem wd_68 : (Cond.code yX2_isThere cX2_isThere 2 (some .boolean) : Cond) ∈ kAll := kin (i := 332) (by decide +kernel) (by decide +kernel)
theorem wd_69 : (Cond.methodLink RX2 132 yX3_valueAt : Cond) ∈ kAll := kin (i := 398) (by decide +kernel) (by decide +kernel)
theorem wd_70 : (Cond.instanceMethod yX3_valueAt : Cond) ∈ kAll := kin (i := 399) (by decide +kernel) (by decide +kernel)
theorem wd_71 : (Cond.selects RX3 yX3_valueAt yX3_valueAt : Cond) ∈ kAll := kin (i := 400) (by decide +kernel) (by decide +kernel)
theorem wd_72 : (Cond.code yX3_valueAt cX3_valueAt 2 (some .int) : Cond) ∈ kAll := kin (i := 401) (by decide +kernel) (by decide +kernel)
theorem wd_73 : (Cond.methodLink RX2 138 yX0_isNoNumber : Cond) ∈ kAll := kin (i := 431) (by decide +kernel) (by decide +kernel)
theorem wd_74 : (Cond.static yX0_isNoNumber : Cond) ∈ kAll := kin (i := 432) (by decide +kernel) (by decide +kernel)
theorem wd_75 : (Cond.code yX0_isNoNumber cX0_isNoNumber 2 (some .boolean) : Cond) ∈ kAll := kin (i := 433) (by decide +kernel) (by decide +kernel)
theorem wd_76 : (Cond.fieldLink RX2 60 "ByteShapes$Reader" "into" "LByteShapes$Shape;" : Cond) ∈ kAll := kin (i := 85) (by decide +kernel) (by decide +kernel)
theorem wd_77 : (Cond.methodLink RX2 135 yX2_isEmptyPoint : Cond) ∈ kAll := kin (i := 427) (by decide +kernel) (by decide +kernel)
theorem wd_78 : (Cond.instanceMethod yX2_isEmptyPoint : Cond) ∈ kAll := kin (i := 429) (by decide +kernel) (by decide +kernel)
theorem wd_79 : (Cond.selects RX2 yX2_isEmptyPoint yX2_isEmptyPoint : Cond) ∈ kAll := kis (i := 15) (by decide +kernel) (by decide +kernel)
theorem wd_80 : (Cond.code yX2_isEmptyPoint cX2_isEmptyPoint 1 (some .boolean) : Cond) ∈ kAll := kin (i := 430) (by decide +kernel) (by decide +kernel)
theorem wd_81 : (Cond.methodLink RX2 122 yX4_addNumber : Cond) ∈ kAll := kin (i := 386) (by decide +kernel) (by decide +kernel)
theorem wd_82 : (Cond.instanceMethod yX4_addNumber : Cond) ∈ kAll := kin (i := 387) (by decide +kernel) (by decide +kernel)
theorem wd_83 : (Cond.selects RX4 yX4_addNumber yX4_addNumber : Cond) ∈ kAll := kin (i := 388) (by decide +kernel) (by decide +kernel)
theorem wd_84 : (Cond.code yX4_addNumber cX4_addNumber 2 none : Cond) ∈ kAll := kin (i := 389) (by decide +kernel) (by decide +kernel)
theorem wd_85 : (Cond.methodLink RX2 71 yX2_waitFor : Cond) ∈ kAll := kin (i := 305) (by decide +kernel) (by decide +kernel)
theorem wd_86 : (Cond.instanceMethod yX2_waitFor : Cond) ∈ kAll := kin (i := 307) (by decide +kernel) (by decide +kernel)
theorem wd_87 : (Cond.selects RX2 yX2_waitFor yX2_waitFor : Cond) ∈ kAll := kis (i := 2) (by decide +kernel) (by decide +kernel)
theorem wd_88 : (Cond.code yX2_waitFor cX2_waitFor 4 none : Cond) ∈ kAll := kin (i := 308) (by decide +kernel) (by decide +kernel)
theorem wd_89 : (Cond.methodLink RX2 99 yX2_takeNumber : Cond) ∈ kAll := kin (i := 334) (by decide +kernel) (by decide +kernel)
theorem wd_90 : (Cond.instanceMethod yX2_takeNumber : Cond) ∈ kAll := kin (i := 336) (by decide +kernel) (by decide +kernel)
theorem wd_91 : (Cond.selects RX2 yX2_takeNumber yX2_takeNumber : Cond) ∈ kAll := kis (i := 8) (by decide +kernel) (by decide +kernel)
theorem wd_92 : (Cond.code yX2_takeNumber cX2_takeNumber 4 (some .long) : Cond) ∈ kAll := kin (i := 337) (by decide +kernel) (by decide +kernel)
theorem wd_93 : (Cond.methodLink RX2 144 yX2_itemsOf : Cond) ∈ kAll := kin (i := 438) (by decide +kernel) (by decide +kernel)
theorem wd_94 : (Cond.static yX2_itemsOf : Cond) ∈ kAll := kin (i := 439) (by decide +kernel) (by decide +kernel)
theorem wd_95 : (Cond.code yX2_itemsOf cX2_itemsOf 1 (some .int) : Cond) ∈ kAll := kin (i := 440) (by decide +kernel) (by decide +kernel)
theorem wd_96 : (Cond.methodLink RX2 93 yX2_takeOrder : Cond) ∈ kAll := kin (i := 394) (by decide +kernel) (by decide +kernel)
theorem wd_97 : (Cond.instanceMethod yX2_takeOrder : Cond) ∈ kAll := kin (i := 396) (by decide +kernel) (by decide +kernel)
theorem wd_98 : (Cond.selects RX2 yX2_takeOrder yX2_takeOrder : Cond) ∈ kAll := kis (i := 11) (by decide +kernel) (by decide +kernel)
theorem wd_99 : (Cond.code yX2_takeOrder cX2_takeOrder 2 (some .boolean) : Cond) ∈ kAll := kin (i := 397) (by decide +kernel) (by decide +kernel)
theorem wd_100 : (Cond.methodLink RX2 119 yX4_hasRoomForPlan : Cond) ∈ kAll := kin (i := 382) (by decide +kernel) (by decide +kernel)
theorem wd_101 : (Cond.instanceMethod yX4_hasRoomForPlan : Cond) ∈ kAll := kin (i := 383) (by decide +kernel) (by decide +kernel)
theorem wd_102 : (Cond.selects RX4 yX4_hasRoomForPlan yX4_hasRoomForPlan : Cond) ∈ kAll := kin (i := 384) (by decide +kernel) (by decide +kernel)
theorem wd_103 : (Cond.code yX4_hasRoomForPlan cX4_hasRoomForPlan 2 (some .boolean) : Cond) ∈ kAll := kin (i := 385) (by decide +kernel) (by decide +kernel)
theorem wd_104 : (Cond.methodLink RX2 129 yX2_takeCount : Cond) ∈ kAll := kin (i := 434) (by decide +kernel) (by decide +kernel)
theorem wd_105 : (Cond.instanceMethod yX2_takeCount : Cond) ∈ kAll := kin (i := 436) (by decide +kernel) (by decide +kernel)
theorem wd_106 : (Cond.selects RX2 yX2_takeCount yX2_takeCount : Cond) ∈ kAll := kis (i := 16) (by decide +kernel) (by decide +kernel)
theorem wd_107 : (Cond.code yX2_takeCount cX2_takeCount 4 (some .boolean) : Cond) ∈ kAll := kin (i := 437) (by decide +kernel) (by decide +kernel)
theorem wd_108 : (Cond.methodLink RX2 126 yX2_takePoint : Cond) ∈ kAll := kin (i := 423) (by decide +kernel) (by decide +kernel)
theorem wd_109 : (Cond.instanceMethod yX2_takePoint : Cond) ∈ kAll := kin (i := 425) (by decide +kernel) (by decide +kernel)
theorem wd_110 : (Cond.selects RX2 yX2_takePoint yX2_takePoint : Cond) ∈ kAll := kis (i := 14) (by decide +kernel) (by decide +kernel)
theorem wd_111 : (Cond.code yX2_takePoint cX2_takePoint 1 (some .boolean) : Cond) ∈ kAll := kin (i := 426) (by decide +kernel) (by decide +kernel)
theorem wd_112 : (Cond.methodLink RX2 103 yX1_ofType : Cond) ∈ kAll := kin (i := 403) (by decide +kernel) (by decide +kernel)
theorem wd_113 : (Cond.static yX1_ofType : Cond) ∈ kAll := kin (i := 404) (by decide +kernel) (by decide +kernel)
theorem wd_114 : (Cond.initialized RX1 : Cond) ∈ kAll := kin (i := 15) (by decide +kernel) (by decide +kernel)
theorem wd_115 : (Cond.code yX1_ofType cX1_ofType 4 (some .int) : Cond) ∈ kAll := kin (i := 405) (by decide +kernel) (by decide +kernel)
theorem wd_116 : (Cond.methodLink RX2 107 yX1_hasMoreCoordinates : Cond) ∈ kAll := kin (i := 407) (by decide +kernel) (by decide +kernel)
theorem wd_117 : (Cond.static yX1_hasMoreCoordinates : Cond) ∈ kAll := kin (i := 408) (by decide +kernel) (by decide +kernel)
theorem wd_118 : (Cond.code yX1_hasMoreCoordinates cX1_hasMoreCoordinates 1 (some .boolean) : Cond) ∈ kAll := kin (i := 409) (by decide +kernel) (by decide +kernel)
theorem wd_119 : (Cond.methodLink RX2 113 yX1_hasMark : Cond) ∈ kAll := kin (i := 415) (by decide +kernel) (by decide +kernel)
theorem wd_120 : (Cond.static yX1_hasMark : Cond) ∈ kAll := kin (i := 416) (by decide +kernel) (by decide +kernel)
theorem wd_121 : (Cond.code yX1_hasMark cX1_hasMark 1 (some .boolean) : Cond) ∈ kAll := kin (i := 417) (by decide +kernel) (by decide +kernel)
theorem wd_122 : (Cond.methodLink RX2 116 yX2_passMark : Cond) ∈ kAll := kin (i := 419) (by decide +kernel) (by decide +kernel)
theorem wd_123 : (Cond.instanceMethod yX2_passMark : Cond) ∈ kAll := kin (i := 421) (by decide +kernel) (by decide +kernel)
theorem wd_124 : (Cond.selects RX2 yX2_passMark yX2_passMark : Cond) ∈ kAll := kis (i := 13) (by decide +kernel) (by decide +kernel)
theorem wd_125 : (Cond.code yX2_passMark cX2_passMark 1 (some .boolean) : Cond) ∈ kAll := kin (i := 422) (by decide +kernel) (by decide +kernel)
theorem wd_126 : (Cond.methodLink RX2 110 yX2_collectionsAround : Cond) ∈ kAll := kin (i := 411) (by decide +kernel) (by decide +kernel)
theorem wd_127 : (Cond.instanceMethod yX2_collectionsAround : Cond) ∈ kAll := kin (i := 413) (by decide +kernel) (by decide +kernel)
theorem wd_128 : (Cond.selects RX2 yX2_collectionsAround yX2_collectionsAround : Cond) ∈ kAll := kis (i := 12) (by decide +kernel) (by decide +kernel)
theorem wd_129 : (Cond.code yX2_collectionsAround cX2_collectionsAround 1 (some .int) : Cond) ∈ kAll := kin (i := 414) (by decide +kernel) (by decide +kernel)
theorem wd_130 : (Cond.fieldLink RX2 19 "ByteShapes$Reader" "unit" "I" : Cond) ∈ kAll := kin (i := 80) (by decide +kernel) (by decide +kernel)
theorem wd_131 : (Cond.constantLong RX2 160 (-1000000000) : Cond) ∈ kAll := kin (i := 372) (by decide +kernel) (by decide +kernel)
theorem wd_132 : (Cond.constantLong RX2 162 (1000000000) : Cond) ∈ kAll := kin (i := 373) (by decide +kernel) (by decide +kernel)
theorem wd_133 : (Cond.methodLink RX2 153 yX0_isFinite : Cond) ∈ kAll := kin (i := 358) (by decide +kernel) (by decide +kernel)
theorem wd_134 : (Cond.static yX0_isFinite : Cond) ∈ kAll := kin (i := 359) (by decide +kernel) (by decide +kernel)
theorem wd_135 : (Cond.code yX0_isFinite cX0_isFinite 2 (some .boolean) : Cond) ∈ kAll := kin (i := 360) (by decide +kernel) (by decide +kernel)
theorem wd_136 : (Cond.methodLink RX2 156 yX0_rounded : Cond) ∈ kAll := kin (i := 363) (by decide +kernel) (by decide +kernel)
theorem wd_137 : (Cond.static yX0_rounded : Cond) ∈ kAll := kin (i := 364) (by decide +kernel) (by decide +kernel)
theorem wd_138 : (Cond.code yX0_rounded cX0_rounded 10 (some .long) : Cond) ∈ kAll := kin (i := 365) (by decide +kernel) (by decide +kernel)
theorem wd_139 : (Cond.methodLink RX2 164 yX4_addValue : Cond) ∈ kAll := kin (i := 374) (by decide +kernel) (by decide +kernel)
theorem wd_140 : (Cond.instanceMethod yX4_addValue : Cond) ∈ kAll := kin (i := 375) (by decide +kernel) (by decide +kernel)
theorem wd_141 : (Cond.selects RX4 yX4_addValue yX4_addValue : Cond) ∈ kAll := kin (i := 376) (by decide +kernel) (by decide +kernel)
theorem wd_142 : (Cond.code yX4_addValue cX4_addValue 2 none : Cond) ∈ kAll := kin (i := 377) (by decide +kernel) (by decide +kernel)
theorem wd_143 : (Cond.methodLink RX2 147 yX4_hasRoomForPoint : Cond) ∈ kAll := kin (i := 317) (by decide +kernel) (by decide +kernel)
theorem wd_144 : (Cond.instanceMethod yX4_hasRoomForPoint : Cond) ∈ kAll := kin (i := 318) (by decide +kernel) (by decide +kernel)
theorem wd_145 : (Cond.selects RX4 yX4_hasRoomForPoint yX4_hasRoomForPoint : Cond) ∈ kAll := kin (i := 319) (by decide +kernel) (by decide +kernel)
theorem wd_146 : (Cond.code yX4_hasRoomForPoint cX4_hasRoomForPoint 1 (some .boolean) : Cond) ∈ kAll := kin (i := 320) (by decide +kernel) (by decide +kernel)
theorem wd_147 : (Cond.methodLink RX2 150 yX2_takeValue : Cond) ∈ kAll := kin (i := 325) (by decide +kernel) (by decide +kernel)
theorem wd_148 : (Cond.instanceMethod yX2_takeValue : Cond) ∈ kAll := kin (i := 327) (by decide +kernel) (by decide +kernel)
theorem wd_149 : (Cond.selects RX2 yX2_takeValue yX2_takeValue : Cond) ∈ kAll := kis (i := 6) (by decide +kernel) (by decide +kernel)
theorem wd_150 : (Cond.code yX2_takeValue cX2_takeValue 6 (some .boolean) : Cond) ∈ kAll := kin (i := 328) (by decide +kernel) (by decide +kernel)
theorem wd_151 : (Cond.methodLink RX2 81 yX2_takeShape : Cond) ∈ kAll := kin (i := 390) (by decide +kernel) (by decide +kernel)
theorem wd_152 : (Cond.instanceMethod yX2_takeShape : Cond) ∈ kAll := kin (i := 392) (by decide +kernel) (by decide +kernel)
theorem wd_153 : (Cond.selects RX2 yX2_takeShape yX2_takeShape : Cond) ∈ kAll := kis (i := 10) (by decide +kernel) (by decide +kernel)
theorem wd_154 : (Cond.code yX2_takeShape cX2_takeShape 5 (some .boolean) : Cond) ∈ kAll := kin (i := 393) (by decide +kernel) (by decide +kernel)
theorem wd_155 : (Cond.methodLink RX2 78 yX2_takeRing : Cond) ∈ kAll := kin (i := 378) (by decide +kernel) (by decide +kernel)
theorem wd_156 : (Cond.instanceMethod yX2_takeRing : Cond) ∈ kAll := kin (i := 380) (by decide +kernel) (by decide +kernel)
theorem wd_157 : (Cond.selects RX2 yX2_takeRing yX2_takeRing : Cond) ∈ kAll := kis (i := 9) (by decide +kernel) (by decide +kernel)
theorem wd_158 : (Cond.code yX2_takeRing cX2_takeRing 4 (some .boolean) : Cond) ∈ kAll := kin (i := 381) (by decide +kernel) (by decide +kernel)
theorem wd_159 : (Cond.methodLink RX2 75 yX2_takeCoordinate : Cond) ∈ kAll := kin (i := 313) (by decide +kernel) (by decide +kernel)
theorem wd_160 : (Cond.instanceMethod yX2_takeCoordinate : Cond) ∈ kAll := kin (i := 315) (by decide +kernel) (by decide +kernel)
theorem wd_161 : (Cond.selects RX2 yX2_takeCoordinate yX2_takeCoordinate : Cond) ∈ kAll := kis (i := 4) (by decide +kernel) (by decide +kernel)
theorem wd_162 : (Cond.code yX2_takeCoordinate cX2_takeCoordinate 1 (some .boolean) : Cond) ∈ kAll := kin (i := 316) (by decide +kernel) (by decide +kernel)
theorem wd_163 : (Cond.methodLink RX2 64 yX4_clear : Cond) ∈ kAll := kin (i := 301) (by decide +kernel) (by decide +kernel)
theorem wd_164 : (Cond.instanceMethod yX4_clear : Cond) ∈ kAll := kin (i := 302) (by decide +kernel) (by decide +kernel)
theorem wd_165 : (Cond.selects RX4 yX4_clear yX4_clear : Cond) ∈ kAll := kin (i := 303) (by decide +kernel) (by decide +kernel)
theorem wd_166 : (Cond.code yX4_clear cX4_clear 1 none : Cond) ∈ kAll := kin (i := 304) (by decide +kernel) (by decide +kernel)
theorem wd_167 : (Cond.methodLink RX2 29 yX2_begin : Cond) ∈ kAll := kin (i := 297) (by decide +kernel) (by decide +kernel)
theorem wd_168 : (Cond.instanceMethod yX2_begin : Cond) ∈ kAll := kin (i := 299) (by decide +kernel) (by decide +kernel)
theorem wd_169 : (Cond.selects RX2 yX2_begin yX2_begin : Cond) ∈ kAll := kis (i := 1) (by decide +kernel) (by decide +kernel)
theorem wd_170 : (Cond.code yX2_begin cX2_begin 3 none : Cond) ∈ kAll := kin (i := 300) (by decide +kernel) (by decide +kernel)
theorem wd_171 : (Cond.methodLink RX2 36 yX2_takeItem : Cond) ∈ kAll := kin (i := 309) (by decide +kernel) (by decide +kernel)
theorem wd_172 : (Cond.instanceMethod yX2_takeItem : Cond) ∈ kAll := kin (i := 311) (by decide +kernel) (by decide +kernel)
theorem wd_173 : (Cond.selects RX2 yX2_takeItem yX2_takeItem : Cond) ∈ kAll := kis (i := 3) (by decide +kernel) (by decide +kernel)
theorem wd_174 : (Cond.code yX2_takeItem cX2_takeItem 3 (some .boolean) : Cond) ∈ kAll := kin (i := 312) (by decide +kernel) (by decide +kernel)
theorem wd_175 : (Cond.methodLink RX2 40 yX2_leaveFinished : Cond) ∈ kAll := kin (i := 441) (by decide +kernel) (by decide +kernel)
theorem wd_176 : (Cond.instanceMethod yX2_leaveFinished : Cond) ∈ kAll := kin (i := 443) (by decide +kernel) (by decide +kernel)
theorem wd_177 : (Cond.selects RX2 yX2_leaveFinished yX2_leaveFinished : Cond) ∈ kAll := kis (i := 17) (by decide +kernel) (by decide +kernel)
theorem wd_178 : (Cond.code yX2_leaveFinished cX2_leaveFinished 1 none : Cond) ∈ kAll := kin (i := 444) (by decide +kernel) (by decide +kernel)
theorem wd_179 : (Cond.classLink RX3 29 "java/lang/IndexOutOfBoundsException" : Cond) ∈ kAll := kin (i := 342) (by decide +kernel) (by decide +kernel)
theorem wd_180 : (Cond.initialized "java/lang/IndexOutOfBoundsException" : Cond) ∈ kAll := kin (i := 13) (by decide +kernel) (by decide +kernel)
theorem wd_181 : (Cond.classLink RX4 29 "java/lang/IndexOutOfBoundsException" : Cond) ∈ kAll := kin (i := 453) (by decide +kernel) (by decide +kernel)
theorem wd_182 : (Cond.methodLink RX4 42 yX4_startsAlike : Cond) ∈ kAll := kin (i := 550) (by decide +kernel) (by decide +kernel)
theorem wd_183 : (Cond.static yX4_startsAlike : Cond) ∈ kAll := kin (i := 551) (by decide +kernel) (by decide +kernel)
theorem wd_184 : (Cond.code yX4_startsAlike cX4_startsAlike 5 (some .boolean) : Cond) ∈ kAll := kin (i := 552) (by decide +kernel) (by decide +kernel)
theorem wd_185 : (Cond.methodLink RX3 1 objectInit : Cond) ∈ kAll := kin (i := 33) (by decide +kernel) (by decide +kernel)
theorem wd_186 : (Cond.instanceMethod objectInit : Cond) ∈ kAll := kin (i := 23) (by decide +kernel) (by decide +kernel)
theorem wd_187 : (Cond.code objectInit ⟨#[0xb1]⟩ 1 none : Cond) ∈ kAll := kin (i := 24) (by decide +kernel) (by decide +kernel)
theorem wd_188 : (Cond.methodLink RX3 7 Lib.Math.max.name : Cond) ∈ kAll := kin (i := 34) (by decide +kernel) (by decide +kernel)
theorem wd_189 : (Cond.arrayClass .byte : Cond) ∈ kAll := kin (i := 44) (by decide +kernel) (by decide +kernel)
theorem wd_190 : (Cond.methodLink RX4 1 objectInit : Cond) ∈ kAll := kin (i := 58) (by decide +kernel) (by decide +kernel)
theorem wd_191 : (Cond.methodLink RX4 7 Lib.Math.max.name : Cond) ∈ kAll := kin (i := 59) (by decide +kernel) (by decide +kernel)
theorem wd_192 : (Cond.arrayClass .int : Cond) ∈ kAll := kin (i := 73) (by decide +kernel) (by decide +kernel)
theorem wd_193 : (Cond.methodLink RX2 5 objectInit : Cond) ∈ kAll := kin (i := 79) (by decide +kernel) (by decide +kernel)
theorem wd_194 : (Cond.arrayClass .long : Cond) ∈ kAll := kin (i := 111) (by decide +kernel) (by decide +kernel)
theorem wd_195 : (Cond.methodLink RX5 1 objectInit : Cond) ∈ kAll := kin (i := 117) (by decide +kernel) (by decide +kernel)
theorem wd_196 : (Cond.fieldLink RX5 7 "ByteShapes$Writer" "unit" "I" : Cond) ∈ kAll := kin (i := 118) (by decide +kernel) (by decide +kernel)
theorem wd_197 : (Cond.fieldLink RX6 11 "ByteShapes" "shapes" "[LByteShapes$Shape;" : Cond) ∈ kAll := kin (i := 137) (by decide +kernel) (by decide +kernel)
theorem wd_198 : (Cond.methodLink RX6 79 yX6_isSlot : Cond) ∈ kAll := kin (i := 290) (by decide +kernel) (by decide +kernel)
theorem wd_199 : (Cond.static yX6_isSlot : Cond) ∈ kAll := kin (i := 291) (by decide +kernel) (by decide +kernel)
theorem wd_200 : (Cond.code yX6_isSlot cX6_isSlot 1 (some .boolean) : Cond) ∈ kAll := kin (i := 292) (by decide +kernel) (by decide +kernel)
theorem wd_201 : (Cond.classLink RX6 87 "java/lang/IndexOutOfBoundsException" : Cond) ∈ kAll := kin (i := 445) (by decide +kernel) (by decide +kernel)
theorem wd_202 : (Cond.fieldLink RX6 21 "ByteShapes" "tape" "LByteShapes$Row;" : Cond) ∈ kAll := kin (i := 138) (by decide +kernel) (by decide +kernel)
theorem wd_203 : (Cond.constant RX6 57 (65516) : Cond) ∈ kAll := kin (i := 180) (by decide +kernel) (by decide +kernel)
theorem wd_204 : (Cond.methodLink RX6 53 yX3_size : Cond) ∈ kAll := kin (i := 165) (by decide +kernel) (by decide +kernel)
theorem wd_205 : (Cond.methodLink RX6 65 yX3_append : Cond) ∈ kAll := kin (i := 248) (by decide +kernel) (by decide +kernel)
theorem wd_206 : (Cond.instanceMethod yX3_append : Cond) ∈ kAll := kin (i := 249) (by decide +kernel) (by decide +kernel)
theorem wd_207 : (Cond.selects RX3 yX3_append yX3_append : Cond) ∈ kAll := kin (i := 250) (by decide +kernel) (by decide +kernel)
theorem wd_208 : (Cond.code yX3_append cX3_append 7 none : Cond) ∈ kAll := kin (i := 251) (by decide +kernel) (by decide +kernel)
theorem wd_209 : (Cond.classLink RX6 58 "java/lang/IllegalStateException" : Cond) ∈ kAll := kin (i := 181) (by decide +kernel) (by decide +kernel)
theorem wd_210 : (Cond.initialized "java/lang/IllegalStateException" : Cond) ∈ kAll := kin (i := 11) (by decide +kernel) (by decide +kernel)
theorem wd_211 : (Cond.methodLink RX6 76 yX3_cut : Cond) ∈ kAll := kin (i := 277) (by decide +kernel) (by decide +kernel)
theorem wd_212 : (Cond.instanceMethod yX3_cut : Cond) ∈ kAll := kin (i := 278) (by decide +kernel) (by decide +kernel)
theorem wd_213 : (Cond.selects RX3 yX3_cut yX3_cut : Cond) ∈ kAll := kin (i := 279) (by decide +kernel) (by decide +kernel)
theorem wd_214 : (Cond.code yX3_cut cX3_cut 2 none : Cond) ∈ kAll := kin (i := 280) (by decide +kernel) (by decide +kernel)
theorem wd_215 : (Cond.classLink RX6 69 "java/lang/IllegalArgumentException" : Cond) ∈ kAll := kin (i := 260) (by decide +kernel) (by decide +kernel)
theorem wd_216 : (Cond.initialized "java/lang/IllegalArgumentException" : Cond) ∈ kAll := kin (i := 12) (by decide +kernel) (by decide +kernel)
theorem wd_217 : (Cond.fieldLink RX6 42 "ByteShapes" "reader" "LByteShapes$Reader;" : Cond) ∈ kAll := kin (i := 140) (by decide +kernel) (by decide +kernel)
theorem wd_218 : (Cond.methodLink RX6 83 yX2_takeAll : Cond) ∈ kAll := kin (i := 293) (by decide +kernel) (by decide +kernel)
theorem wd_219 : (Cond.instanceMethod yX2_takeAll : Cond) ∈ kAll := kin (i := 294) (by decide +kernel) (by decide +kernel)
theorem wd_220 : (Cond.selects RX2 yX2_takeAll yX2_takeAll : Cond) ∈ kAll := kin (i := 295) (by decide +kernel) (by decide +kernel)
theorem wd_221 : (Cond.code yX2_takeAll cX2_takeAll 5 (some .boolean) : Cond) ∈ kAll := kin (i := 296) (by decide +kernel) (by decide +kernel)
theorem wd_222 : (Cond.methodLink RX6 94 yX4_planAt : Cond) ∈ kAll := kin (i := 449) (by decide +kernel) (by decide +kernel)
theorem wd_223 : (Cond.instanceMethod yX4_planAt : Cond) ∈ kAll := kin (i := 450) (by decide +kernel) (by decide +kernel)
theorem wd_224 : (Cond.selects RX4 yX4_planAt yX4_planAt : Cond) ∈ kAll := kin (i := 451) (by decide +kernel) (by decide +kernel)
theorem wd_225 : (Cond.code yX4_planAt cX4_planAt 2 (some .int) : Cond) ∈ kAll := kin (i := 452) (by decide +kernel) (by decide +kernel)
theorem wd_226 : (Cond.methodLink RX6 100 yX2_wrong : Cond) ∈ kAll := kin (i := 464) (by decide +kernel) (by decide +kernel)
theorem wd_227 : (Cond.instanceMethod yX2_wrong : Cond) ∈ kAll := kin (i := 465) (by decide +kernel) (by decide +kernel)
theorem wd_228 : (Cond.selects RX2 yX2_wrong yX2_wrong : Cond) ∈ kAll := kin (i := 466) (by decide +kernel) (by decide +kernel)
theorem wd_229 : (Cond.code yX2_wrong cX2_wrong 1 (some .int) : Cond) ∈ kAll := kin (i := 467) (by decide +kernel) (by decide +kernel)
theorem wd_230 : (Cond.methodLink RX6 103 yX2_place : Cond) ∈ kAll := kin (i := 468) (by decide +kernel) (by decide +kernel)
theorem wd_231 : (Cond.instanceMethod yX2_place : Cond) ∈ kAll := kin (i := 469) (by decide +kernel) (by decide +kernel)
theorem wd_232 : (Cond.selects RX2 yX2_place yX2_place : Cond) ∈ kAll := kin (i := 470) (by decide +kernel) (by decide +kernel)
theorem wd_233 : (Cond.code yX2_place cX2_place 1 (some .int) : Cond) ∈ kAll := kin (i := 471) (by decide +kernel) (by decide +kernel)
theorem wd_234 : (Cond.fieldLink RX6 25 "ByteShapes" "result" "LByteShapes$Row;" : Cond) ∈ kAll := kin (i := 139) (by decide +kernel) (by decide +kernel)
theorem wd_235 : (Cond.methodLink RX6 121 yX3_become : Cond) ∈ kAll := kin (i := 157) (by decide +kernel) (by decide +kernel)
theorem wd_236 : (Cond.instanceMethod yX3_become : Cond) ∈ kAll := kin (i := 158) (by decide +kernel) (by decide +kernel)
theorem wd_237 : (Cond.selects RX3 yX3_become yX3_become : Cond) ∈ kAll := kin (i := 159) (by decide +kernel) (by decide +kernel)
theorem wd_238 : (Cond.code yX3_become cX3_become 2 none : Cond) ∈ kAll := kin (i := 160) (by decide +kernel) (by decide +kernel)
theorem wd_239 : (Cond.methodLink RX6 106 yX6_shapeIn : Cond) ∈ kAll := kin (i := 479) (by decide +kernel) (by decide +kernel)
theorem wd_240 : (Cond.instanceMethod yX6_shapeIn : Cond) ∈ kAll := kin (i := 481) (by decide +kernel) (by decide +kernel)
theorem wd_241 : (Cond.selects RX6 yX6_shapeIn yX6_shapeIn : Cond) ∈ kAll := kis (i := 18) (by decide +kernel) (by decide +kernel)
theorem wd_242 : (Cond.code yX6_shapeIn cX6_shapeIn 2 (some (.object "ByteShapes$Shape")) : Cond) ∈ kAll := kin (i := 482) (by decide +kernel) (by decide +kernel)
theorem wd_243 : (Cond.methodLink RX6 125 yX4_isLike : Cond) ∈ kAll := kin (i := 546) (by decide +kernel) (by decide +kernel)
theorem wd_244 : (Cond.instanceMethod yX4_isLike : Cond) ∈ kAll := kin (i := 547) (by decide +kernel) (by decide +kernel)
theorem wd_245 : (Cond.selects RX4 yX4_isLike yX4_isLike : Cond) ∈ kAll := kin (i := 548) (by decide +kernel) (by decide +kernel)
theorem wd_246 : (Cond.code yX4_isLike cX4_isLike 2 (some .boolean) : Cond) ∈ kAll := kin (i := 549) (by decide +kernel) (by decide +kernel)
theorem wd_247 : (Cond.methodLink RX6 129 yX4_valueOfPoint : Cond) ∈ kAll := kin (i := 567) (by decide +kernel) (by decide +kernel)
theorem wd_248 : (Cond.instanceMethod yX4_valueOfPoint : Cond) ∈ kAll := kin (i := 519) (by decide +kernel) (by decide +kernel)
theorem wd_249 : (Cond.selects RX4 yX4_valueOfPoint yX4_valueOfPoint : Cond) ∈ kAll := kin (i := 520) (by decide +kernel) (by decide +kernel)
theorem wd_250 : (Cond.code yX4_valueOfPoint cX4_valueOfPoint 3 (some .int) : Cond) ∈ kAll := kin (i := 521) (by decide +kernel) (by decide +kernel)
theorem wd_251 : (Cond.methodLink RX6 133 yX3_valueAt : Cond) ∈ kAll := kin (i := 575) (by decide +kernel) (by decide +kernel)
theorem wd_252 : (Cond.methodLink RX6 112 yX4_planSize : Cond) ∈ kAll := kin (i := 484) (by decide +kernel) (by decide +kernel)
theorem wd_253 : (Cond.instanceMethod yX4_planSize : Cond) ∈ kAll := kin (i := 485) (by decide +kernel) (by decide +kernel)
theorem wd_254 : (Cond.selects RX4 yX4_planSize yX4_planSize : Cond) ∈ kAll := kin (i := 486) (by decide +kernel) (by decide +kernel)
theorem wd_255 : (Cond.code yX4_planSize cX4_planSize 1 (some .int) : Cond) ∈ kAll := kin (i := 487) (by decide +kernel) (by decide +kernel)
theorem wd_256 : (Cond.methodLink RX6 136 yX4_pointSize : Cond) ∈ kAll := kin (i := 583) (by decide +kernel) (by decide +kernel)
theorem wd_257 : (Cond.fieldLink RX5 13 "ByteShapes$Writer" "shape" "LByteShapes$Shape;" : Cond) ∈ kAll := kin (i := 119) (by decide +kernel) (by decide +kernel)
theorem wd_258 : (Cond.fieldLink RX5 24 "ByteShapes$Writer" "planAt" "I" : Cond) ∈ kAll := kin (i := 122) (by decide +kernel) (by decide +kernel)
theorem wd_259 : (Cond.methodLink RX5 67 yX4_planAt : Cond) ∈ kAll := kin (i := 503) (by decide +kernel) (by decide +kernel)
theorem wd_260 : (Cond.fieldLink RX5 17 "ByteShapes$Writer" "row" "LByteShapes$Row;" : Cond) ∈ kAll := kin (i := 120) (by decide +kernel) (by decide +kernel)
theorem wd_261 : (Cond.fieldLink RX5 21 "ByteShapes$Writer" "order" "I" : Cond) ∈ kAll := kin (i := 121) (by decide +kernel) (by decide +kernel)
theorem wd_262 : (Cond.methodLink RX5 48 yX3_append : Cond) ∈ kAll := kin (i := 504) (by decide +kernel) (by decide +kernel)
theorem wd_263 : (Cond.fieldLink RX5 27 "ByteShapes$Writer" "pointAt" "I" : Cond) ∈ kAll := kin (i := 123) (by decide +kernel) (by decide +kernel)
theorem wd_264 : (Cond.methodLink RX5 74 yX4_valueOfPoint : Cond) ∈ kAll := kin (i := 518) (by decide +kernel) (by decide +kernel)
theorem wd_265 : (Cond.methodLink RX5 78 yX0_nearest : Cond) ∈ kAll := kin (i := 527) (by decide +kernel) (by decide +kernel)
theorem wd_266 : (Cond.static yX0_nearest : Cond) ∈ kAll := kin (i := 528) (by decide +kernel) (by decide +kernel)
theorem wd_267 : (Cond.code yX0_nearest cX0_nearest 13 (some .long) : Cond) ∈ kAll := kin (i := 529) (by decide +kernel) (by decide +kernel)
theorem wd_268 : (Cond.methodLink RX5 52 yX5_put : Cond) ∈ kAll := kin (i := 505) (by decide +kernel) (by decide +kernel)
theorem wd_269 : (Cond.instanceMethod yX5_put : Cond) ∈ kAll := kin (i := 507) (by decide +kernel) (by decide +kernel)
theorem wd_270 : (Cond.selects RX5 yX5_put yX5_put : Cond) ∈ kAll := kis (i := 21) (by decide +kernel) (by decide +kernel)
theorem wd_271 : (Cond.initialized RX5 : Cond) ∈ kAll := kin (i := 6) (by decide +kernel) (by decide +kernel)
theorem wd_272 : (Cond.code yX5_put cX5_put 4 none : Cond) ∈ kAll := kin (i := 508) (by decide +kernel) (by decide +kernel)
theorem wd_273 : (Cond.methodLink RX5 45 yX5_nextOfPlan : Cond) ∈ kAll := kin (i := 499) (by decide +kernel) (by decide +kernel)
theorem wd_274 : (Cond.instanceMethod yX5_nextOfPlan : Cond) ∈ kAll := kin (i := 501) (by decide +kernel) (by decide +kernel)
theorem wd_275 : (Cond.selects RX5 yX5_nextOfPlan yX5_nextOfPlan : Cond) ∈ kAll := kis (i := 20) (by decide +kernel) (by decide +kernel)
theorem wd_276 : (Cond.code yX5_nextOfPlan cX5_nextOfPlan 2 (some .int) : Cond) ∈ kAll := kin (i := 502) (by decide +kernel) (by decide +kernel)
theorem wd_277 : (Cond.methodLink RX5 61 yX5_putCoordinates : Cond) ∈ kAll := kin (i := 514) (by decide +kernel) (by decide +kernel)
theorem wd_278 : (Cond.instanceMethod yX5_putCoordinates : Cond) ∈ kAll := kin (i := 516) (by decide +kernel) (by decide +kernel)
theorem wd_279 : (Cond.selects RX5 yX5_putCoordinates yX5_putCoordinates : Cond) ∈ kAll := kis (i := 23) (by decide +kernel) (by decide +kernel)
theorem wd_280 : (Cond.code yX5_putCoordinates cX5_putCoordinates 3 none : Cond) ∈ kAll := kin (i := 517) (by decide +kernel) (by decide +kernel)
theorem wd_281 : (Cond.constantLong RX5 72 (9221120237041090560) : Cond) ∈ kAll := kin (i := 513) (by decide +kernel) (by decide +kernel)
theorem wd_282 : (Cond.methodLink RX5 64 yX5_putRings : Cond) ∈ kAll := kin (i := 535) (by decide +kernel) (by decide +kernel)
theorem wd_283 : (Cond.instanceMethod yX5_putRings : Cond) ∈ kAll := kin (i := 537) (by decide +kernel) (by decide +kernel)
theorem wd_284 : (Cond.selects RX5 yX5_putRings yX5_putRings : Cond) ∈ kAll := kis (i := 24) (by decide +kernel) (by decide +kernel)
theorem wd_285 : (Cond.code yX5_putRings cX5_putRings 4 none : Cond) ∈ kAll := kin (i := 538) (by decide +kernel) (by decide +kernel)
theorem wd_286 : (Cond.methodLink RX5 58 yX5_putPoint : Cond) ∈ kAll := kin (i := 509) (by decide +kernel) (by decide +kernel)
theorem wd_287 : (Cond.instanceMethod yX5_putPoint : Cond) ∈ kAll := kin (i := 511) (by decide +kernel) (by decide +kernel)
theorem wd_288 : (Cond.selects RX5 yX5_putPoint yX5_putPoint : Cond) ∈ kAll := kis (i := 22) (by decide +kernel) (by decide +kernel)
theorem wd_289 : (Cond.code yX5_putPoint cX5_putPoint 2 none : Cond) ∈ kAll := kin (i := 512) (by decide +kernel) (by decide +kernel)
theorem wd_290 : (Cond.methodLink RX5 30 yX3_cut : Cond) ∈ kAll := kin (i := 493) (by decide +kernel) (by decide +kernel)
theorem wd_291 : (Cond.methodLink RX5 36 yX4_planSize : Cond) ∈ kAll := kin (i := 494) (by decide +kernel) (by decide +kernel)
theorem wd_292 : (Cond.methodLink RX5 42 yX5_putShape : Cond) ∈ kAll := kin (i := 495) (by decide +kernel) (by decide +kernel)
theorem wd_293 : (Cond.instanceMethod yX5_putShape : Cond) ∈ kAll := kin (i := 497) (by decide +kernel) (by decide +kernel)
theorem wd_294 : (Cond.selects RX5 yX5_putShape yX5_putShape : Cond) ∈ kAll := kis (i := 19) (by decide +kernel) (by decide +kernel)
theorem wd_295 : (Cond.code yX5_putShape cX5_putShape 3 none : Cond) ∈ kAll := kin (i := 498) (by decide +kernel) (by decide +kernel)
theorem wd_296 : (Cond.fieldLink RX6 49 "ByteShapes" "writer" "LByteShapes$Writer;" : Cond) ∈ kAll := kin (i := 141) (by decide +kernel) (by decide +kernel)
theorem wd_297 : (Cond.methodLink RX6 117 yX5_putAll : Cond) ∈ kAll := kin (i := 489) (by decide +kernel) (by decide +kernel)
theorem wd_298 : (Cond.instanceMethod yX5_putAll : Cond) ∈ kAll := kin (i := 490) (by decide +kernel) (by decide +kernel)
theorem wd_299 : (Cond.selects RX5 yX5_putAll yX5_putAll : Cond) ∈ kAll := kin (i := 491) (by decide +kernel) (by decide +kernel)
theorem wd_300 : (Cond.code yX5_putAll cX5_putAll 6 none : Cond) ∈ kAll := kin (i := 492) (by decide +kernel) (by decide +kernel)
theorem wd_301 : (Cond.methodLink RX6 1 objectInit : Cond) ∈ kAll := kin (i := 22) (by decide +kernel) (by decide +kernel)
theorem wd_302 : (Cond.classLink RX6 9 "ByteShapes$Shape" : Cond) ∈ kAll := kin (i := 25) (by decide +kernel) (by decide +kernel)
theorem wd_303 : (Cond.classLink RX6 15 RX3 : Cond) ∈ kAll := kin (i := 27) (by decide +kernel) (by decide +kernel)
theorem wd_304 : (Cond.instantiable RX3 2 : Cond) ∈ kAll := kin (i := 28) (by decide +kernel) (by decide +kernel)
theorem wd_305 : (Cond.constant RX6 17 (65536) : Cond) ∈ kAll := kin (i := 29) (by decide +kernel) (by decide +kernel)
theorem wd_306 : (Cond.methodLink RX6 18 yX3_init : Cond) ∈ kAll := kin (i := 30) (by decide +kernel) (by decide +kernel)
theorem wd_307 : (Cond.instanceMethod yX3_init : Cond) ∈ kAll := kin (i := 31) (by decide +kernel) (by decide +kernel)
theorem wd_308 : (Cond.fieldLink RX6 28 "ByteShapes" "UNITS" "[I" : Cond) ∈ kAll := kin (i := 45) (by decide +kernel) (by decide +kernel)
theorem wd_309 : (Cond.instantiable RX4 4 : Cond) ∈ kAll := kin (i := 54) (by decide +kernel) (by decide +kernel)
theorem wd_310 : (Cond.methodLink RX6 36 yX4_init : Cond) ∈ kAll := kin (i := 55) (by decide +kernel) (by decide +kernel)
theorem wd_311 : (Cond.instanceMethod yX4_init : Cond) ∈ kAll := kin (i := 56) (by decide +kernel) (by decide +kernel)
theorem wd_312 : (Cond.classLink RX6 39 RX2 : Cond) ∈ kAll := kin (i := 74) (by decide +kernel) (by decide +kernel)
theorem wd_313 : (Cond.instantiable RX2 10 : Cond) ∈ kAll := kin (i := 75) (by decide +kernel) (by decide +kernel)
theorem wd_314 : (Cond.methodLink RX6 41 yX2_init : Cond) ∈ kAll := kin (i := 76) (by decide +kernel) (by decide +kernel)
theorem wd_315 : (Cond.instanceMethod yX2_init : Cond) ∈ kAll := kin (i := 77) (by decide +kernel) (by decide +kernel)
theorem wd_316 : (Cond.classLink RX6 46 RX5 : Cond) ∈ kAll := kin (i := 112) (by decide +kernel) (by decide +kernel)
theorem wd_317 : (Cond.instantiable RX5 6 : Cond) ∈ kAll := kin (i := 113) (by decide +kernel) (by decide +kernel)
theorem wd_318 : (Cond.methodLink RX6 48 yX5_init : Cond) ∈ kAll := kin (i := 114) (by decide +kernel) (by decide +kernel)
theorem wd_319 : (Cond.instanceMethod yX5_init : Cond) ∈ kAll := kin (i := 115) (by decide +kernel) (by decide +kernel)
theorem wd_320 : (Cond.code yX3_init cX3_init 2 none : Cond) ∈ kAll := kin (i := 32) (by decide +kernel) (by decide +kernel)
theorem wd_321 : (Cond.methodLink RX6 32 yX6_between : Cond) ∈ kAll := kin (i := 47) (by decide +kernel) (by decide +kernel)
theorem wd_322 : (Cond.code yX4_init cX4_init 3 none : Cond) ∈ kAll := kin (i := 57) (by decide +kernel) (by decide +kernel)
theorem wd_323 : (Cond.code yX2_init cX2_init 2 none : Cond) ∈ kAll := kin (i := 78) (by decide +kernel) (by decide +kernel)
theorem wd_324 : (Cond.code yX5_init cX5_init 2 none : Cond) ∈ kAll := kin (i := 116) (by decide +kernel) (by decide +kernel)
theorem wd_325 : (Cond.methodLink RL 7 yX6_feed : Cond) ∈ kAll := kin (i := 176) (by decide +kernel) (by decide +kernel)
theorem wd_326 : (Cond.instanceMethod yX6_feed : Cond) ∈ kAll := kin (i := 177) (by decide +kernel) (by decide +kernel)
theorem wd_327 : (Cond.selects RX6 yX6_feed yX6_feed : Cond) ∈ kAll := kin (i := 178) (by decide +kernel) (by decide +kernel)
theorem wd_328 : (Cond.code yX6_feed cX6_feed 6 (some .int) : Cond) ∈ kAll := kin (i := 179) (by decide +kernel) (by decide +kernel)
theorem wd_329 : (Cond.classLink RL 13 "java/lang/IllegalStateException" : Cond) ∈ kAll := kin (i := 175) (by decide +kernel) (by decide +kernel)
theorem wd_330 : (Cond.methodLink RL 15 yX6_end : Cond) ∈ kAll := kin (i := 256) (by decide +kernel) (by decide +kernel)
theorem wd_331 : (Cond.instanceMethod yX6_end : Cond) ∈ kAll := kin (i := 257) (by decide +kernel) (by decide +kernel)
theorem wd_332 : (Cond.selects RX6 yX6_end yX6_end : Cond) ∈ kAll := kin (i := 258) (by decide +kernel) (by decide +kernel)
theorem wd_333 : (Cond.code yX6_end cX6_end 2 (some .int) : Cond) ∈ kAll := kin (i := 259) (by decide +kernel) (by decide +kernel)
theorem wd_334 : (Cond.classLink RL 19 "java/lang/IllegalArgumentException" : Cond) ∈ kAll := kin (i := 255) (by decide +kernel) (by decide +kernel)
theorem wd_335 : (Cond.methodLink RL 21 yX6_read : Cond) ∈ kAll := kin (i := 286) (by decide +kernel) (by decide +kernel)
theorem wd_336 : (Cond.instanceMethod yX6_read : Cond) ∈ kAll := kin (i := 287) (by decide +kernel) (by decide +kernel)
theorem wd_337 : (Cond.selects RX6 yX6_read yX6_read : Cond) ∈ kAll := kin (i := 288) (by decide +kernel) (by decide +kernel)
theorem wd_338 : (Cond.code yX6_read cX6_read 4 (some .int) : Cond) ∈ kAll := kin (i := 289) (by decide +kernel) (by decide +kernel)
theorem wd_339 : (Cond.classLink RL 24 "java/lang/IndexOutOfBoundsException" : Cond) ∈ kAll := kin (i := 285) (by decide +kernel) (by decide +kernel)
theorem wd_340 : (Cond.methodLink RL 26 yX6_fault : Cond) ∈ kAll := kin (i := 459) (by decide +kernel) (by decide +kernel)
theorem wd_341 : (Cond.instanceMethod yX6_fault : Cond) ∈ kAll := kin (i := 460) (by decide +kernel) (by decide +kernel)
theorem wd_342 : (Cond.selects RX6 yX6_fault yX6_fault : Cond) ∈ kAll := kin (i := 461) (by decide +kernel) (by decide +kernel)
theorem wd_343 : (Cond.code yX6_fault cX6_fault 2 (some .int) : Cond) ∈ kAll := kin (i := 462) (by decide +kernel) (by decide +kernel)
theorem wd_344 : (Cond.methodLink RL 29 yX6_write : Cond) ∈ kAll := kin (i := 475) (by decide +kernel) (by decide +kernel)
theorem wd_345 : (Cond.instanceMethod yX6_write : Cond) ∈ kAll := kin (i := 476) (by decide +kernel) (by decide +kernel)
theorem wd_346 : (Cond.selects RX6 yX6_write yX6_write : Cond) ∈ kAll := kin (i := 477) (by decide +kernel) (by decide +kernel)
theorem wd_347 : (Cond.code yX6_write cX6_write 4 (some .int) : Cond) ∈ kAll := kin (i := 478) (by decide +kernel) (by decide +kernel)
theorem wd_348 : (Cond.methodLink RL 33 yX6_same : Cond) ∈ kAll := kin (i := 542) (by decide +kernel) (by decide +kernel)
theorem wd_349 : (Cond.instanceMethod yX6_same : Cond) ∈ kAll := kin (i := 543) (by decide +kernel) (by decide +kernel)
theorem wd_350 : (Cond.selects RX6 yX6_same yX6_same : Cond) ∈ kAll := kin (i := 544) (by decide +kernel) (by decide +kernel)
theorem wd_351 : (Cond.code yX6_same cX6_same 5 (some .boolean) : Cond) ∈ kAll := kin (i := 545) (by decide +kernel) (by decide +kernel)
theorem wd_352 : (Cond.methodLink RL 37 yX6_plan : Cond) ∈ kAll := kin (i := 556) (by decide +kernel) (by decide +kernel)
theorem wd_353 : (Cond.instanceMethod yX6_plan : Cond) ∈ kAll := kin (i := 557) (by decide +kernel) (by decide +kernel)
theorem wd_354 : (Cond.selects RX6 yX6_plan yX6_plan : Cond) ∈ kAll := kin (i := 558) (by decide +kernel) (by decide +kernel)
theorem wd_355 : (Cond.code yX6_plan cX6_plan 3 (some .int) : Cond) ∈ kAll := kin (i := 559) (by decide +kernel) (by decide +kernel)
theorem wd_356 : (Cond.methodLink RL 40 yX6_ordinate : Cond) ∈ kAll := kin (i := 563) (by decide +kernel) (by decide +kernel)
theorem wd_357 : (Cond.instanceMethod yX6_ordinate : Cond) ∈ kAll := kin (i := 564) (by decide +kernel) (by decide +kernel)
theorem wd_358 : (Cond.selects RX6 yX6_ordinate yX6_ordinate : Cond) ∈ kAll := kin (i := 565) (by decide +kernel) (by decide +kernel)
theorem wd_359 : (Cond.code yX6_ordinate cX6_ordinate 4 (some .int) : Cond) ∈ kAll := kin (i := 566) (by decide +kernel) (by decide +kernel)
theorem wd_360 : (Cond.methodLink RL 44 yX6_byteAt : Cond) ∈ kAll := kin (i := 571) (by decide +kernel) (by decide +kernel)
theorem wd_361 : (Cond.instanceMethod yX6_byteAt : Cond) ∈ kAll := kin (i := 572) (by decide +kernel) (by decide +kernel)
theorem wd_362 : (Cond.selects RX6 yX6_byteAt yX6_byteAt : Cond) ∈ kAll := kin (i := 573) (by decide +kernel) (by decide +kernel)
theorem wd_363 : (Cond.code yX6_byteAt cX6_byteAt 2 (some .int) : Cond) ∈ kAll := kin (i := 574) (by decide +kernel) (by decide +kernel)
theorem wd_364 : (Cond.methodLink RL 47 yX6_count : Cond) ∈ kAll := kin (i := 579) (by decide +kernel) (by decide +kernel)
theorem wd_365 : (Cond.instanceMethod yX6_count : Cond) ∈ kAll := kin (i := 580) (by decide +kernel) (by decide +kernel)
theorem wd_366 : (Cond.selects RX6 yX6_count yX6_count : Cond) ∈ kAll := kin (i := 581) (by decide +kernel) (by decide +kernel)
theorem wd_367 : (Cond.code yX6_count cX6_count 4 (some .int) : Cond) ∈ kAll := kin (i := 582) (by decide +kernel) (by decide +kernel)
theorem atw_0 : ∀ w ∈ (vx_atS RX3 33 "java/lang/IndexOutOfBoundsException" ["java/lang/RuntimeException", "java/lang/Exception"]).filter goodWord, w ∈ kAll := by decide +kernel
theorem atw_1 : ∀ w ∈ (vx_atS RX4 33 "java/lang/IndexOutOfBoundsException" ["java/lang/RuntimeException", "java/lang/Exception"]).filter goodWord, w ∈ kAll := by decide +kernel
theorem atw_2 : ∀ w ∈ (vx_atS RX6 91 "java/lang/IndexOutOfBoundsException" ["java/lang/RuntimeException", "java/lang/Exception"]).filter goodWord, w ∈ kAll := by decide +kernel
theorem atw_3 : ∀ w ∈ (vx_atS RX6 62 "java/lang/IllegalStateException" ["java/lang/RuntimeException", "java/lang/Exception"]).filter goodWord, w ∈ kAll := by decide +kernel
theorem atw_4 : ∀ w ∈ (vx_atS RX6 73 "java/lang/IllegalArgumentException" ["java/lang/RuntimeException", "java/lang/Exception"]).filter goodWord, w ∈ kAll := by decide +kernel
abbrev vsX0_isFinite : List Cond := .code yX0_isFinite cX0_isFinite 2 (some .boolean) :: kAll
abbrev vsX0_isNoNumber : List Cond := .code yX0_isNoNumber cX0_isNoNumber 2 (some .boolean) :: kAll
abbrev vsX0_rounded : List Cond := .code yX0_rounded cX0_rounded 10 (some .long) :: kAll
abbrev vsX0_roundsUp : List Cond := .code yX0_roundsUp cX0_roundsUp 6 (some .boolean) :: kAll
abbrev vsX0_nearest : List Cond := .code yX0_nearest cX0_nearest 13 (some .long) :: kAll
abbrev vsX1_ofType : List Cond := .code yX1_ofType cX1_ofType 4 (some .int) :: kAll
abbrev vsX1_hasMoreCoordinates : List Cond := .code yX1_hasMoreCoordinates cX1_hasMoreCoordinates 1 (some .boolean) :: kAll
abbrev vsX1_hasMark : List Cond := .code yX1_hasMark cX1_hasMark 1 (some .boolean) :: kAll
abbrev vsX2_init : List Cond := .code yX2_init cX2_init 2 none :: kAll
abbrev vsX2_wrong : List Cond := .code yX2_wrong cX2_wrong 1 (some .int) :: kAll
abbrev vsX2_place : List Cond := .code yX2_place cX2_place 1 (some .int) :: kAll
abbrev vsX2_takeAll : List Cond := .code yX2_takeAll cX2_takeAll 5 (some .boolean) :: kAll
abbrev vsX2_begin : List Cond := .code yX2_begin cX2_begin 3 none :: kAll
abbrev vsX2_waitFor : List Cond := .code yX2_waitFor cX2_waitFor 4 none :: kAll
abbrev vsX2_leaveFinished : List Cond := .code yX2_leaveFinished cX2_leaveFinished 1 none :: kAll
abbrev vsX2_takeItem : List Cond := .code yX2_takeItem cX2_takeItem 3 (some .boolean) :: kAll
abbrev vsX2_fail : List Cond := .code yX2_fail cX2_fail 3 (some .boolean) :: kAll
abbrev vsX2_isThere : List Cond := .code yX2_isThere cX2_isThere 2 (some .boolean) :: kAll
abbrev vsX2_takeNumber : List Cond := .code yX2_takeNumber cX2_takeNumber 4 (some .long) :: kAll
abbrev vsX2_takeShape : List Cond := .code yX2_takeShape cX2_takeShape 5 (some .boolean) :: kAll
abbrev vsX2_collectionsAround : List Cond := .code yX2_collectionsAround cX2_collectionsAround 1 (some .int) :: kAll
abbrev vsX2_takeOrder : List Cond := .code yX2_takeOrder cX2_takeOrder 2 (some .boolean) :: kAll
abbrev vsX2_passMark : List Cond := .code yX2_passMark cX2_passMark 1 (some .boolean) :: kAll
abbrev vsX2_takePoint : List Cond := .code yX2_takePoint cX2_takePoint 1 (some .boolean) :: kAll
abbrev vsX2_isEmptyPoint : List Cond := .code yX2_isEmptyPoint cX2_isEmptyPoint 1 (some .boolean) :: kAll
abbrev vsX2_takeCount : List Cond := .code yX2_takeCount cX2_takeCount 4 (some .boolean) :: kAll
abbrev vsX2_itemsOf : List Cond := .code yX2_itemsOf cX2_itemsOf 1 (some .int) :: kAll
abbrev vsX2_takeRing : List Cond := .code yX2_takeRing cX2_takeRing 4 (some .boolean) :: kAll
abbrev vsX2_takeCoordinate : List Cond := .code yX2_takeCoordinate cX2_takeCoordinate 1 (some .boolean) :: kAll
abbrev vsX2_takeValue : List Cond := .code yX2_takeValue cX2_takeValue 6 (some .boolean) :: kAll
abbrev vsX3_init : List Cond := .code yX3_init cX3_init 2 none :: kAll
abbrev vsX3_size : List Cond := .code yX3_size cX3_size 1 (some .int) :: kAll
abbrev vsX3_cut : List Cond := .code yX3_cut cX3_cut 2 none :: kAll
abbrev vsX3_valueAt : List Cond := .code yX3_valueAt cX3_valueAt 2 (some .int) :: kAll
abbrev vsX3_numberAt : List Cond := .code yX3_numberAt cX3_numberAt 8 (some .long) :: kAll
abbrev vsX3_append : List Cond := .code yX3_append cX3_append 7 none :: kAll
abbrev vsX3_become : List Cond := .code yX3_become cX3_become 2 none :: kAll
abbrev vsX4_init : List Cond := .code yX4_init cX4_init 3 none :: kAll
abbrev vsX4_clear : List Cond := .code yX4_clear cX4_clear 1 none :: kAll
abbrev vsX4_planSize : List Cond := .code yX4_planSize cX4_planSize 1 (some .int) :: kAll
abbrev vsX4_pointSize : List Cond := .code yX4_pointSize cX4_pointSize 1 (some .int) :: kAll
abbrev vsX4_hasRoomForPlan : List Cond := .code yX4_hasRoomForPlan cX4_hasRoomForPlan 2 (some .boolean) :: kAll
abbrev vsX4_hasRoomForPoint : List Cond := .code yX4_hasRoomForPoint cX4_hasRoomForPoint 1 (some .boolean) :: kAll
abbrev vsX4_addNumber : List Cond := .code yX4_addNumber cX4_addNumber 2 none :: kAll
abbrev vsX4_addValue : List Cond := .code yX4_addValue cX4_addValue 2 none :: kAll
abbrev vsX4_planAt : List Cond := .code yX4_planAt cX4_planAt 2 (some .int) :: kAll
abbrev vsX4_valueOfPoint : List Cond := .code yX4_valueOfPoint cX4_valueOfPoint 3 (some .int) :: kAll
abbrev vsX4_isLike : List Cond := .code yX4_isLike cX4_isLike 2 (some .boolean) :: kAll
abbrev vsX4_startsAlike : List Cond := .code yX4_startsAlike cX4_startsAlike 5 (some .boolean) :: kAll
abbrev vsX5_init : List Cond := .code yX5_init cX5_init 2 none :: kAll
abbrev vsX5_putAll : List Cond := .code yX5_putAll cX5_putAll 6 none :: kAll
abbrev vsX5_putShape : List Cond := .code yX5_putShape cX5_putShape 3 none :: kAll
abbrev vsX5_nextOfPlan : List Cond := .code yX5_nextOfPlan cX5_nextOfPlan 2 (some .int) :: kAll
abbrev vsX5_put : List Cond := .code yX5_put cX5_put 4 none :: kAll
abbrev vsX5_putPoint : List Cond := .code yX5_putPoint cX5_putPoint 2 none :: kAll
abbrev vsX5_putRings : List Cond := .code yX5_putRings cX5_putRings 4 none :: kAll
abbrev vsX5_putCoordinates : List Cond := .code yX5_putCoordinates cX5_putCoordinates 3 none :: kAll
abbrev vsX6_init : List Cond := .code yX6_init cX6_init 8 none :: kAll
abbrev vsX6_feed : List Cond := .code yX6_feed cX6_feed 6 (some .int) :: kAll
abbrev vsX6_end : List Cond := .code yX6_end cX6_end 2 (some .int) :: kAll
abbrev vsX6_read : List Cond := .code yX6_read cX6_read 4 (some .int) :: kAll
abbrev vsX6_fault : List Cond := .code yX6_fault cX6_fault 2 (some .int) :: kAll
abbrev vsX6_write : List Cond := .code yX6_write cX6_write 4 (some .int) :: kAll
abbrev vsX6_again : List Cond := .code yX6_again cX6_again 1 (some .int) :: kAll
abbrev vsX6_same : List Cond := .code yX6_same cX6_same 5 (some .boolean) :: kAll
abbrev vsX6_plan : List Cond := .code yX6_plan cX6_plan 3 (some .int) :: kAll
abbrev vsX6_ordinate : List Cond := .code yX6_ordinate cX6_ordinate 4 (some .int) :: kAll
abbrev vsX6_byteAt : List Cond := .code yX6_byteAt cX6_byteAt 2 (some .int) :: kAll
abbrev vsX6_count : List Cond := .code yX6_count cX6_count 4 (some .int) :: kAll
abbrev vsX6_isSlot : List Cond := .code yX6_isSlot cX6_isSlot 1 (some .boolean) :: kAll
abbrev vsX6_shapeIn : List Cond := .code yX6_shapeIn cX6_shapeIn 2 (some (.object "ByteShapes$Shape")) :: kAll
abbrev vsX6_between : List Cond := .code yX6_between cX6_between 3 (some .int) :: kAll
abbrev vsX7_init : List Cond := .code yX7_init cX7_init 4 none :: kAll
abbrev vsX7_thrown : List Cond := .code yX7_thrown cX7_thrown 1 (some .int) :: kAll
abbrev vsX7_fail : List Cond := .code yX7_fail cX7_fail 2 (some .int) :: kAll
abbrev vsX7_within : List Cond := .code yX7_within cX7_within 3 (some .boolean) :: kAll
abbrev vsX7_isSlot : List Cond := .code yX7_isSlot cX7_isSlot 1 (some .boolean) :: kAll
abbrev vsX7_feed : List Cond := .code yX7_feed cX7_feed 8 (some .int) :: kAll
abbrev vsX7_end : List Cond := .code yX7_end cX7_end 2 (some .int) :: kAll
abbrev vsX7_wrong : List Cond := .code yX7_wrong cX7_wrong 3 (some .boolean) :: kAll
abbrev vsX7_take : List Cond := .code yX7_take cX7_take 3 (some .boolean) :: kAll
abbrev vsX7_units : List Cond := .code yX7_units cX7_units 1 (some .int) :: kAll
abbrev vsX7_exponent : List Cond := .code yX7_exponent cX7_exponent 2 (some .long) :: kAll
abbrev vsX7_isNone : List Cond := .code yX7_isNone cX7_isNone 2 (some .boolean) :: kAll
abbrev vsX7_round : List Cond := .code yX7_round cX7_round 11 (some .boolean) :: kAll
abbrev vsX7_room : List Cond := .code yX7_room cX7_room 3 (some .boolean) :: kAll
abbrev vsX7_say : List Cond := .code yX7_say cX7_say 2 none :: kAll
abbrev vsX7_put : List Cond := .code yX7_put cX7_put 4 none :: kAll
abbrev vsX7_coordinate : List Cond := .code yX7_coordinate cX7_coordinate 2 (some .boolean) :: kAll
abbrev vsX7_point : List Cond := .code yX7_point cX7_point 3 (some .boolean) :: kAll
abbrev vsX7_coordinates : List Cond := .code yX7_coordinates cX7_coordinates 6 (some .boolean) :: kAll
abbrev vsX7_rings : List Cond := .code yX7_rings cX7_rings 6 (some .boolean) :: kAll
abbrev vsX7_kindOf : List Cond := .code yX7_kindOf cX7_kindOf 2 (some .int) :: kAll
abbrev vsX7_collections : List Cond := .code yX7_collections cX7_collections 4 (some .int) :: kAll
abbrev vsX7_shape : List Cond := .code yX7_shape cX7_shape 9 (some .int) :: kAll
abbrev vsX7_readAll : List Cond := .code yX7_readAll cX7_readAll 5 (some .boolean) :: kAll
abbrev vsX7_read : List Cond := .code yX7_read cX7_read 3 (some .int) :: kAll
abbrev vsX7_fault : List Cond := .code yX7_fault cX7_fault 2 (some .int) :: kAll
abbrev vsX7_add : List Cond := .code yX7_add cX7_add 5 none :: kAll
abbrev vsX7_bitsOf : List Cond := .code yX7_bitsOf cX7_bitsOf 12 (some .long) :: kAll
abbrev vsX7_writePoints : List Cond := .code yX7_writePoints cX7_writePoints 5 (some .int) :: kAll
abbrev vsX7_write : List Cond := .code yX7_write cX7_write 8 (some .int) :: kAll
abbrev vsX7_again : List Cond := .code yX7_again cX7_again 2 (some .int) :: kAll
abbrev vsX7_same : List Cond := .code yX7_same cX7_same 5 (some .boolean) :: kAll
abbrev vsX7_plan : List Cond := .code yX7_plan cX7_plan 3 (some .int) :: kAll
abbrev vsX7_ordinate : List Cond := .code yX7_ordinate cX7_ordinate 4 (some .int) :: kAll
abbrev vsX7_byteAt : List Cond := .code yX7_byteAt cX7_byteAt 2 (some .int) :: kAll
abbrev vsX7_count : List Cond := .code yX7_count cX7_count 3 (some .int) :: kAll
abbrev vsL_cell : List Cond := .code yL_cell cL_cell 2 (some .int) :: kAll
abbrev vsL_feed : List Cond := .codeWith yL_feed cL_feed 8 (some .int) [(0, 16, 19, 13)] :: kAll
abbrev vsL_end : List Cond := .codeWith yL_end cL_end 4 (some .int) [(0, 9, 12, 19), (0, 9, 15, 13)] :: kAll
abbrev vsL_read : List Cond := .codeWith yL_read cL_read 4 (some .int) [(0, 9, 12, 24), (0, 9, 15, 19)] :: kAll
abbrev vsL_fault : List Cond := .codeWith yL_fault cL_fault 4 (some .int) [(0, 9, 12, 24)] :: kAll
abbrev vsL_write : List Cond := .codeWith yL_write cL_write 5 (some .int) [(0, 10, 13, 24), (0, 10, 17, 19), (0, 10, 21, 13)] :: kAll
abbrev vsL_same : List Cond := .codeWith yL_same cL_same 5 (some .int) [(0, 17, 20, 24)] :: kAll
abbrev vsL_plan : List Cond := .codeWith yL_plan cL_plan 5 (some .int) [(0, 10, 13, 24)] :: kAll
abbrev vsL_ordinate : List Cond := .codeWith yL_ordinate cL_ordinate 6 (some .int) [(0, 12, 15, 24)] :: kAll
abbrev vsL_byteAt : List Cond := .codeWith yL_byteAt cL_byteAt 4 (some .int) [(0, 9, 12, 24)] :: kAll
abbrev vsL_count : List Cond := .codeWith yL_count cL_count 5 (some .int) [(0, 10, 13, 24)] :: kAll

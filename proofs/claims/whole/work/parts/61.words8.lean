/-! further words -/
theorem wd_443 : (Cond.methodLink RX7 157 yX7_isSlot : Cond) ∈ kAll := kin (i := 684) (by decide +kernel) (by decide +kernel)
theorem wd_444 : (Cond.static yX7_isSlot : Cond) ∈ kAll := kin (i := 685) (by decide +kernel) (by decide +kernel)
theorem wd_445 : (Cond.code yX7_isSlot cX7_isSlot 1 (some .boolean) : Cond) ∈ kAll := kin (i := 686) (by decide +kernel) (by decide +kernel)
theorem wd_446 : (Cond.fieldLink RX7 163 "ByteShapesModel" "size" "I" : Cond) ∈ kAll := kin (i := 604) (by decide +kernel) (by decide +kernel)
theorem wd_447 : (Cond.fieldLink RX7 28 "ByteShapesModel" "result" "[I" : Cond) ∈ kAll := kin (i := 605) (by decide +kernel) (by decide +kernel)
theorem wd_448 : (Cond.fieldLink RX7 166 "ByteShapesModel" "order" "I" : Cond) ∈ kAll := kin (i := 606) (by decide +kernel) (by decide +kernel)
theorem wd_449 : (Cond.constantLong RX7 169 (255) : Cond) ∈ kAll := kin (i := 771) (by decide +kernel) (by decide +kernel)

/-! further words -/
theorem wd_467 : (Cond.methodLink RX7 154 yX7_shape : Cond) ∈ kAll := kin (i := 691) (by decide +kernel) (by decide +kernel)
theorem wd_468 : (Cond.instanceMethod yX7_shape : Cond) ∈ kAll := kin (i := 693) (by decide +kernel) (by decide +kernel)
theorem wd_469 : (Cond.selects RX7 yX7_shape yX7_shape : Cond) ∈ kAll := kis (i := 27) (by decide +kernel) (by decide +kernel)
theorem wd_470 : (Cond.code yX7_shape cX7_shape 9 (some .int) : Cond) ∈ kAll := kin (i := 694) (by decide +kernel) (by decide +kernel)

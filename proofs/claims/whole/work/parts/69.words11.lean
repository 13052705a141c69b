/-! further words -/
theorem wd_471 : (Cond.methodLink RX7 160 yX7_readAll : Cond) ∈ kAll := kin (i := 687) (by decide +kernel) (by decide +kernel)
theorem wd_472 : (Cond.instanceMethod yX7_readAll : Cond) ∈ kAll := kin (i := 689) (by decide +kernel) (by decide +kernel)
theorem wd_473 : (Cond.selects RX7 yX7_readAll yX7_readAll : Cond) ∈ kAll := kis (i := 26) (by decide +kernel) (by decide +kernel)
theorem wd_474 : (Cond.code yX7_readAll cX7_readAll 5 (some .boolean) : Cond) ∈ kAll := kin (i := 690) (by decide +kernel) (by decide +kernel)

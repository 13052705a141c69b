/-! further words -/
theorem wd_427 : (Cond.methodLink RX7 125 yX7_isNone : Cond) ∈ kAll := kin (i := 723) (by decide +kernel) (by decide +kernel)
theorem wd_428 : (Cond.static yX7_isNone : Cond) ∈ kAll := kin (i := 724) (by decide +kernel) (by decide +kernel)
theorem wd_429 : (Cond.code yX7_isNone cX7_isNone 2 (some .boolean) : Cond) ∈ kAll := kin (i := 725) (by decide +kernel) (by decide +kernel)
theorem wd_430 : (Cond.methodLink RX7 129 yX7_coordinate : Cond) ∈ kAll := kin (i := 731) (by decide +kernel) (by decide +kernel)
theorem wd_431 : (Cond.instanceMethod yX7_coordinate : Cond) ∈ kAll := kin (i := 733) (by decide +kernel) (by decide +kernel)
theorem wd_432 : (Cond.selects RX7 yX7_coordinate yX7_coordinate : Cond) ∈ kAll := kis (i := 34) (by decide +kernel) (by decide +kernel)
theorem wd_433 : (Cond.code yX7_coordinate cX7_coordinate 2 (some .boolean) : Cond) ∈ kAll := kin (i := 734) (by decide +kernel) (by decide +kernel)

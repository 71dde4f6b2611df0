-- words of reft
theorem q_1493 : (Jvm.Cond.fieldLink "SnowRecorderModel" (241 : Nat) "SnowRecorderModel" "size" "I") ∈ AW := AW_m7 53 (by decide +kernel) (by decide +kernel)

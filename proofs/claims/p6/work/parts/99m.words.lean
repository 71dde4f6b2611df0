-- words of refimg
theorem q_1477 : (Jvm.Cond.fieldLink "SnowRecorderModel" (469 : Nat) "SnowRecorderModel" "imageActs" "I") ∈ AW := AW_m7 37 (by decide +kernel) (by decide +kernel)
theorem q_1478 : (Jvm.Cond.fieldLink "SnowRecorderModel" (472 : Nat) "SnowRecorderModel" "imageFirst" "I") ∈ AW := AW_m7 38 (by decide +kernel) (by decide +kernel)
theorem q_1479 : (Jvm.Cond.fieldLink "SnowRecorderModel" (475 : Nat) "SnowRecorderModel" "imageNotes" "I") ∈ AW := AW_m7 39 (by decide +kernel) (by decide +kernel)
theorem q_1480 : (Jvm.Cond.fieldLink "SnowRecorderModel" (333 : Nat) "SnowRecorderModel" "hasImage" "I") ∈ AW := AW_m7 40 (by decide +kernel) (by decide +kernel)

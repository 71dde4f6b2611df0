-- words of digit
theorem q_1104 : (Jvm.Cond.fieldLink "java/lang/Integer" (83 : Nat) "java/lang/Integer" "DigitOnes" "[B") ∈ AW := AW_m 1223 (by decide +kernel) (by decide +kernel)
theorem q_1106 : (Jvm.Cond.fieldLink "java/lang/Integer" (87 : Nat) "java/lang/Integer" "DigitTens" "[B") ∈ AW := AW_m 1225 (by decide +kernel) (by decide +kernel)

-- words of digit
theorem q_1104 : (Jvm.Cond.fieldLink "java/lang/Integer" (83 : Nat) "java/lang/Integer" "DigitOnes" "[B") ∈ AW := AW_m5 144 (by decide +kernel) (by decide +kernel)
theorem q_1106 : (Jvm.Cond.fieldLink "java/lang/Integer" (87 : Nat) "java/lang/Integer" "DigitTens" "[B") ∈ AW := AW_m5 146 (by decide +kernel) (by decide +kernel)

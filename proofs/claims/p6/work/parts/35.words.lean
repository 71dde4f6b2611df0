-- words of like
theorem q_1338 : (Jvm.Cond.methodLink "SnowRecorder$Likeness" (24 : Nat) ({ cls := "java/lang/Math", name := "max", desc := "(II)I" } : Jvm.MethodName)) ∈ AW := AW_m6 138 (by decide +kernel) (by decide +kernel)
theorem q_1343 : (Jvm.Cond.methodLink "SnowRecorder$Likeness" (30 : Nat) ({ cls := "java/lang/Math", name := "min", desc := "(II)I" } : Jvm.MethodName)) ∈ AW := AW_m6 143 (by decide +kernel) (by decide +kernel)
theorem q_155 : (Jvm.Cond.fieldLink "SnowRecorder$Likeness" (15 : Nat) "SnowRecorder$Pack" "size" "I") ∈ AW := AW_m1 155 (by decide +kernel) (by decide +kernel)
theorem q_163 : (Jvm.Cond.fieldLink "SnowRecorder$Likeness" (21 : Nat) "SnowRecorder$Pack" "cells" "[I") ∈ AW := AW_m1 163 (by decide +kernel) (by decide +kernel)

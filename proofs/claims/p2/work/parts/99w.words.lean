-- words of bld
theorem q_996 : (Jvm.Cond.methodLink "jdk/internal/util/ArraysSupport" (194 : Nat) ({ cls := "java/lang/Math", name := "max", desc := "(II)I" } : Jvm.MethodName)) ∈ AW := AW_m 1115 (by decide +kernel) (by decide +kernel)
theorem q_997 : (Jvm.Cond.constant "jdk/internal/util/ArraysSupport" (200 : Nat) (2147483639 : Int32)) ∈ AW := AW_m 1116 (by decide +kernel) (by decide +kernel)

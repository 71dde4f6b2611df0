-- words of the start
theorem q_1168 : (Jvm.Cond.laysFinal "java/lang/String" "java/lang/String" "value" "[B") ∈ AW := AW_m5 208 (by decide +kernel) (by decide +kernel)
theorem q_1170 : (Jvm.Cond.laysFinal "java/lang/String" "java/lang/String" "coder" "B") ∈ AW := AW_m5 210 (by decide +kernel) (by decide +kernel)
theorem q_1172 : (Jvm.Cond.lays "java/lang/String" "java/lang/String" "hash" "I") ∈ AW := AW_m5 212 (by decide +kernel) (by decide +kernel)
theorem q_1174 : (Jvm.Cond.lays "java/lang/String" "java/lang/String" "hashIsZero" "Z") ∈ AW := AW_m5 214 (by decide +kernel) (by decide +kernel)
theorem inA_J0 : ∀ w ∈ u_ws RJ0 TJ0 4, w ∈ AW := show ∀ w ∈ ([Cond.laysFinal "java/lang/String" "java/lang/String" "value" "[B", Cond.laysFinal "java/lang/String" "java/lang/String" "coder" "B", Cond.lays "java/lang/String" "java/lang/String" "hash" "I", Cond.lays "java/lang/String" "java/lang/String" "hashIsZero" "Z"] : List Cond), w ∈ AW from List.forall_mem_cons.mpr ⟨q_1168, List.forall_mem_cons.mpr ⟨q_1170, List.forall_mem_cons.mpr ⟨q_1172, List.forall_mem_cons.mpr ⟨q_1174, fun _ h => absurd h List.not_mem_nil⟩⟩⟩⟩

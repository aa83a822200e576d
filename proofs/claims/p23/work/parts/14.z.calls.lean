/-! what a call asks of a name -/
theorem zdX2_allRest : yX2_allRest.cls = RX2 ∧ yX2_allRest.cls ≠ "java/lang/invoke/MethodHandle" ∧ yX2_allRest.cls ≠ "java/lang/invoke/VarHandle" ∧ (parseMethodDescriptor yX2_allRest.desc).map (fun d => d.parameters.length) = some 0 := by decide +kernel

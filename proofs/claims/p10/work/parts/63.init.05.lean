theorem cd_X12_init : Cond.code yX12_init cX12_init 1 none ∈ tblG := tg 1188 (by decide +kernel) (by decide +kernel)
theorem gW_X12_init : GoodIn tblG (wsG yX12_init cX12_init 1 none) := tgi cd_X12_init
theorem ml_L_12 : Cond.methodLink RL 12 yX12_init ∈ tblG := tg 1186 (by decide +kernel) (by decide +kernel)
theorem im_X12_init : Cond.instanceMethod yX12_init ∈ tblG := tg 1187 (by decide +kernel) (by decide +kernel)
theorem hs_X12_init : yX12_init.cls ≠ "java/lang/invoke/MethodHandle" ∧ yX12_init.cls ≠ "java/lang/invoke/VarHandle" ∧ (parseMethodDescriptor yX12_init.desc).map (fun d => d.parameters.length) = some 0 := by decide +kernel

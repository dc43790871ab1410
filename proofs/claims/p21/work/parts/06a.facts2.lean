theorem fX0_heatAt_18 : Cond.fieldLink RX0 18 "ColdCreamery$Cellar" "heats" "[I" ∈ wsX0_heatAt := by decide +kernel
theorem fX0_number_13 : Cond.fieldLink RX0 13 "ColdCreamery$Cellar" "stock" "[I" ∈ wsX0_number := by decide +kernel
theorem fX0_number_41 : Cond.fieldLink RX0 41 "ColdCreamery$Cellar" "hour" "I" ∈ wsX0_number := by decide +kernel
theorem fX0_number_49 : Cond.fieldLink RX0 49 "ColdCreamery$Cellar" "coins" "I" ∈ wsX0_number := by decide +kernel
theorem fX0_number_59 : Cond.fieldLink RX0 59 "ColdCreamery$Cellar" "sentAway" "I" ∈ wsX0_number := by decide +kernel
theorem fX0_scoopsInTubs_29 : Cond.fieldLink RX0 29 "ColdCreamery$Cellar" "tubs" "[LColdCreamery$Tub;" ∈ wsX0_scoopsInTubs := by decide +kernel
theorem fX0_scoopsInTubs_68 : Cond.fieldLink RX0 68 "ColdCreamery$Cellar" "tubCount" "I" ∈ wsX0_scoopsInTubs := by decide +kernel
theorem fX0_sellingTub_29 : Cond.fieldLink RX0 29 "ColdCreamery$Cellar" "tubs" "[LColdCreamery$Tub;" ∈ wsX0_sellingTub := by decide +kernel
theorem fX0_sellingTub_68 : Cond.fieldLink RX0 68 "ColdCreamery$Cellar" "tubCount" "I" ∈ wsX0_sellingTub := by decide +kernel
theorem fX0_soldScoops_29 : Cond.fieldLink RX0 29 "ColdCreamery$Cellar" "tubs" "[LColdCreamery$Tub;" ∈ wsX0_soldScoops := by decide +kernel
theorem fX0_soldScoops_68 : Cond.fieldLink RX0 68 "ColdCreamery$Cellar" "tubCount" "I" ∈ wsX0_soldScoops := by decide +kernel
theorem iX0_heatAt_X0 : ∀ w ∈ u_ws RX0 TX0 9, w ∈ wsX0_heatAt := by decide +kernel
theorem iX0_number_X0 : ∀ w ∈ u_ws RX0 TX0 9, w ∈ wsX0_number := by decide +kernel
theorem iX0_scoopsInTubs_X0 : ∀ w ∈ u_ws RX0 TX0 9, w ∈ wsX0_scoopsInTubs := by decide +kernel
theorem iX0_scoopsInTubs_X2 : ∀ w ∈ u_ws RX2 TX2 3, w ∈ wsX0_scoopsInTubs := by decide +kernel
theorem iX0_sellingTub_X0 : ∀ w ∈ u_ws RX0 TX0 9, w ∈ wsX0_sellingTub := by decide +kernel
theorem iX0_sellingTub_X2 : ∀ w ∈ u_ws RX2 TX2 3, w ∈ wsX0_sellingTub := by decide +kernel
theorem iX0_soldScoops_X0 : ∀ w ∈ u_ws RX0 TX0 9, w ∈ wsX0_soldScoops := by decide +kernel
theorem iX0_soldScoops_X2 : ∀ w ∈ u_ws RX2 TX2 3, w ∈ wsX0_soldScoops := by decide +kernel
theorem pJ9_floorMod_7cf53 : yJ9_floorMod_7cf53.cls ≠ "java/lang/invoke/MethodHandle" ∧ yJ9_floorMod_7cf53.cls ≠ "java/lang/invoke/VarHandle" ∧ (parseMethodDescriptor yJ9_floorMod_7cf53.desc).map (fun d => d.parameters.length) = some 2 := by decide +kernel
theorem pX0_heatAt : yX0_heatAt.cls = RX0 ∧ yX0_heatAt.cls ≠ "java/lang/invoke/MethodHandle" ∧ yX0_heatAt.cls ≠ "java/lang/invoke/VarHandle" ∧ (parseMethodDescriptor yX0_heatAt.desc).map (fun d => d.parameters.length) = some 1 := by decide +kernel
theorem pX0_scoopsInTubs : yX0_scoopsInTubs.cls = RX0 ∧ yX0_scoopsInTubs.cls ≠ "java/lang/invoke/MethodHandle" ∧ yX0_scoopsInTubs.cls ≠ "java/lang/invoke/VarHandle" ∧ (parseMethodDescriptor yX0_scoopsInTubs.desc).map (fun d => d.parameters.length) = some 0 := by decide +kernel
theorem pX0_soldScoops : yX0_soldScoops.cls = RX0 ∧ yX0_soldScoops.cls ≠ "java/lang/invoke/MethodHandle" ∧ yX0_soldScoops.cls ≠ "java/lang/invoke/VarHandle" ∧ (parseMethodDescriptor yX0_soldScoops.desc).map (fun d => d.parameters.length) = some 0 := by decide +kernel

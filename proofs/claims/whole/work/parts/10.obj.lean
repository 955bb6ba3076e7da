/-! small objects: Hand, Miss, Names, Row -/
theorem hdn_yL_array : yL_array.cls ≠ "java/lang/invoke/MethodHandle" ∧ yL_array.cls ≠ "java/lang/invoke/VarHandle" ∧ (parseMethodDescriptor yL_array.desc).map (fun d => d.parameters.length) = some 3 := by decide +kernel
theorem hdn_yL_at : yL_at.cls ≠ "java/lang/invoke/MethodHandle" ∧ yL_at.cls ≠ "java/lang/invoke/VarHandle" ∧ (parseMethodDescriptor yL_at.desc).map (fun d => d.parameters.length) = some 3 := by decide +kernel
theorem hdn_yL_element : yL_element.cls ≠ "java/lang/invoke/MethodHandle" ∧ yL_element.cls ≠ "java/lang/invoke/VarHandle" ∧ (parseMethodDescriptor yL_element.desc).map (fun d => d.parameters.length) = some 4 := by decide +kernel
theorem hdn_yL_go : yL_go.cls ≠ "java/lang/invoke/MethodHandle" ∧ yL_go.cls ≠ "java/lang/invoke/VarHandle" ∧ (parseMethodDescriptor yL_go.desc).map (fun d => d.parameters.length) = some 4 := by decide +kernel
theorem hdn_yL_held : yL_held.cls ≠ "java/lang/invoke/MethodHandle" ∧ yL_held.cls ≠ "java/lang/invoke/VarHandle" ∧ (parseMethodDescriptor yL_held.desc).map (fun d => d.parameters.length) = some 3 := by decide +kernel
theorem hdn_yL_hold : yL_hold.cls ≠ "java/lang/invoke/MethodHandle" ∧ yL_hold.cls ≠ "java/lang/invoke/VarHandle" ∧ (parseMethodDescriptor yL_hold.desc).map (fun d => d.parameters.length) = some 4 := by decide +kernel
theorem hdn_yL_index : yL_index.cls ≠ "java/lang/invoke/MethodHandle" ∧ yL_index.cls ≠ "java/lang/invoke/VarHandle" ∧ (parseMethodDescriptor yL_index.desc).map (fun d => d.parameters.length) = some 3 := by decide +kernel
theorem hdn_yL_law : yL_law.cls ≠ "java/lang/invoke/MethodHandle" ∧ yL_law.cls ≠ "java/lang/invoke/VarHandle" ∧ (parseMethodDescriptor yL_law.desc).map (fun d => d.parameters.length) = some 1 := by decide +kernel
theorem hdn_yL_put : yL_put.cls ≠ "java/lang/invoke/MethodHandle" ∧ yL_put.cls ≠ "java/lang/invoke/VarHandle" ∧ (parseMethodDescriptor yL_put.desc).map (fun d => d.parameters.length) = some 4 := by decide +kernel
theorem hdn_yX0_fill : yX0_fill.cls ≠ "java/lang/invoke/MethodHandle" ∧ yX0_fill.cls ≠ "java/lang/invoke/VarHandle" ∧ (parseMethodDescriptor yX0_fill.desc).map (fun d => d.parameters.length) = some 3 := by decide +kernel
theorem hdn_yX0_init : yX0_init.cls ≠ "java/lang/invoke/MethodHandle" ∧ yX0_init.cls ≠ "java/lang/invoke/VarHandle" ∧ (parseMethodDescriptor yX0_init.desc).map (fun d => d.parameters.length) = some 2 := by decide +kernel
theorem hdn_yX0_madeOf : yX0_madeOf.cls ≠ "java/lang/invoke/MethodHandle" ∧ yX0_madeOf.cls ≠ "java/lang/invoke/VarHandle" ∧ (parseMethodDescriptor yX0_madeOf.desc).map (fun d => d.parameters.length) = some 0 := by decide +kernel
theorem hdn_yX0_place : yX0_place.cls ≠ "java/lang/invoke/MethodHandle" ∧ yX0_place.cls ≠ "java/lang/invoke/VarHandle" ∧ (parseMethodDescriptor yX0_place.desc).map (fun d => d.parameters.length) = some 4 := by decide +kernel
theorem hdn_yX0_singleAt : yX0_singleAt.cls ≠ "java/lang/invoke/MethodHandle" ∧ yX0_singleAt.cls ≠ "java/lang/invoke/VarHandle" ∧ (parseMethodDescriptor yX0_singleAt.desc).map (fun d => d.parameters.length) = some 1 := by decide +kernel
theorem hdn_yX1_fill : yX1_fill.cls ≠ "java/lang/invoke/MethodHandle" ∧ yX1_fill.cls ≠ "java/lang/invoke/VarHandle" ∧ (parseMethodDescriptor yX1_fill.desc).map (fun d => d.parameters.length) = some 3 := by decide +kernel
theorem hdn_yX1_init : yX1_init.cls ≠ "java/lang/invoke/MethodHandle" ∧ yX1_init.cls ≠ "java/lang/invoke/VarHandle" ∧ (parseMethodDescriptor yX1_init.desc).map (fun d => d.parameters.length) = some 5 := by decide +kernel
theorem hdn_yX1_madeOf : yX1_madeOf.cls ≠ "java/lang/invoke/MethodHandle" ∧ yX1_madeOf.cls ≠ "java/lang/invoke/VarHandle" ∧ (parseMethodDescriptor yX1_madeOf.desc).map (fun d => d.parameters.length) = some 0 := by decide +kernel
theorem hdn_yX1_place : yX1_place.cls ≠ "java/lang/invoke/MethodHandle" ∧ yX1_place.cls ≠ "java/lang/invoke/VarHandle" ∧ (parseMethodDescriptor yX1_place.desc).map (fun d => d.parameters.length) = some 4 := by decide +kernel
theorem hdn_yX1_singleAt : yX1_singleAt.cls ≠ "java/lang/invoke/MethodHandle" ∧ yX1_singleAt.cls ≠ "java/lang/invoke/VarHandle" ∧ (parseMethodDescriptor yX1_singleAt.desc).map (fun d => d.parameters.length) = some 1 := by decide +kernel
theorem hdn_yX2_drop : yX2_drop.cls ≠ "java/lang/invoke/MethodHandle" ∧ yX2_drop.cls ≠ "java/lang/invoke/VarHandle" ∧ (parseMethodDescriptor yX2_drop.desc).map (fun d => d.parameters.length) = some 0 := by decide +kernel
theorem hdn_yX2_init : yX2_init.cls ≠ "java/lang/invoke/MethodHandle" ∧ yX2_init.cls ≠ "java/lang/invoke/VarHandle" ∧ (parseMethodDescriptor yX2_init.desc).map (fun d => d.parameters.length) = some 0 := by decide +kernel
theorem hdn_yX2_look : yX2_look.cls ≠ "java/lang/invoke/MethodHandle" ∧ yX2_look.cls ≠ "java/lang/invoke/VarHandle" ∧ (parseMethodDescriptor yX2_look.desc).map (fun d => d.parameters.length) = some 1 := by decide +kernel
theorem hdn_yX2_take : yX2_take.cls ≠ "java/lang/invoke/MethodHandle" ∧ yX2_take.cls ≠ "java/lang/invoke/VarHandle" ∧ (parseMethodDescriptor yX2_take.desc).map (fun d => d.parameters.length) = some 2 := by decide +kernel
theorem hdn_yX3_forget : yX3_forget.cls ≠ "java/lang/invoke/MethodHandle" ∧ yX3_forget.cls ≠ "java/lang/invoke/VarHandle" ∧ (parseMethodDescriptor yX3_forget.desc).map (fun d => d.parameters.length) = some 0 := by decide +kernel
theorem hdn_yX3_init : yX3_init.cls ≠ "java/lang/invoke/MethodHandle" ∧ yX3_init.cls ≠ "java/lang/invoke/VarHandle" ∧ (parseMethodDescriptor yX3_init.desc).map (fun d => d.parameters.length) = some 0 := by decide +kernel
theorem hdn_yX3_note : yX3_note.cls ≠ "java/lang/invoke/MethodHandle" ∧ yX3_note.cls ≠ "java/lang/invoke/VarHandle" ∧ (parseMethodDescriptor yX3_note.desc).map (fun d => d.parameters.length) = some 3 := by decide +kernel
theorem hdn_yX4_init : yX4_init.cls ≠ "java/lang/invoke/MethodHandle" ∧ yX4_init.cls ≠ "java/lang/invoke/VarHandle" ∧ (parseMethodDescriptor yX4_init.desc).map (fun d => d.parameters.length) = some 4 := by decide +kernel
theorem hdn_yX4_liesIn : yX4_liesIn.cls ≠ "java/lang/invoke/MethodHandle" ∧ yX4_liesIn.cls ≠ "java/lang/invoke/VarHandle" ∧ (parseMethodDescriptor yX4_liesIn.desc).map (fun d => d.parameters.length) = some 1 := by decide +kernel
theorem hdn_yX4_placeOf : yX4_placeOf.cls ≠ "java/lang/invoke/MethodHandle" ∧ yX4_placeOf.cls ≠ "java/lang/invoke/VarHandle" ∧ (parseMethodDescriptor yX4_placeOf.desc).map (fun d => d.parameters.length) = some 1 := by decide +kernel
theorem hdn_yX4_valueAt : yX4_valueAt.cls ≠ "java/lang/invoke/MethodHandle" ∧ yX4_valueAt.cls ≠ "java/lang/invoke/VarHandle" ∧ (parseMethodDescriptor yX4_valueAt.desc).map (fun d => d.parameters.length) = some 1 := by decide +kernel
theorem hdn_yX5_init : yX5_init.cls ≠ "java/lang/invoke/MethodHandle" ∧ yX5_init.cls ≠ "java/lang/invoke/VarHandle" ∧ (parseMethodDescriptor yX5_init.desc).map (fun d => d.parameters.length) = some 4 := by decide +kernel
theorem hdn_yX5_reaches : yX5_reaches.cls ≠ "java/lang/invoke/MethodHandle" ∧ yX5_reaches.cls ≠ "java/lang/invoke/VarHandle" ∧ (parseMethodDescriptor yX5_reaches.desc).map (fun d => d.parameters.length) = some 1 := by decide +kernel
theorem hdn_yX6_init : yX6_init.cls ≠ "java/lang/invoke/MethodHandle" ∧ yX6_init.cls ≠ "java/lang/invoke/VarHandle" ∧ (parseMethodDescriptor yX6_init.desc).map (fun d => d.parameters.length) = some 6 := by decide +kernel
theorem hdn_yX6_liesIn : yX6_liesIn.cls ≠ "java/lang/invoke/MethodHandle" ∧ yX6_liesIn.cls ≠ "java/lang/invoke/VarHandle" ∧ (parseMethodDescriptor yX6_liesIn.desc).map (fun d => d.parameters.length) = some 1 := by decide +kernel
theorem hdn_yX6_liesInRow : yX6_liesInRow.cls ≠ "java/lang/invoke/MethodHandle" ∧ yX6_liesInRow.cls ≠ "java/lang/invoke/VarHandle" ∧ (parseMethodDescriptor yX6_liesInRow.desc).map (fun d => d.parameters.length) = some 1 := by decide +kernel
theorem hdn_yX6_placeOf : yX6_placeOf.cls ≠ "java/lang/invoke/MethodHandle" ∧ yX6_placeOf.cls ≠ "java/lang/invoke/VarHandle" ∧ (parseMethodDescriptor yX6_placeOf.desc).map (fun d => d.parameters.length) = some 1 := by decide +kernel
theorem hdn_yX6_valueAt : yX6_valueAt.cls ≠ "java/lang/invoke/MethodHandle" ∧ yX6_valueAt.cls ≠ "java/lang/invoke/VarHandle" ∧ (parseMethodDescriptor yX6_valueAt.desc).map (fun d => d.parameters.length) = some 1 := by decide +kernel
theorem hdn_yX7_eachLiesIn : yX7_eachLiesIn.cls ≠ "java/lang/invoke/MethodHandle" ∧ yX7_eachLiesIn.cls ≠ "java/lang/invoke/VarHandle" ∧ (parseMethodDescriptor yX7_eachLiesIn.desc).map (fun d => d.parameters.length) = some 1 := by decide +kernel
theorem hdn_yX7_fill : yX7_fill.cls ≠ "java/lang/invoke/MethodHandle" ∧ yX7_fill.cls ≠ "java/lang/invoke/VarHandle" ∧ (parseMethodDescriptor yX7_fill.desc).map (fun d => d.parameters.length) = some 3 := by decide +kernel
theorem hdn_yX7_init : yX7_init.cls ≠ "java/lang/invoke/MethodHandle" ∧ yX7_init.cls ≠ "java/lang/invoke/VarHandle" ∧ (parseMethodDescriptor yX7_init.desc).map (fun d => d.parameters.length) = some 3 := by decide +kernel
theorem hdn_yX7_madeOf : yX7_madeOf.cls ≠ "java/lang/invoke/MethodHandle" ∧ yX7_madeOf.cls ≠ "java/lang/invoke/VarHandle" ∧ (parseMethodDescriptor yX7_madeOf.desc).map (fun d => d.parameters.length) = some 0 := by decide +kernel
theorem hdn_yX7_place : yX7_place.cls ≠ "java/lang/invoke/MethodHandle" ∧ yX7_place.cls ≠ "java/lang/invoke/VarHandle" ∧ (parseMethodDescriptor yX7_place.desc).map (fun d => d.parameters.length) = some 4 := by decide +kernel
theorem hdn_yX7_singleAt : yX7_singleAt.cls ≠ "java/lang/invoke/MethodHandle" ∧ yX7_singleAt.cls ≠ "java/lang/invoke/VarHandle" ∧ (parseMethodDescriptor yX7_singleAt.desc).map (fun d => d.parameters.length) = some 1 := by decide +kernel
theorem hdn_yX8_add : yX8_add.cls ≠ "java/lang/invoke/MethodHandle" ∧ yX8_add.cls ≠ "java/lang/invoke/VarHandle" ∧ (parseMethodDescriptor yX8_add.desc).map (fun d => d.parameters.length) = some 1 := by decide +kernel
theorem hdn_yX8_addBeside : yX8_addBeside.cls ≠ "java/lang/invoke/MethodHandle" ∧ yX8_addBeside.cls ≠ "java/lang/invoke/VarHandle" ∧ (parseMethodDescriptor yX8_addBeside.desc).map (fun d => d.parameters.length) = some 2 := by decide +kernel
theorem hdn_yX8_addRow : yX8_addRow.cls ≠ "java/lang/invoke/MethodHandle" ∧ yX8_addRow.cls ≠ "java/lang/invoke/VarHandle" ∧ (parseMethodDescriptor yX8_addRow.desc).map (fun d => d.parameters.length) = some 4 := by decide +kernel
theorem hdn_yX8_array : yX8_array.cls ≠ "java/lang/invoke/MethodHandle" ∧ yX8_array.cls ≠ "java/lang/invoke/VarHandle" ∧ (parseMethodDescriptor yX8_array.desc).map (fun d => d.parameters.length) = some 1 := by decide +kernel
theorem hdn_yX8_at : yX8_at.cls ≠ "java/lang/invoke/MethodHandle" ∧ yX8_at.cls ≠ "java/lang/invoke/VarHandle" ∧ (parseMethodDescriptor yX8_at.desc).map (fun d => d.parameters.length) = some 1 := by decide +kernel
theorem hdn_yX8_back : yX8_back.cls ≠ "java/lang/invoke/MethodHandle" ∧ yX8_back.cls ≠ "java/lang/invoke/VarHandle" ∧ (parseMethodDescriptor yX8_back.desc).map (fun d => d.parameters.length) = some 1 := by decide +kernel
theorem hdn_yX8_baseOf : yX8_baseOf.cls ≠ "java/lang/invoke/MethodHandle" ∧ yX8_baseOf.cls ≠ "java/lang/invoke/VarHandle" ∧ (parseMethodDescriptor yX8_baseOf.desc).map (fun d => d.parameters.length) = some 1 := by decide +kernel
theorem hdn_yX8_cellOfHand : yX8_cellOfHand.cls ≠ "java/lang/invoke/MethodHandle" ∧ yX8_cellOfHand.cls ≠ "java/lang/invoke/VarHandle" ∧ (parseMethodDescriptor yX8_cellOfHand.desc).map (fun d => d.parameters.length) = some 1 := by decide +kernel
theorem hdn_yX8_cellsInUse : yX8_cellsInUse.cls ≠ "java/lang/invoke/MethodHandle" ∧ yX8_cellsInUse.cls ≠ "java/lang/invoke/VarHandle" ∧ (parseMethodDescriptor yX8_cellsInUse.desc).map (fun d => d.parameters.length) = some 0 := by decide +kernel
theorem hdn_yX8_clear : yX8_clear.cls ≠ "java/lang/invoke/MethodHandle" ∧ yX8_clear.cls ≠ "java/lang/invoke/VarHandle" ∧ (parseMethodDescriptor yX8_clear.desc).map (fun d => d.parameters.length) = some 0 := by decide +kernel
theorem hdn_yX8_count : yX8_count.cls ≠ "java/lang/invoke/MethodHandle" ∧ yX8_count.cls ≠ "java/lang/invoke/VarHandle" ∧ (parseMethodDescriptor yX8_count.desc).map (fun d => d.parameters.length) = some 1 := by decide +kernel
theorem hdn_yX8_element : yX8_element.cls ≠ "java/lang/invoke/MethodHandle" ∧ yX8_element.cls ≠ "java/lang/invoke/VarHandle" ∧ (parseMethodDescriptor yX8_element.desc).map (fun d => d.parameters.length) = some 2 := by decide +kernel
theorem hdn_yX8_go : yX8_go.cls ≠ "java/lang/invoke/MethodHandle" ∧ yX8_go.cls ≠ "java/lang/invoke/VarHandle" ∧ (parseMethodDescriptor yX8_go.desc).map (fun d => d.parameters.length) = some 2 := by decide +kernel
theorem hdn_yX8_has : yX8_has.cls ≠ "java/lang/invoke/MethodHandle" ∧ yX8_has.cls ≠ "java/lang/invoke/VarHandle" ∧ (parseMethodDescriptor yX8_has.desc).map (fun d => d.parameters.length) = some 1 := by decide +kernel
theorem hdn_yX8_held : yX8_held.cls ≠ "java/lang/invoke/MethodHandle" ∧ yX8_held.cls ≠ "java/lang/invoke/VarHandle" ∧ (parseMethodDescriptor yX8_held.desc).map (fun d => d.parameters.length) = some 1 := by decide +kernel
theorem hdn_yX8_hold : yX8_hold.cls ≠ "java/lang/invoke/MethodHandle" ∧ yX8_hold.cls ≠ "java/lang/invoke/VarHandle" ∧ (parseMethodDescriptor yX8_hold.desc).map (fun d => d.parameters.length) = some 2 := by decide +kernel
theorem hdn_yX8_index : yX8_index.cls ≠ "java/lang/invoke/MethodHandle" ∧ yX8_index.cls ≠ "java/lang/invoke/VarHandle" ∧ (parseMethodDescriptor yX8_index.desc).map (fun d => d.parameters.length) = some 1 := by decide +kernel
theorem hdn_yX8_init : yX8_init.cls ≠ "java/lang/invoke/MethodHandle" ∧ yX8_init.cls ≠ "java/lang/invoke/VarHandle" ∧ (parseMethodDescriptor yX8_init.desc).map (fun d => d.parameters.length) = some 0 := by decide +kernel
theorem hdn_yX8_isFull : yX8_isFull.cls ≠ "java/lang/invoke/MethodHandle" ∧ yX8_isFull.cls ≠ "java/lang/invoke/VarHandle" ∧ (parseMethodDescriptor yX8_isFull.desc).map (fun d => d.parameters.length) = some 0 := by decide +kernel
theorem hdn_yX8_isUpTo : yX8_isUpTo.cls ≠ "java/lang/invoke/MethodHandle" ∧ yX8_isUpTo.cls ≠ "java/lang/invoke/VarHandle" ∧ (parseMethodDescriptor yX8_isUpTo.desc).map (fun d => d.parameters.length) = some 2 := by decide +kernel
theorem hdn_yX8_liesWithin : yX8_liesWithin.cls ≠ "java/lang/invoke/MethodHandle" ∧ yX8_liesWithin.cls ≠ "java/lang/invoke/VarHandle" ∧ (parseMethodDescriptor yX8_liesWithin.desc).map (fun d => d.parameters.length) = some 2 := by decide +kernel
theorem hdn_yX8_longCode : yX8_longCode.cls ≠ "java/lang/invoke/MethodHandle" ∧ yX8_longCode.cls ≠ "java/lang/invoke/VarHandle" ∧ (parseMethodDescriptor yX8_longCode.desc).map (fun d => d.parameters.length) = some 1 := by decide +kernel
theorem hdn_yX8_miss : yX8_miss.cls ≠ "java/lang/invoke/MethodHandle" ∧ yX8_miss.cls ≠ "java/lang/invoke/VarHandle" ∧ (parseMethodDescriptor yX8_miss.desc).map (fun d => d.parameters.length) = some 1 := by decide +kernel
theorem hdn_yX8_names : yX8_names.cls ≠ "java/lang/invoke/MethodHandle" ∧ yX8_names.cls ≠ "java/lang/invoke/VarHandle" ∧ (parseMethodDescriptor yX8_names.desc).map (fun d => d.parameters.length) = some 3 := by decide +kernel
theorem hdn_yX8_over : yX8_over.cls ≠ "java/lang/invoke/MethodHandle" ∧ yX8_over.cls ≠ "java/lang/invoke/VarHandle" ∧ (parseMethodDescriptor yX8_over.desc).map (fun d => d.parameters.length) = some 1 := by decide +kernel
theorem hdn_yX8_pair : yX8_pair.cls ≠ "java/lang/invoke/MethodHandle" ∧ yX8_pair.cls ≠ "java/lang/invoke/VarHandle" ∧ (parseMethodDescriptor yX8_pair.desc).map (fun d => d.parameters.length) = some 2 := by decide +kernel
theorem hdn_yX8_placeOfHand : yX8_placeOfHand.cls ≠ "java/lang/invoke/MethodHandle" ∧ yX8_placeOfHand.cls ≠ "java/lang/invoke/VarHandle" ∧ (parseMethodDescriptor yX8_placeOfHand.desc).map (fun d => d.parameters.length) = some 1 := by decide +kernel
theorem hdn_yX8_plus : yX8_plus.cls ≠ "java/lang/invoke/MethodHandle" ∧ yX8_plus.cls ≠ "java/lang/invoke/VarHandle" ∧ (parseMethodDescriptor yX8_plus.desc).map (fun d => d.parameters.length) = some 2 := by decide +kernel
theorem hdn_yX8_put : yX8_put.cls ≠ "java/lang/invoke/MethodHandle" ∧ yX8_put.cls ≠ "java/lang/invoke/VarHandle" ∧ (parseMethodDescriptor yX8_put.desc).map (fun d => d.parameters.length) = some 2 := by decide +kernel
theorem hdn_yX8_quotient : yX8_quotient.cls ≠ "java/lang/invoke/MethodHandle" ∧ yX8_quotient.cls ≠ "java/lang/invoke/VarHandle" ∧ (parseMethodDescriptor yX8_quotient.desc).map (fun d => d.parameters.length) = some 2 := by decide +kernel
theorem hdn_yX8_rangeOf : yX8_rangeOf.cls ≠ "java/lang/invoke/MethodHandle" ∧ yX8_rangeOf.cls ≠ "java/lang/invoke/VarHandle" ∧ (parseMethodDescriptor yX8_rangeOf.desc).map (fun d => d.parameters.length) = some 1 := by decide +kernel
theorem hdn_yX8_signs : yX8_signs.cls ≠ "java/lang/invoke/MethodHandle" ∧ yX8_signs.cls ≠ "java/lang/invoke/VarHandle" ∧ (parseMethodDescriptor yX8_signs.desc).map (fun d => d.parameters.length) = some 2 := by decide +kernel
theorem hdn_yX8_size : yX8_size.cls ≠ "java/lang/invoke/MethodHandle" ∧ yX8_size.cls ≠ "java/lang/invoke/VarHandle" ∧ (parseMethodDescriptor yX8_size.desc).map (fun d => d.parameters.length) = some 1 := by decide +kernel
theorem hdn_yX8_steps : yX8_steps.cls ≠ "java/lang/invoke/MethodHandle" ∧ yX8_steps.cls ≠ "java/lang/invoke/VarHandle" ∧ (parseMethodDescriptor yX8_steps.desc).map (fun d => d.parameters.length) = some 3 := by decide +kernel
theorem hdn_yX8_sum : yX8_sum.cls ≠ "java/lang/invoke/MethodHandle" ∧ yX8_sum.cls ≠ "java/lang/invoke/VarHandle" ∧ (parseMethodDescriptor yX8_sum.desc).map (fun d => d.parameters.length) = some 3 := by decide +kernel
theorem hdn_yX8_times : yX8_times.cls ≠ "java/lang/invoke/MethodHandle" ∧ yX8_times.cls ≠ "java/lang/invoke/VarHandle" ∧ (parseMethodDescriptor yX8_times.desc).map (fun d => d.parameters.length) = some 2 := by decide +kernel
theorem hdn_yX8_told : yX8_told.cls ≠ "java/lang/invoke/MethodHandle" ∧ yX8_told.cls ≠ "java/lang/invoke/VarHandle" ∧ (parseMethodDescriptor yX8_told.desc).map (fun d => d.parameters.length) = some 2 := by decide +kernel
theorem hdn_yX8_triple : yX8_triple.cls ≠ "java/lang/invoke/MethodHandle" ∧ yX8_triple.cls ≠ "java/lang/invoke/VarHandle" ∧ (parseMethodDescriptor yX8_triple.desc).map (fun d => d.parameters.length) = some 3 := by decide +kernel
theorem hdn_yX8_wholes : yX8_wholes.cls ≠ "java/lang/invoke/MethodHandle" ∧ yX8_wholes.cls ≠ "java/lang/invoke/VarHandle" ∧ (parseMethodDescriptor yX8_wholes.desc).map (fun d => d.parameters.length) = some 2 := by decide +kernel
theorem hdn_yX8_within : yX8_within.cls ≠ "java/lang/invoke/MethodHandle" ∧ yX8_within.cls ≠ "java/lang/invoke/VarHandle" ∧ (parseMethodDescriptor yX8_within.desc).map (fun d => d.parameters.length) = some 2 := by decide +kernel
theorem hdn_yX9_addSingle : yX9_addSingle.cls ≠ "java/lang/invoke/MethodHandle" ∧ yX9_addSingle.cls ≠ "java/lang/invoke/VarHandle" ∧ (parseMethodDescriptor yX9_addSingle.desc).map (fun d => d.parameters.length) = some 4 := by decide +kernel
theorem hdn_yX9_array : yX9_array.cls ≠ "java/lang/invoke/MethodHandle" ∧ yX9_array.cls ≠ "java/lang/invoke/VarHandle" ∧ (parseMethodDescriptor yX9_array.desc).map (fun d => d.parameters.length) = some 1 := by decide +kernel
theorem hdn_yX9_at : yX9_at.cls ≠ "java/lang/invoke/MethodHandle" ∧ yX9_at.cls ≠ "java/lang/invoke/VarHandle" ∧ (parseMethodDescriptor yX9_at.desc).map (fun d => d.parameters.length) = some 1 := by decide +kernel
theorem hdn_yX9_back : yX9_back.cls ≠ "java/lang/invoke/MethodHandle" ∧ yX9_back.cls ≠ "java/lang/invoke/VarHandle" ∧ (parseMethodDescriptor yX9_back.desc).map (fun d => d.parameters.length) = some 1 := by decide +kernel
theorem hdn_yX9_begin : yX9_begin.cls ≠ "java/lang/invoke/MethodHandle" ∧ yX9_begin.cls ≠ "java/lang/invoke/VarHandle" ∧ (parseMethodDescriptor yX9_begin.desc).map (fun d => d.parameters.length) = some 3 := by decide +kernel
theorem hdn_yX9_cellOf : yX9_cellOf.cls ≠ "java/lang/invoke/MethodHandle" ∧ yX9_cellOf.cls ≠ "java/lang/invoke/VarHandle" ∧ (parseMethodDescriptor yX9_cellOf.desc).map (fun d => d.parameters.length) = some 1 := by decide +kernel
theorem hdn_yX9_clear : yX9_clear.cls ≠ "java/lang/invoke/MethodHandle" ∧ yX9_clear.cls ≠ "java/lang/invoke/VarHandle" ∧ (parseMethodDescriptor yX9_clear.desc).map (fun d => d.parameters.length) = some 0 := by decide +kernel
theorem hdn_yX9_count : yX9_count.cls ≠ "java/lang/invoke/MethodHandle" ∧ yX9_count.cls ≠ "java/lang/invoke/VarHandle" ∧ (parseMethodDescriptor yX9_count.desc).map (fun d => d.parameters.length) = some 1 := by decide +kernel
theorem hdn_yX9_element : yX9_element.cls ≠ "java/lang/invoke/MethodHandle" ∧ yX9_element.cls ≠ "java/lang/invoke/VarHandle" ∧ (parseMethodDescriptor yX9_element.desc).map (fun d => d.parameters.length) = some 2 := by decide +kernel
theorem hdn_yX9_go : yX9_go.cls ≠ "java/lang/invoke/MethodHandle" ∧ yX9_go.cls ≠ "java/lang/invoke/VarHandle" ∧ (parseMethodDescriptor yX9_go.desc).map (fun d => d.parameters.length) = some 2 := by decide +kernel
theorem hdn_yX9_has : yX9_has.cls ≠ "java/lang/invoke/MethodHandle" ∧ yX9_has.cls ≠ "java/lang/invoke/VarHandle" ∧ (parseMethodDescriptor yX9_has.desc).map (fun d => d.parameters.length) = some 1 := by decide +kernel
theorem hdn_yX9_hasNumber : yX9_hasNumber.cls ≠ "java/lang/invoke/MethodHandle" ∧ yX9_hasNumber.cls ≠ "java/lang/invoke/VarHandle" ∧ (parseMethodDescriptor yX9_hasNumber.desc).map (fun d => d.parameters.length) = some 2 := by decide +kernel
theorem hdn_yX9_hasPlace : yX9_hasPlace.cls ≠ "java/lang/invoke/MethodHandle" ∧ yX9_hasPlace.cls ≠ "java/lang/invoke/VarHandle" ∧ (parseMethodDescriptor yX9_hasPlace.desc).map (fun d => d.parameters.length) = some 2 := by decide +kernel
theorem hdn_yX9_held : yX9_held.cls ≠ "java/lang/invoke/MethodHandle" ∧ yX9_held.cls ≠ "java/lang/invoke/VarHandle" ∧ (parseMethodDescriptor yX9_held.desc).map (fun d => d.parameters.length) = some 1 := by decide +kernel
theorem hdn_yX9_hold : yX9_hold.cls ≠ "java/lang/invoke/MethodHandle" ∧ yX9_hold.cls ≠ "java/lang/invoke/VarHandle" ∧ (parseMethodDescriptor yX9_hold.desc).map (fun d => d.parameters.length) = some 2 := by decide +kernel
theorem hdn_yX9_in : yX9_in.cls ≠ "java/lang/invoke/MethodHandle" ∧ yX9_in.cls ≠ "java/lang/invoke/VarHandle" ∧ (parseMethodDescriptor yX9_in.desc).map (fun d => d.parameters.length) = some 3 := by decide +kernel
theorem hdn_yX9_index : yX9_index.cls ≠ "java/lang/invoke/MethodHandle" ∧ yX9_index.cls ≠ "java/lang/invoke/VarHandle" ∧ (parseMethodDescriptor yX9_index.desc).map (fun d => d.parameters.length) = some 1 := by decide +kernel
theorem hdn_yX9_init : yX9_init.cls ≠ "java/lang/invoke/MethodHandle" ∧ yX9_init.cls ≠ "java/lang/invoke/VarHandle" ∧ (parseMethodDescriptor yX9_init.desc).map (fun d => d.parameters.length) = some 0 := by decide +kernel
theorem hdn_yX9_isHeld : yX9_isHeld.cls ≠ "java/lang/invoke/MethodHandle" ∧ yX9_isHeld.cls ≠ "java/lang/invoke/VarHandle" ∧ (parseMethodDescriptor yX9_isHeld.desc).map (fun d => d.parameters.length) = some 1 := by decide +kernel
theorem hdn_yX9_lastOf : yX9_lastOf.cls ≠ "java/lang/invoke/MethodHandle" ∧ yX9_lastOf.cls ≠ "java/lang/invoke/VarHandle" ∧ (parseMethodDescriptor yX9_lastOf.desc).map (fun d => d.parameters.length) = some 1 := by decide +kernel
theorem hdn_yX9_lay : yX9_lay.cls ≠ "java/lang/invoke/MethodHandle" ∧ yX9_lay.cls ≠ "java/lang/invoke/VarHandle" ∧ (parseMethodDescriptor yX9_lay.desc).map (fun d => d.parameters.length) = some 3 := by decide +kernel
theorem hdn_yX9_leftOver : yX9_leftOver.cls ≠ "java/lang/invoke/MethodHandle" ∧ yX9_leftOver.cls ≠ "java/lang/invoke/VarHandle" ∧ (parseMethodDescriptor yX9_leftOver.desc).map (fun d => d.parameters.length) = some 3 := by decide +kernel
theorem hdn_yX9_liesIn : yX9_liesIn.cls ≠ "java/lang/invoke/MethodHandle" ∧ yX9_liesIn.cls ≠ "java/lang/invoke/VarHandle" ∧ (parseMethodDescriptor yX9_liesIn.desc).map (fun d => d.parameters.length) = some 2 := by decide +kernel
theorem hdn_yX9_miss : yX9_miss.cls ≠ "java/lang/invoke/MethodHandle" ∧ yX9_miss.cls ≠ "java/lang/invoke/VarHandle" ∧ (parseMethodDescriptor yX9_miss.desc).map (fun d => d.parameters.length) = some 1 := by decide +kernel
theorem hdn_yX9_names : yX9_names.cls ≠ "java/lang/invoke/MethodHandle" ∧ yX9_names.cls ≠ "java/lang/invoke/VarHandle" ∧ (parseMethodDescriptor yX9_names.desc).map (fun d => d.parameters.length) = some 3 := by decide +kernel
theorem hdn_yX9_noArray : yX9_noArray.cls ≠ "java/lang/invoke/MethodHandle" ∧ yX9_noArray.cls ≠ "java/lang/invoke/VarHandle" ∧ (parseMethodDescriptor yX9_noArray.desc).map (fun d => d.parameters.length) = some 1 := by decide +kernel
theorem hdn_yX9_noRange : yX9_noRange.cls ≠ "java/lang/invoke/MethodHandle" ∧ yX9_noRange.cls ≠ "java/lang/invoke/VarHandle" ∧ (parseMethodDescriptor yX9_noRange.desc).map (fun d => d.parameters.length) = some 1 := by decide +kernel
theorem hdn_yX9_numberAt : yX9_numberAt.cls ≠ "java/lang/invoke/MethodHandle" ∧ yX9_numberAt.cls ≠ "java/lang/invoke/VarHandle" ∧ (parseMethodDescriptor yX9_numberAt.desc).map (fun d => d.parameters.length) = some 2 := by decide +kernel
theorem hdn_yX9_over : yX9_over.cls ≠ "java/lang/invoke/MethodHandle" ∧ yX9_over.cls ≠ "java/lang/invoke/VarHandle" ∧ (parseMethodDescriptor yX9_over.desc).map (fun d => d.parameters.length) = some 1 := by decide +kernel
theorem hdn_yX9_pair : yX9_pair.cls ≠ "java/lang/invoke/MethodHandle" ∧ yX9_pair.cls ≠ "java/lang/invoke/VarHandle" ∧ (parseMethodDescriptor yX9_pair.desc).map (fun d => d.parameters.length) = some 2 := by decide +kernel
theorem hdn_yX9_place : yX9_place.cls ≠ "java/lang/invoke/MethodHandle" ∧ yX9_place.cls ≠ "java/lang/invoke/VarHandle" ∧ (parseMethodDescriptor yX9_place.desc).map (fun d => d.parameters.length) = some 1 := by decide +kernel
theorem hdn_yX9_placeOf : yX9_placeOf.cls ≠ "java/lang/invoke/MethodHandle" ∧ yX9_placeOf.cls ≠ "java/lang/invoke/VarHandle" ∧ (parseMethodDescriptor yX9_placeOf.desc).map (fun d => d.parameters.length) = some 2 := by decide +kernel
theorem hdn_yX9_put : yX9_put.cls ≠ "java/lang/invoke/MethodHandle" ∧ yX9_put.cls ≠ "java/lang/invoke/VarHandle" ∧ (parseMethodDescriptor yX9_put.desc).map (fun d => d.parameters.length) = some 2 := by decide +kernel
theorem hdn_yX9_signs : yX9_signs.cls ≠ "java/lang/invoke/MethodHandle" ∧ yX9_signs.cls ≠ "java/lang/invoke/VarHandle" ∧ (parseMethodDescriptor yX9_signs.desc).map (fun d => d.parameters.length) = some 2 := by decide +kernel
theorem hdn_yX9_singleSize : yX9_singleSize.cls ≠ "java/lang/invoke/MethodHandle" ∧ yX9_singleSize.cls ≠ "java/lang/invoke/VarHandle" ∧ (parseMethodDescriptor yX9_singleSize.desc).map (fun d => d.parameters.length) = some 1 := by decide +kernel
theorem hdn_yX9_size : yX9_size.cls ≠ "java/lang/invoke/MethodHandle" ∧ yX9_size.cls ≠ "java/lang/invoke/VarHandle" ∧ (parseMethodDescriptor yX9_size.desc).map (fun d => d.parameters.length) = some 1 := by decide +kernel
theorem hdn_yX9_sizeOf : yX9_sizeOf.cls ≠ "java/lang/invoke/MethodHandle" ∧ yX9_sizeOf.cls ≠ "java/lang/invoke/VarHandle" ∧ (parseMethodDescriptor yX9_sizeOf.desc).map (fun d => d.parameters.length) = some 1 := by decide +kernel
theorem hdn_yX9_steps : yX9_steps.cls ≠ "java/lang/invoke/MethodHandle" ∧ yX9_steps.cls ≠ "java/lang/invoke/VarHandle" ∧ (parseMethodDescriptor yX9_steps.desc).map (fun d => d.parameters.length) = some 3 := by decide +kernel
theorem hdn_yX9_stepsUp : yX9_stepsUp.cls ≠ "java/lang/invoke/MethodHandle" ∧ yX9_stepsUp.cls ≠ "java/lang/invoke/VarHandle" ∧ (parseMethodDescriptor yX9_stepsUp.desc).map (fun d => d.parameters.length) = some 3 := by decide +kernel
theorem hdn_yX9_sum : yX9_sum.cls ≠ "java/lang/invoke/MethodHandle" ∧ yX9_sum.cls ≠ "java/lang/invoke/VarHandle" ∧ (parseMethodDescriptor yX9_sum.desc).map (fun d => d.parameters.length) = some 3 := by decide +kernel
theorem hdn_yX9_take : yX9_take.cls ≠ "java/lang/invoke/MethodHandle" ∧ yX9_take.cls ≠ "java/lang/invoke/VarHandle" ∧ (parseMethodDescriptor yX9_take.desc).map (fun d => d.parameters.length) = some 4 := by decide +kernel
theorem hdn_yX9_thrown : yX9_thrown.cls ≠ "java/lang/invoke/MethodHandle" ∧ yX9_thrown.cls ≠ "java/lang/invoke/VarHandle" ∧ (parseMethodDescriptor yX9_thrown.desc).map (fun d => d.parameters.length) = some 0 := by decide +kernel
theorem hdn_yX9_times : yX9_times.cls ≠ "java/lang/invoke/MethodHandle" ∧ yX9_times.cls ≠ "java/lang/invoke/VarHandle" ∧ (parseMethodDescriptor yX9_times.desc).map (fun d => d.parameters.length) = some 2 := by decide +kernel
theorem hdn_yX9_told : yX9_told.cls ≠ "java/lang/invoke/MethodHandle" ∧ yX9_told.cls ≠ "java/lang/invoke/VarHandle" ∧ (parseMethodDescriptor yX9_told.desc).map (fun d => d.parameters.length) = some 2 := by decide +kernel
theorem hdn_yX9_triple : yX9_triple.cls ≠ "java/lang/invoke/MethodHandle" ∧ yX9_triple.cls ≠ "java/lang/invoke/VarHandle" ∧ (parseMethodDescriptor yX9_triple.desc).map (fun d => d.parameters.length) = some 3 := by decide +kernel
theorem hdn_yX9_wholes : yX9_wholes.cls ≠ "java/lang/invoke/MethodHandle" ∧ yX9_wholes.cls ≠ "java/lang/invoke/VarHandle" ∧ (parseMethodDescriptor yX9_wholes.desc).map (fun d => d.parameters.length) = some 2 := by decide +kernel
theorem hdn_yX9_within : yX9_within.cls ≠ "java/lang/invoke/MethodHandle" ∧ yX9_within.cls ≠ "java/lang/invoke/VarHandle" ∧ (parseMethodDescriptor yX9_within.desc).map (fun d => d.parameters.length) = some 2 := by decide +kernel
theorem hdn_yJ7_fill_53178 : yJ7_fill_53178.cls ≠ "java/lang/invoke/MethodHandle" ∧ yJ7_fill_53178.cls ≠ "java/lang/invoke/VarHandle" ∧ (parseMethodDescriptor yJ7_fill_53178.desc).map (fun d => d.parameters.length) = some 2 := by decide +kernel
theorem hdn_yJ7_fill_d0a16 : yJ7_fill_d0a16.cls ≠ "java/lang/invoke/MethodHandle" ∧ yJ7_fill_d0a16.cls ≠ "java/lang/invoke/VarHandle" ∧ (parseMethodDescriptor yJ7_fill_d0a16.desc).map (fun d => d.parameters.length) = some 2 := by decide +kernel
theorem hdn_xR_place : RX5 ≠ "java/lang/invoke/MethodHandle" ∧ RX5 ≠ "java/lang/invoke/VarHandle" ∧ (parseMethodDescriptor xR_place.desc).map (fun d => d.parameters.length) = some 4 := by decide +kernel
theorem hdn_xR_fill : RX5 ≠ "java/lang/invoke/MethodHandle" ∧ RX5 ≠ "java/lang/invoke/VarHandle" ∧ (parseMethodDescriptor xR_fill.desc).map (fun d => d.parameters.length) = some 3 := by decide +kernel
theorem hdn_xR_singleAt : RX5 ≠ "java/lang/invoke/MethodHandle" ∧ RX5 ≠ "java/lang/invoke/VarHandle" ∧ (parseMethodDescriptor xR_singleAt.desc).map (fun d => d.parameters.length) = some 1 := by decide +kernel
theorem hdn_xR_madeOf : RX5 ≠ "java/lang/invoke/MethodHandle" ∧ RX5 ≠ "java/lang/invoke/VarHandle" ∧ (parseMethodDescriptor xR_madeOf.desc).map (fun d => d.parameters.length) = some 0 := by decide +kernel
theorem hdn_xS_placeOf : RX7 ≠ "java/lang/invoke/MethodHandle" ∧ RX7 ≠ "java/lang/invoke/VarHandle" ∧ (parseMethodDescriptor xS_placeOf.desc).map (fun d => d.parameters.length) = some 1 := by decide +kernel
theorem hdn_xS_valueAt : RX7 ≠ "java/lang/invoke/MethodHandle" ∧ RX7 ≠ "java/lang/invoke/VarHandle" ∧ (parseMethodDescriptor xS_valueAt.desc).map (fun d => d.parameters.length) = some 1 := by decide +kernel
theorem hdn_xS_liesIn : RX7 ≠ "java/lang/invoke/MethodHandle" ∧ RX7 ≠ "java/lang/invoke/VarHandle" ∧ (parseMethodDescriptor xS_liesIn.desc).map (fun d => d.parameters.length) = some 1 := by decide +kernel
theorem vp_in_c {k m : Int32} {n : Nat} (hm : m.toInt = (n : Int)) (h0 : ¬ k < 0) (h1 : ¬ m ≤ k) : vp_in k n := by
  rw [vp_in_iff]
  rw [Int32.lt_iff_toInt_lt] at h0
  rw [Int32.le_iff_toInt_le, hm] at h1
  have e : (0 : Int32).toInt = 0 := rfl
  rw [e] at h0
  omega
def lookC (g : Nat → Int64) (k : Int32) : Int64 := if k < (0 : Int32) then ((0 : Int64)) else if (8 : Int32) ≤ k then ((0 : Int64)) else (g k.toNatClampNeg)
set_option maxHeartbeats 4000000 in
set_option maxRecDepth 100000 in
theorem c_look (l : Launch) (D : va_G) (B : Nat) (K : Nat → ClassId) (f : St) (a0 : Nat) (g : Nat → Int64) (k : Int32) (ha : Nat) (h0 : f a0 = some (.inr (2, [.ref ha]))) (h1 : f ha = some (.inl (K 1, 8, .inr (.inl g)))) : Kc l D B K yX2_look cX2_look 2 (some .long) 0 0 0 [.ref a0, .int k] f (Ql_ D B (fun r f9 => r = lookC g k ∧ f9 = f)) := by
  refine v_met [(0, .ref a0), (1, .int k)] (by decide) (Nat.le_of_ble_eq_true rfl) rfl ?_
  intro p e s m args below meth c C hr hlk hin
  refine v_iload_n C dX2_look_0 rfl rfl ?_
  refine v_if_lt (tgt := 19) C dX2_look_1 (by decide) (fun c_1 => ?_) (fun c_1 => ?_)
  · refine v_lconst (v := 0) C dX2_look_19 (by decide) ?_
    exact v_lret C hr hlk dX2_look_20 (Nat.le_refl _) (Nat.le_refl _) ⟨by unfold lookC; rw [if_pos c_1], rfl⟩
  · refine v_iload_n C dX2_look_4 rfl rfl ?_
    refine v_bipush (v := 8) C dX2_look_5 (by decide) ?_
    refine v_icmp_ge (tgt := 19) C dX2_look_7 (by decide) (fun c_7 => ?_) (fun c_7 => ?_)
    · refine v_lconst (v := 0) C dX2_look_19 (by decide) ?_
      exact v_lret C hr hlk dX2_look_20 (Nat.le_refl _) (Nat.le_refl _) ⟨by unfold lookC; rw [if_neg c_1, if_pos c_7], rfl⟩
    · refine v_aload_n C dX2_look_10 rfl rfl ?_
      refine v_get C dX2_look_11 0 h0 rfl in_X2 (by decide) g_fl_X2_9 (fun _ h9 => h9) rfl ?_
      refine v_iload_n C dX2_look_14 rfl rfl ?_
      refine v_lald C dX2_look_15 h1 (vp_in_c rfl c_1 c_7) ?_
      refine v_goto (tgt := 20) C dX2_look_16 (by decide) ?_
      exact v_lret C hr hlk dX2_look_20 (Nat.le_refl _) (Nat.le_refl _) ⟨by unfold lookC; rw [if_neg c_1, if_neg c_7], rfl⟩

def npC (sz : Int64) (ar : Int32) (fi : Int32) (v : Int64) : Int64 := if v < (0 : Int64) then ((-2 : Int64)) else if v < ar.toInt64 then if v < fi.toInt64 then if sz ≤ ((v - fi.toInt64) + ar.toInt64) then ((-2 : Int64)) else ((v - fi.toInt64) + ar.toInt64) else if sz ≤ (v - fi.toInt64) then ((-2 : Int64)) else (v - fi.toInt64) else ((-2 : Int64))
set_option maxHeartbeats 4000000 in
set_option maxRecDepth 100000 in
theorem c_Names_placeOf (l : Launch) (D : va_G) (B : Nat) (K : Nat → ClassId) (f : St) (a0 : Nat) (sz : Int64) (ar : Int32) (fi : Int32) (v : Int64) (num kd : Int32) (h0 : f a0 = some (.inr (4, [.int num, .int kd, .int 1, .long sz, .int ar, .int fi]))) : Kc l D B K yX4_placeOf cX4_placeOf 5 (some .long) 0 0 0 [.ref a0, .long v] f (Ql_ D B (fun r f9 => r = npC sz ar fi v ∧ f9 = f)) := by
  refine v_met [(0, .ref a0), (1, .long v)] (by decide) (Nat.le_of_ble_eq_true rfl) rfl ?_
  intro p e s m args below meth c C hr hlk hin
  refine v_lload_n C dX4_placeOf_0 rfl rfl ?_
  refine v_lconst (v := 0) C dX4_placeOf_1 (by decide) ?_
  refine v_lc_lt (tgt := 16) C dX4_placeOf_2 dX4_placeOf_3 (by decide) (fun c_2 => ?_) (fun c_2 => ?_)
  · refine v_ldc2 C dX4_placeOf_16 g_kl_X4_18 ?_
    exact v_lret C hr hlk dX4_placeOf_19 (Nat.le_refl _) (Nat.le_refl _) ⟨by unfold npC; rw [if_pos c_2], rfl⟩
  · refine v_lload_n C dX4_placeOf_6 rfl rfl ?_
    refine v_aload_n C dX4_placeOf_7 rfl rfl ?_
    refine v_get C dX4_placeOf_8 4 h0 rfl in_X4 (by decide) g_fl_X4_9 (fun _ h9 => h9) rfl ?_
    refine v_i2l C dX4_placeOf_11 ?_
    refine v_lc_lt (tgt := 20) C dX4_placeOf_12 dX4_placeOf_13 (by decide) (fun c_12 => ?_) (fun c_12 => ?_)
    · refine v_lload_n C dX4_placeOf_20 rfl rfl ?_
      refine v_aload_n C dX4_placeOf_21 rfl rfl ?_
      refine v_get C dX4_placeOf_22 5 h0 rfl in_X4 (by decide) g_fl_X4_15 (fun _ h9 => h9) rfl ?_
      refine v_i2l C dX4_placeOf_25 ?_
      refine v_lc_lt (tgt := 40) C dX4_placeOf_26 dX4_placeOf_27 (by decide) (fun c_26 => ?_) (fun c_26 => ?_)
      · refine v_lload_n C dX4_placeOf_40 rfl rfl ?_
        refine v_aload_n C dX4_placeOf_41 rfl rfl ?_
        refine v_get C dX4_placeOf_42 5 h0 rfl in_X4 (by decide) g_fl_X4_15 (fun _ h9 => h9) rfl ?_
        refine v_i2l C dX4_placeOf_45 ?_
        refine v_lsub C dX4_placeOf_46 ?_
        refine v_aload_n C dX4_placeOf_47 rfl rfl ?_
        refine v_get C dX4_placeOf_48 4 h0 rfl in_X4 (by decide) g_fl_X4_9 (fun _ h9 => h9) rfl ?_
        refine v_i2l C dX4_placeOf_51 ?_
        refine v_ladd C dX4_placeOf_52 ?_
        refine v_lstore_n C dX4_placeOf_53 rfl (by decide) rfl ?_
        refine v_lload_n C dX4_placeOf_54 rfl rfl ?_
        refine v_aload_n C dX4_placeOf_55 rfl rfl ?_
        refine v_get C dX4_placeOf_56 3 h0 rfl in_X4 (by decide) g_fl_X4_20 (fun x9 h9 => u_same (C.2.2.2.2.1 _ g_sf_X4_size) x9 h9) rfl ?_
        refine v_lc_ge (tgt := 67) C dX4_placeOf_59 dX4_placeOf_60 (by decide) (fun c_59 => ?_) (fun c_59 => ?_)
        · refine v_ldc2 C dX4_placeOf_67 g_kl_X4_18 ?_
          exact v_lret C hr hlk dX4_placeOf_70 (Nat.le_refl _) (Nat.le_refl _) ⟨by unfold npC; rw [if_neg c_2, if_pos c_12, if_pos c_26, if_pos c_59], rfl⟩
        · refine v_lload_n C dX4_placeOf_63 rfl rfl ?_
          refine v_goto (tgt := 70) C dX4_placeOf_64 (by decide) ?_
          exact v_lret C hr hlk dX4_placeOf_70 (Nat.le_refl _) (Nat.le_refl _) ⟨by unfold npC; rw [if_neg c_2, if_pos c_12, if_pos c_26, if_neg c_59], rfl⟩
      · refine v_lload_n C dX4_placeOf_30 rfl rfl ?_
        refine v_aload_n C dX4_placeOf_31 rfl rfl ?_
        refine v_get C dX4_placeOf_32 5 h0 rfl in_X4 (by decide) g_fl_X4_15 (fun _ h9 => h9) rfl ?_
        refine v_i2l C dX4_placeOf_35 ?_
        refine v_lsub C dX4_placeOf_36 ?_
        refine v_goto (tgt := 53) C dX4_placeOf_37 (by decide) ?_
        refine v_lstore_n C dX4_placeOf_53 rfl (by decide) rfl ?_
        refine v_lload_n C dX4_placeOf_54 rfl rfl ?_
        refine v_aload_n C dX4_placeOf_55 rfl rfl ?_
        refine v_get C dX4_placeOf_56 3 h0 rfl in_X4 (by decide) g_fl_X4_20 (fun x9 h9 => u_same (C.2.2.2.2.1 _ g_sf_X4_size) x9 h9) rfl ?_
        refine v_lc_ge (tgt := 67) C dX4_placeOf_59 dX4_placeOf_60 (by decide) (fun c_59 => ?_) (fun c_59 => ?_)
        · refine v_ldc2 C dX4_placeOf_67 g_kl_X4_18 ?_
          exact v_lret C hr hlk dX4_placeOf_70 (Nat.le_refl _) (Nat.le_refl _) ⟨by unfold npC; rw [if_neg c_2, if_pos c_12, if_neg c_26, if_pos c_59], rfl⟩
        · refine v_lload_n C dX4_placeOf_63 rfl rfl ?_
          refine v_goto (tgt := 70) C dX4_placeOf_64 (by decide) ?_
          exact v_lret C hr hlk dX4_placeOf_70 (Nat.le_refl _) (Nat.le_refl _) ⟨by unfold npC; rw [if_neg c_2, if_pos c_12, if_neg c_26, if_neg c_59], rfl⟩
    · refine v_ldc2 C dX4_placeOf_16 g_kl_X4_18 ?_
      exact v_lret C hr hlk dX4_placeOf_19 (Nat.le_refl _) (Nat.le_refl _) ⟨by unfold npC; rw [if_neg c_2, if_neg c_12], rfl⟩

def nvC (sz : Int64) (ar : Int32) (fi : Int32) (k : Int64) : Int64 := if ar.toInt64 ≤ (fi.toInt64 + k) then ((fi.toInt64 + k) - ar.toInt64) else (fi.toInt64 + k)
set_option maxHeartbeats 4000000 in
set_option maxRecDepth 100000 in
theorem c_Names_valueAt (l : Launch) (D : va_G) (B : Nat) (K : Nat → ClassId) (f : St) (a0 : Nat) (sz : Int64) (ar : Int32) (fi : Int32) (k : Int64) (num kd : Int32) (h0 : f a0 = some (.inr (4, [.int num, .int kd, .int 1, .long sz, .int ar, .int fi]))) : Kc l D B K yX4_valueAt cX4_valueAt 5 (some .long) 0 0 0 [.ref a0, .long k] f (Ql_ D B (fun r f9 => r = nvC sz ar fi k ∧ f9 = f)) := by
  refine v_met [(0, .ref a0), (1, .long k)] (by decide) (Nat.le_of_ble_eq_true rfl) rfl ?_
  intro p e s m args below meth c C hr hlk hin
  refine v_aload_n C dX4_valueAt_0 rfl rfl ?_
  refine v_get C dX4_valueAt_1 5 h0 rfl in_X4 (by decide) g_fl_X4_15 (fun _ h9 => h9) rfl ?_
  refine v_i2l C dX4_valueAt_4 ?_
  refine v_lload_n C dX4_valueAt_5 rfl rfl ?_
  refine v_ladd C dX4_valueAt_6 ?_
  refine v_lstore_n C dX4_valueAt_7 rfl (by decide) rfl ?_
  refine v_lload_n C dX4_valueAt_8 rfl rfl ?_
  refine v_aload_n C dX4_valueAt_9 rfl rfl ?_
  refine v_get C dX4_valueAt_10 4 h0 rfl in_X4 (by decide) g_fl_X4_9 (fun _ h9 => h9) rfl ?_
  refine v_i2l C dX4_valueAt_13 ?_
  refine v_lc_ge (tgt := 22) C dX4_valueAt_14 dX4_valueAt_15 (by decide) (fun c_14 => ?_) (fun c_14 => ?_)
  · refine v_lload_n C dX4_valueAt_22 rfl rfl ?_
    refine v_aload_n C dX4_valueAt_23 rfl rfl ?_
    refine v_get C dX4_valueAt_24 4 h0 rfl in_X4 (by decide) g_fl_X4_9 (fun _ h9 => h9) rfl ?_
    refine v_i2l C dX4_valueAt_27 ?_
    refine v_lsub C dX4_valueAt_28 ?_
    exact v_lret C hr hlk dX4_valueAt_29 (Nat.le_refl _) (Nat.le_refl _) ⟨by unfold nvC; rw [if_pos c_14], rfl⟩
  · refine v_lload_n C dX4_valueAt_18 rfl rfl ?_
    refine v_goto (tgt := 29) C dX4_valueAt_19 (by decide) ?_
    exact v_lret C hr hlk dX4_valueAt_29 (Nat.le_refl _) (Nat.le_refl _) ⟨by unfold nvC; rw [if_neg c_14], rfl⟩

def rpC (sz : Int64) (fi : Int64) (la : Int64) (sp : Int32) (v : Int64) : Int64 := if sp ≤ (0 : Int32) then if fi < v then if sz = (0 : Int64) then ((-2 : Int64)) else ((-2 : Int64)) else if la ≤ v then if sz = (0 : Int64) then ((-2 : Int64)) else if ((quC (fi - v) ((-sp).toInt64)) * ((-sp).toInt64)) = (fi - v) then if (0 : Int64) ≤ (quC (fi - v) ((-sp).toInt64)) then (quC (fi - v) ((-sp).toInt64)) else ((-1 : Int64)) else ((-2 : Int64)) else if sz = (0 : Int64) then ((-2 : Int64)) else ((-2 : Int64)) else if v < fi then if sz = (0 : Int64) then ((-2 : Int64)) else ((-2 : Int64)) else if v ≤ la then if sz = (0 : Int64) then ((-2 : Int64)) else if ((quC (v - fi) sp.toInt64) * sp.toInt64) = (v - fi) then if (0 : Int64) ≤ (quC (v - fi) sp.toInt64) then (quC (v - fi) sp.toInt64) else ((-1 : Int64)) else ((-2 : Int64)) else if sz = (0 : Int64) then ((-2 : Int64)) else ((-2 : Int64))
set_option maxHeartbeats 4000000 in
set_option maxRecDepth 100000 in
theorem c_Row_placeOf (l : Launch) (D : va_G) (B : Nat) (K : Nat → ClassId) (f : St) (a0 : Nat) (sz : Int64) (fi : Int64) (la : Int64) (sp : Int32) (v : Int64) (num kd : Int32) (h0 : f a0 = some (.inr (5, [.int num, .int kd, .int 1, .long sz, .long fi, .long la, .int sp]))) : Kc l D B K yX6_placeOf cX6_placeOf 11 (some .long) 1 0 0 [.ref a0, .long v] f (Ql_ D B (fun r f9 => r = rpC sz fi la sp v ∧ f9 = f)) := by
  refine v_met [(0, .ref a0), (1, .long v)] (by decide) (Nat.le_of_ble_eq_true rfl) rfl ?_
  intro p e s m args below meth c C hr hlk hin
  refine v_aload_n C dX6_placeOf_0 rfl rfl ?_
  refine v_get C dX6_placeOf_1 6 h0 rfl in_X6 (by decide) g_fl_X6_18 (fun _ h9 => h9) rfl ?_
  refine v_if_le (tgt := 11) C dX6_placeOf_4 (by decide) (fun c_4 => ?_) (fun c_4 => ?_)
  · refine v_iconst (v := 0) C dX6_placeOf_11 (by decide) ?_
    refine v_istore_n C dX6_placeOf_12 rfl (by decide) rfl ?_
    refine v_iload_n C dX6_placeOf_13 rfl rfl ?_
    refine v_if_eq (tgt := 43) C dX6_placeOf_14 (by decide) (fun _ => ?_) (fun c_14 => absurd c_14 (by decide))
    refine v_lload_n C dX6_placeOf_43 rfl rfl ?_
    refine v_aload_n C dX6_placeOf_44 rfl rfl ?_
    refine v_get C dX6_placeOf_45 4 h0 rfl in_X6 (by decide) g_fl_X6_9 (fun _ h9 => h9) rfl ?_
    refine v_lc_gt (tgt := 61) C dX6_placeOf_48 dX6_placeOf_49 (by decide) (fun c_48 => ?_) (fun c_48 => ?_)
    · refine v_iconst (v := 1) C dX6_placeOf_61 (by decide) ?_
      refine v_goto (tgt := 66) C dX6_placeOf_62 (by decide) ?_
      refine v_istore C dX6_placeOf_66 (by decide) rfl ?_
      refine v_aload_n C dX6_placeOf_68 rfl rfl ?_
      refine v_get C dX6_placeOf_69 3 h0 rfl in_X6 (by decide) g_fl_X6_22 (fun x9 h9 => u_same (C.2.2.2.2.1 _ g_sf_X6_size) x9 h9) rfl ?_
      refine v_lconst (v := 0) C dX6_placeOf_72 (by decide) ?_
      refine v_lc_eq (tgt := 82) C dX6_placeOf_73 dX6_placeOf_74 (by decide) (fun c_73 => ?_) (fun c_73 => ?_)
      · refine v_ldc2 C dX6_placeOf_82 g_kl_X6_25 ?_
        exact v_lret C hr hlk dX6_placeOf_85 (Nat.le_refl _) (Nat.le_refl _) ⟨by unfold rpC; rw [if_pos c_4, if_pos c_48, if_pos c_73], rfl⟩
      · refine v_iload C dX6_placeOf_77 rfl ?_
        refine v_if_eq (tgt := 86) C dX6_placeOf_79 (by decide) (fun c_79 => absurd c_79 (by decide)) (fun _ => ?_)
        refine v_ldc2 C dX6_placeOf_82 g_kl_X6_25 ?_
        exact v_lret C hr hlk dX6_placeOf_85 (Nat.le_refl _) (Nat.le_refl _) ⟨by unfold rpC; rw [if_pos c_4, if_pos c_48, if_neg c_73], rfl⟩
    · refine v_lload_n C dX6_placeOf_52 rfl rfl ?_
      refine v_aload_n C dX6_placeOf_53 rfl rfl ?_
      refine v_get C dX6_placeOf_54 5 h0 rfl in_X6 (by decide) g_fl_X6_15 (fun _ h9 => h9) rfl ?_
      refine v_lc_ge (tgt := 65) C dX6_placeOf_57 dX6_placeOf_58 (by decide) (fun c_57 => ?_) (fun c_57 => ?_)
      · refine v_iconst (v := 0) C dX6_placeOf_65 (by decide) ?_
        refine v_istore C dX6_placeOf_66 (by decide) rfl ?_
        refine v_aload_n C dX6_placeOf_68 rfl rfl ?_
        refine v_get C dX6_placeOf_69 3 h0 rfl in_X6 (by decide) g_fl_X6_22 (fun x9 h9 => u_same (C.2.2.2.2.1 _ g_sf_X6_size) x9 h9) rfl ?_
        refine v_lconst (v := 0) C dX6_placeOf_72 (by decide) ?_
        refine v_lc_eq (tgt := 82) C dX6_placeOf_73 dX6_placeOf_74 (by decide) (fun c_73 => ?_) (fun c_73 => ?_)
        · refine v_ldc2 C dX6_placeOf_82 g_kl_X6_25 ?_
          exact v_lret C hr hlk dX6_placeOf_85 (Nat.le_refl _) (Nat.le_refl _) ⟨by unfold rpC; rw [if_pos c_4, if_neg c_48, if_pos c_57, if_pos c_73], rfl⟩
        · refine v_iload C dX6_placeOf_77 rfl ?_
          refine v_if_eq (tgt := 86) C dX6_placeOf_79 (by decide) (fun _ => ?_) (fun c_79 => absurd c_79 (by decide))
          refine v_iload_n C dX6_placeOf_86 rfl rfl ?_
          refine v_if_eq (tgt := 98) C dX6_placeOf_87 (by decide) (fun _ => ?_) (fun c_87 => absurd c_87 (by decide))
          refine v_aload_n C dX6_placeOf_98 rfl rfl ?_
          refine v_get C dX6_placeOf_99 6 h0 rfl in_X6 (by decide) g_fl_X6_18 (fun _ h9 => h9) rfl ?_
          refine v_ineg C dX6_placeOf_102 ?_
          refine v_i2l C dX6_placeOf_103 ?_
          refine v_lstore C dX6_placeOf_104 (by decide) rfl ?_
          refine v_iload_n C dX6_placeOf_106 rfl rfl ?_
          refine v_if_eq (tgt := 119) C dX6_placeOf_107 (by decide) (fun _ => ?_) (fun c_107 => absurd c_107 (by decide))
          refine v_aload_n C dX6_placeOf_119 rfl rfl ?_
          refine v_get C dX6_placeOf_120 4 h0 rfl in_X6 (by decide) g_fl_X6_9 (fun _ h9 => h9) rfl ?_
          refine v_lload_n C dX6_placeOf_123 rfl rfl ?_
          refine v_lsub C dX6_placeOf_124 ?_
          refine v_lstore C dX6_placeOf_125 (by decide) rfl ?_
          refine v_lload C dX6_placeOf_127 rfl ?_
          refine v_lload C dX6_placeOf_129 rfl ?_
          refine v_cl (r_SN (host := RX8) C (c_quotient l D B K _ _ _) dX6_placeOf_131 (by decide +kernel) g_st_yX8_quotient g_in_X8 g_cd_yX8_quotient (rn_le (by decide)) (by decide) rfl hdn_yX8_quotient (Nat.le_of_ble_eq_true rfl) ⟨Nat.le_of_ble_eq_true rfl, Nat.le_of_ble_eq_true rfl⟩) (fun r_131 f_131 hp_131 => ?_)
          obtain ⟨rfl, rfl⟩ := hp_131
          refine v_lstore C dX6_placeOf_134 (by decide) rfl ?_
          refine v_lload C dX6_placeOf_136 rfl ?_
          refine v_lload C dX6_placeOf_138 rfl ?_
          refine v_lmul C dX6_placeOf_140 ?_
          refine v_lload C dX6_placeOf_141 rfl ?_
          refine v_lc_eq (tgt := 151) C dX6_placeOf_143 dX6_placeOf_144 (by decide) (fun c_143 => ?_) (fun c_143 => ?_)
          · refine v_lload C dX6_placeOf_151 rfl ?_
            refine v_lconst (v := 0) C dX6_placeOf_153 (by decide) ?_
            refine v_lc_ge (tgt := 164) C dX6_placeOf_154 dX6_placeOf_155 (by decide) (fun c_154 => ?_) (fun c_154 => ?_)
            · refine v_lload C dX6_placeOf_164 rfl ?_
              exact v_lret C hr hlk dX6_placeOf_166 (Nat.le_refl _) (Nat.le_refl _) ⟨by unfold rpC; rw [if_pos c_4, if_neg c_48, if_pos c_57, if_neg c_73, if_pos c_143, if_pos c_154], rfl⟩
            · refine v_ldc2 C dX6_placeOf_158 g_kl_X6_31 ?_
              refine v_goto (tgt := 166) C dX6_placeOf_161 (by decide) ?_
              exact v_lret C hr hlk dX6_placeOf_166 (Nat.le_refl _) (Nat.le_refl _) ⟨by unfold rpC; rw [if_pos c_4, if_neg c_48, if_pos c_57, if_neg c_73, if_pos c_143, if_neg c_154], rfl⟩
          · refine v_ldc2 C dX6_placeOf_147 g_kl_X6_25 ?_
            exact v_lret C hr hlk dX6_placeOf_150 (Nat.le_refl _) (Nat.le_refl _) ⟨by unfold rpC; rw [if_pos c_4, if_neg c_48, if_pos c_57, if_neg c_73, if_neg c_143], rfl⟩
      · refine v_iconst (v := 1) C dX6_placeOf_61 (by decide) ?_
        refine v_goto (tgt := 66) C dX6_placeOf_62 (by decide) ?_
        refine v_istore C dX6_placeOf_66 (by decide) rfl ?_
        refine v_aload_n C dX6_placeOf_68 rfl rfl ?_
        refine v_get C dX6_placeOf_69 3 h0 rfl in_X6 (by decide) g_fl_X6_22 (fun x9 h9 => u_same (C.2.2.2.2.1 _ g_sf_X6_size) x9 h9) rfl ?_
        refine v_lconst (v := 0) C dX6_placeOf_72 (by decide) ?_
        refine v_lc_eq (tgt := 82) C dX6_placeOf_73 dX6_placeOf_74 (by decide) (fun c_73 => ?_) (fun c_73 => ?_)
        · refine v_ldc2 C dX6_placeOf_82 g_kl_X6_25 ?_
          exact v_lret C hr hlk dX6_placeOf_85 (Nat.le_refl _) (Nat.le_refl _) ⟨by unfold rpC; rw [if_pos c_4, if_neg c_48, if_neg c_57, if_pos c_73], rfl⟩
        · refine v_iload C dX6_placeOf_77 rfl ?_
          refine v_if_eq (tgt := 86) C dX6_placeOf_79 (by decide) (fun c_79 => absurd c_79 (by decide)) (fun _ => ?_)
          refine v_ldc2 C dX6_placeOf_82 g_kl_X6_25 ?_
          exact v_lret C hr hlk dX6_placeOf_85 (Nat.le_refl _) (Nat.le_refl _) ⟨by unfold rpC; rw [if_pos c_4, if_neg c_48, if_neg c_57, if_neg c_73], rfl⟩
  · refine v_iconst (v := 1) C dX6_placeOf_7 (by decide) ?_
    refine v_goto (tgt := 12) C dX6_placeOf_8 (by decide) ?_
    refine v_istore_n C dX6_placeOf_12 rfl (by decide) rfl ?_
    refine v_iload_n C dX6_placeOf_13 rfl rfl ?_
    refine v_if_eq (tgt := 43) C dX6_placeOf_14 (by decide) (fun c_14 => absurd c_14 (by decide)) (fun _ => ?_)
    refine v_lload_n C dX6_placeOf_17 rfl rfl ?_
    refine v_aload_n C dX6_placeOf_18 rfl rfl ?_
    refine v_get C dX6_placeOf_19 4 h0 rfl in_X6 (by decide) g_fl_X6_9 (fun _ h9 => h9) rfl ?_
    refine v_lc_lt (tgt := 35) C dX6_placeOf_22 dX6_placeOf_23 (by decide) (fun c_22 => ?_) (fun c_22 => ?_)
    · refine v_iconst (v := 1) C dX6_placeOf_35 (by decide) ?_
      refine v_goto (tgt := 66) C dX6_placeOf_36 (by decide) ?_
      refine v_istore C dX6_placeOf_66 (by decide) rfl ?_
      refine v_aload_n C dX6_placeOf_68 rfl rfl ?_
      refine v_get C dX6_placeOf_69 3 h0 rfl in_X6 (by decide) g_fl_X6_22 (fun x9 h9 => u_same (C.2.2.2.2.1 _ g_sf_X6_size) x9 h9) rfl ?_
      refine v_lconst (v := 0) C dX6_placeOf_72 (by decide) ?_
      refine v_lc_eq (tgt := 82) C dX6_placeOf_73 dX6_placeOf_74 (by decide) (fun c_73 => ?_) (fun c_73 => ?_)
      · refine v_ldc2 C dX6_placeOf_82 g_kl_X6_25 ?_
        exact v_lret C hr hlk dX6_placeOf_85 (Nat.le_refl _) (Nat.le_refl _) ⟨by unfold rpC; rw [if_neg c_4, if_pos c_22, if_pos c_73], rfl⟩
      · refine v_iload C dX6_placeOf_77 rfl ?_
        refine v_if_eq (tgt := 86) C dX6_placeOf_79 (by decide) (fun c_79 => absurd c_79 (by decide)) (fun _ => ?_)
        refine v_ldc2 C dX6_placeOf_82 g_kl_X6_25 ?_
        exact v_lret C hr hlk dX6_placeOf_85 (Nat.le_refl _) (Nat.le_refl _) ⟨by unfold rpC; rw [if_neg c_4, if_pos c_22, if_neg c_73], rfl⟩
    · refine v_lload_n C dX6_placeOf_26 rfl rfl ?_
      refine v_aload_n C dX6_placeOf_27 rfl rfl ?_
      refine v_get C dX6_placeOf_28 5 h0 rfl in_X6 (by decide) g_fl_X6_15 (fun _ h9 => h9) rfl ?_
      refine v_lc_le (tgt := 39) C dX6_placeOf_31 dX6_placeOf_32 (by decide) (fun c_31 => ?_) (fun c_31 => ?_)
      · refine v_iconst (v := 0) C dX6_placeOf_39 (by decide) ?_
        refine v_goto (tgt := 66) C dX6_placeOf_40 (by decide) ?_
        refine v_istore C dX6_placeOf_66 (by decide) rfl ?_
        refine v_aload_n C dX6_placeOf_68 rfl rfl ?_
        refine v_get C dX6_placeOf_69 3 h0 rfl in_X6 (by decide) g_fl_X6_22 (fun x9 h9 => u_same (C.2.2.2.2.1 _ g_sf_X6_size) x9 h9) rfl ?_
        refine v_lconst (v := 0) C dX6_placeOf_72 (by decide) ?_
        refine v_lc_eq (tgt := 82) C dX6_placeOf_73 dX6_placeOf_74 (by decide) (fun c_73 => ?_) (fun c_73 => ?_)
        · refine v_ldc2 C dX6_placeOf_82 g_kl_X6_25 ?_
          exact v_lret C hr hlk dX6_placeOf_85 (Nat.le_refl _) (Nat.le_refl _) ⟨by unfold rpC; rw [if_neg c_4, if_neg c_22, if_pos c_31, if_pos c_73], rfl⟩
        · refine v_iload C dX6_placeOf_77 rfl ?_
          refine v_if_eq (tgt := 86) C dX6_placeOf_79 (by decide) (fun _ => ?_) (fun c_79 => absurd c_79 (by decide))
          refine v_iload_n C dX6_placeOf_86 rfl rfl ?_
          refine v_if_eq (tgt := 98) C dX6_placeOf_87 (by decide) (fun c_87 => absurd c_87 (by decide)) (fun _ => ?_)
          refine v_aload_n C dX6_placeOf_90 rfl rfl ?_
          refine v_get C dX6_placeOf_91 6 h0 rfl in_X6 (by decide) g_fl_X6_18 (fun _ h9 => h9) rfl ?_
          refine v_i2l C dX6_placeOf_94 ?_
          refine v_goto (tgt := 104) C dX6_placeOf_95 (by decide) ?_
          refine v_lstore C dX6_placeOf_104 (by decide) rfl ?_
          refine v_iload_n C dX6_placeOf_106 rfl rfl ?_
          refine v_if_eq (tgt := 119) C dX6_placeOf_107 (by decide) (fun c_107 => absurd c_107 (by decide)) (fun _ => ?_)
          refine v_lload_n C dX6_placeOf_110 rfl rfl ?_
          refine v_aload_n C dX6_placeOf_111 rfl rfl ?_
          refine v_get C dX6_placeOf_112 4 h0 rfl in_X6 (by decide) g_fl_X6_9 (fun _ h9 => h9) rfl ?_
          refine v_lsub C dX6_placeOf_115 ?_
          refine v_goto (tgt := 125) C dX6_placeOf_116 (by decide) ?_
          refine v_lstore C dX6_placeOf_125 (by decide) rfl ?_
          refine v_lload C dX6_placeOf_127 rfl ?_
          refine v_lload C dX6_placeOf_129 rfl ?_
          refine v_cl (r_SN (host := RX8) C (c_quotient l D B K _ _ _) dX6_placeOf_131 (by decide +kernel) g_st_yX8_quotient g_in_X8 g_cd_yX8_quotient (rn_le (by decide)) (by decide) rfl hdn_yX8_quotient (Nat.le_of_ble_eq_true rfl) ⟨Nat.le_of_ble_eq_true rfl, Nat.le_of_ble_eq_true rfl⟩) (fun r_131 f_131 hp_131 => ?_)
          obtain ⟨rfl, rfl⟩ := hp_131
          refine v_lstore C dX6_placeOf_134 (by decide) rfl ?_
          refine v_lload C dX6_placeOf_136 rfl ?_
          refine v_lload C dX6_placeOf_138 rfl ?_
          refine v_lmul C dX6_placeOf_140 ?_
          refine v_lload C dX6_placeOf_141 rfl ?_
          refine v_lc_eq (tgt := 151) C dX6_placeOf_143 dX6_placeOf_144 (by decide) (fun c_143 => ?_) (fun c_143 => ?_)
          · refine v_lload C dX6_placeOf_151 rfl ?_
            refine v_lconst (v := 0) C dX6_placeOf_153 (by decide) ?_
            refine v_lc_ge (tgt := 164) C dX6_placeOf_154 dX6_placeOf_155 (by decide) (fun c_154 => ?_) (fun c_154 => ?_)
            · refine v_lload C dX6_placeOf_164 rfl ?_
              exact v_lret C hr hlk dX6_placeOf_166 (Nat.le_refl _) (Nat.le_refl _) ⟨by unfold rpC; rw [if_neg c_4, if_neg c_22, if_pos c_31, if_neg c_73, if_pos c_143, if_pos c_154], rfl⟩
            · refine v_ldc2 C dX6_placeOf_158 g_kl_X6_31 ?_
              refine v_goto (tgt := 166) C dX6_placeOf_161 (by decide) ?_
              exact v_lret C hr hlk dX6_placeOf_166 (Nat.le_refl _) (Nat.le_refl _) ⟨by unfold rpC; rw [if_neg c_4, if_neg c_22, if_pos c_31, if_neg c_73, if_pos c_143, if_neg c_154], rfl⟩
          · refine v_ldc2 C dX6_placeOf_147 g_kl_X6_25 ?_
            exact v_lret C hr hlk dX6_placeOf_150 (Nat.le_refl _) (Nat.le_refl _) ⟨by unfold rpC; rw [if_neg c_4, if_neg c_22, if_pos c_31, if_neg c_73, if_neg c_143], rfl⟩
      · refine v_iconst (v := 1) C dX6_placeOf_35 (by decide) ?_
        refine v_goto (tgt := 66) C dX6_placeOf_36 (by decide) ?_
        refine v_istore C dX6_placeOf_66 (by decide) rfl ?_
        refine v_aload_n C dX6_placeOf_68 rfl rfl ?_
        refine v_get C dX6_placeOf_69 3 h0 rfl in_X6 (by decide) g_fl_X6_22 (fun x9 h9 => u_same (C.2.2.2.2.1 _ g_sf_X6_size) x9 h9) rfl ?_
        refine v_lconst (v := 0) C dX6_placeOf_72 (by decide) ?_
        refine v_lc_eq (tgt := 82) C dX6_placeOf_73 dX6_placeOf_74 (by decide) (fun c_73 => ?_) (fun c_73 => ?_)
        · refine v_ldc2 C dX6_placeOf_82 g_kl_X6_25 ?_
          exact v_lret C hr hlk dX6_placeOf_85 (Nat.le_refl _) (Nat.le_refl _) ⟨by unfold rpC; rw [if_neg c_4, if_neg c_22, if_neg c_31, if_pos c_73], rfl⟩
        · refine v_iload C dX6_placeOf_77 rfl ?_
          refine v_if_eq (tgt := 86) C dX6_placeOf_79 (by decide) (fun c_79 => absurd c_79 (by decide)) (fun _ => ?_)
          refine v_ldc2 C dX6_placeOf_82 g_kl_X6_25 ?_
          exact v_lret C hr hlk dX6_placeOf_85 (Nat.le_refl _) (Nat.le_refl _) ⟨by unfold rpC; rw [if_neg c_4, if_neg c_22, if_neg c_31, if_neg c_73], rfl⟩

def rvC (sz : Int64) (fi : Int64) (la : Int64) (sp : Int32) (k : Int64) : Int64 := (fi + (k * sp.toInt64))
set_option maxHeartbeats 4000000 in
set_option maxRecDepth 100000 in
theorem c_Row_valueAt (l : Launch) (D : va_G) (B : Nat) (K : Nat → ClassId) (f : St) (a0 : Nat) (sz : Int64) (fi : Int64) (la : Int64) (sp : Int32) (k : Int64) (num kd : Int32) (h0 : f a0 = some (.inr (5, [.int num, .int kd, .int 1, .long sz, .long fi, .long la, .int sp]))) : Kc l D B K yX6_valueAt cX6_valueAt 3 (some .long) 0 0 0 [.ref a0, .long k] f (Ql_ D B (fun r f9 => r = rvC sz fi la sp k ∧ f9 = f)) := by
  refine v_met [(0, .ref a0), (1, .long k)] (by decide) (Nat.le_of_ble_eq_true rfl) rfl ?_
  intro p e s m args below meth c C hr hlk hin
  refine v_aload_n C dX6_valueAt_0 rfl rfl ?_
  refine v_get C dX6_valueAt_1 4 h0 rfl in_X6 (by decide) g_fl_X6_9 (fun _ h9 => h9) rfl ?_
  refine v_lload_n C dX6_valueAt_4 rfl rfl ?_
  refine v_aload_n C dX6_valueAt_5 rfl rfl ?_
  refine v_get C dX6_valueAt_6 6 h0 rfl in_X6 (by decide) g_fl_X6_18 (fun _ h9 => h9) rfl ?_
  refine v_i2l C dX6_valueAt_9 ?_
  refine v_lmul C dX6_valueAt_10 ?_
  refine v_ladd C dX6_valueAt_11 ?_
  exact v_lret C hr hlk dX6_valueAt_12 (Nat.le_refl _) (Nat.le_refl _) ⟨by unfold rvC; rfl, rfl⟩


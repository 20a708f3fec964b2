theorem kcX2_clear : Cond.code yX2_clear cX2_clear 2 none ∈ gtbl := kw 374 (by decide +kernel) (by decide +kernel)
theorem hdX2_clear : yX2_clear.cls ≠ "java/lang/invoke/MethodHandle" ∧ yX2_clear.cls ≠ "java/lang/invoke/VarHandle" ∧ (parseMethodDescriptor yX2_clear.desc).map (fun d => d.parameters.length) = some 0 := by decide +kernel
theorem kcX4_boxesFor : Cond.code yX4_boxesFor cX4_boxesFor 2 (some .int) ∈ gtbl := kw 378 (by decide +kernel) (by decide +kernel)
theorem hdX4_boxesFor : yX4_boxesFor.cls ≠ "java/lang/invoke/MethodHandle" ∧ yX4_boxesFor.cls ≠ "java/lang/invoke/VarHandle" ∧ (parseMethodDescriptor yX4_boxesFor.desc).map (fun d => d.parameters.length) = some 1 := by decide +kernel
theorem kcX3_anyApart : Cond.code yX3_anyApart cX3_anyApart 3 (some .boolean) ∈ gtbl := kw 382 (by decide +kernel) (by decide +kernel)
theorem hdX3_anyApart : yX3_anyApart.cls ≠ "java/lang/invoke/MethodHandle" ∧ yX3_anyApart.cls ≠ "java/lang/invoke/VarHandle" ∧ (parseMethodDescriptor yX3_anyApart.desc).map (fun d => d.parameters.length) = some 1 := by decide +kernel
theorem kcX3_isWhole : Cond.code yX3_isWhole cX3_isWhole 3 (some .boolean) ∈ gtbl := kw 386 (by decide +kernel) (by decide +kernel)
theorem hdX3_isWhole : yX3_isWhole.cls ≠ "java/lang/invoke/MethodHandle" ∧ yX3_isWhole.cls ≠ "java/lang/invoke/VarHandle" ∧ (parseMethodDescriptor yX3_isWhole.desc).map (fun d => d.parameters.length) = some 1 := by decide +kernel
theorem kcX4_boxesThatCarry : Cond.code yX4_boxesThatCarry cX4_boxesThatCarry 2 (some .int) ∈ gtbl := kw 390 (by decide +kernel) (by decide +kernel)
theorem hdX4_boxesThatCarry : yX4_boxesThatCarry.cls ≠ "java/lang/invoke/MethodHandle" ∧ yX4_boxesThatCarry.cls ≠ "java/lang/invoke/VarHandle" ∧ (parseMethodDescriptor yX4_boxesThatCarry.desc).map (fun d => d.parameters.length) = some 1 := by decide +kernel
theorem kcX3_kindsOf : Cond.code yX3_kindsOf cX3_kindsOf 4 (some .int) ∈ gtbl := kw 394 (by decide +kernel) (by decide +kernel)
theorem hdX3_kindsOf : yX3_kindsOf.cls ≠ "java/lang/invoke/MethodHandle" ∧ yX3_kindsOf.cls ≠ "java/lang/invoke/VarHandle" ∧ (parseMethodDescriptor yX3_kindsOf.desc).map (fun d => d.parameters.length) = some 1 := by decide +kernel
theorem kcX0_thatTake : Cond.code yX0_thatTake cX0_thatTake 4 (some .int) ∈ gtbl := kw 398 (by decide +kernel) (by decide +kernel)
theorem hdX0_thatTake : yX0_thatTake.cls ≠ "java/lang/invoke/MethodHandle" ∧ yX0_thatTake.cls ≠ "java/lang/invoke/VarHandle" ∧ (parseMethodDescriptor yX0_thatTake.desc).map (fun d => d.parameters.length) = some 1 := by decide +kernel
theorem kcX3_sizeOf : Cond.code yX3_sizeOf cX3_sizeOf 2 (some .int) ∈ gtbl := kw 402 (by decide +kernel) (by decide +kernel)
theorem hdX3_sizeOf : yX3_sizeOf.cls ≠ "java/lang/invoke/MethodHandle" ∧ yX3_sizeOf.cls ≠ "java/lang/invoke/VarHandle" ∧ (parseMethodDescriptor yX3_sizeOf.desc).map (fun d => d.parameters.length) = some 1 := by decide +kernel
theorem kcX3_sumOf : Cond.code yX3_sumOf cX3_sumOf 5 (some .int) ∈ gtbl := kw 406 (by decide +kernel) (by decide +kernel)
theorem hdX3_sumOf : yX3_sumOf.cls ≠ "java/lang/invoke/MethodHandle" ∧ yX3_sumOf.cls ≠ "java/lang/invoke/VarHandle" ∧ (parseMethodDescriptor yX3_sumOf.desc).map (fun d => d.parameters.length) = some 2 := by decide +kernel
theorem kcX0_withRoomFor : Cond.code yX0_withRoomFor cX0_withRoomFor 2 (some .int) ∈ gtbl := kw 410 (by decide +kernel) (by decide +kernel)
theorem hdX0_withRoomFor : yX0_withRoomFor.cls ≠ "java/lang/invoke/MethodHandle" ∧ yX0_withRoomFor.cls ≠ "java/lang/invoke/VarHandle" ∧ (parseMethodDescriptor yX0_withRoomFor.desc).map (fun d => d.parameters.length) = some 1 := by decide +kernel
theorem kcX0_withAtLeast : Cond.code yX0_withAtLeast cX0_withAtLeast 5 (some .int) ∈ gtbl := kw 414 (by decide +kernel) (by decide +kernel)
theorem hdX0_withAtLeast : yX0_withAtLeast.cls ≠ "java/lang/invoke/MethodHandle" ∧ yX0_withAtLeast.cls ≠ "java/lang/invoke/VarHandle" ∧ (parseMethodDescriptor yX0_withAtLeast.desc).map (fun d => d.parameters.length) = some 2 := by decide +kernel
theorem kcX3_weightOf : Cond.code yX3_weightOf cX3_weightOf 2 (some .int) ∈ gtbl := kw 418 (by decide +kernel) (by decide +kernel)
theorem hdX3_weightOf : yX3_weightOf.cls ≠ "java/lang/invoke/MethodHandle" ∧ yX3_weightOf.cls ≠ "java/lang/invoke/VarHandle" ∧ (parseMethodDescriptor yX3_weightOf.desc).map (fun d => d.parameters.length) = some 1 := by decide +kernel
theorem kcX0_thatBear : Cond.code yX0_thatBear cX0_thatBear 2 (some .int) ∈ gtbl := kw 422 (by decide +kernel) (by decide +kernel)
theorem hdX0_thatBear : yX0_thatBear.cls ≠ "java/lang/invoke/MethodHandle" ∧ yX0_thatBear.cls ≠ "java/lang/invoke/VarHandle" ∧ (parseMethodDescriptor yX0_thatBear.desc).map (fun d => d.parameters.length) = some 1 := by decide +kernel
theorem kcX0_cheapestOf : Cond.code yX0_cheapestOf cX0_cheapestOf 4 (some .int) ∈ gtbl := kw 426 (by decide +kernel) (by decide +kernel)
theorem hdX0_cheapestOf : yX0_cheapestOf.cls ≠ "java/lang/invoke/MethodHandle" ∧ yX0_cheapestOf.cls ≠ "java/lang/invoke/VarHandle" ∧ (parseMethodDescriptor yX0_cheapestOf.desc).map (fun d => d.parameters.length) = some 1 := by decide +kernel
theorem kcX0_costOf : Cond.code yX0_costOf cX0_costOf 2 (some .int) ∈ gtbl := kw 431 (by decide +kernel) (by decide +kernel)
theorem hdX0_costOf : yX0_costOf.cls ≠ "java/lang/invoke/MethodHandle" ∧ yX0_costOf.cls ≠ "java/lang/invoke/VarHandle" ∧ (parseMethodDescriptor yX0_costOf.desc).map (fun d => d.parameters.length) = some 1 := by decide +kernel
theorem kcX0_has : Cond.code yX0_has cX0_has 2 (some .boolean) ∈ gtbl := kw 435 (by decide +kernel) (by decide +kernel)
theorem hdX0_has : yX0_has.cls ≠ "java/lang/invoke/MethodHandle" ∧ yX0_has.cls ≠ "java/lang/invoke/VarHandle" ∧ (parseMethodDescriptor yX0_has.desc).map (fun d => d.parameters.length) = some 1 := by decide +kernel
theorem kcX2_offer : Cond.code yX2_offer cX2_offer 4 none ∈ gtbl := kw 440 (by decide +kernel) (by decide +kernel)
theorem hdX2_offer : yX2_offer.cls ≠ "java/lang/invoke/MethodHandle" ∧ yX2_offer.cls ≠ "java/lang/invoke/VarHandle" ∧ (parseMethodDescriptor yX2_offer.desc).map (fun d => d.parameters.length) = some 3 := by decide +kernel
theorem kcX2_putBest : Cond.code yX2_putBest cX2_putBest 6 (some .boolean) ∈ gtbl := kw 444 (by decide +kernel) (by decide +kernel)
theorem hdX2_putBest : yX2_putBest.cls ≠ "java/lang/invoke/MethodHandle" ∧ yX2_putBest.cls ≠ "java/lang/invoke/VarHandle" ∧ (parseMethodDescriptor yX2_putBest.desc).map (fun d => d.parameters.length) = some 2 := by decide +kernel
theorem kcX2_findBest : Cond.code yX2_findBest cX2_findBest 4 none ∈ gtbl := kw 448 (by decide +kernel) (by decide +kernel)
theorem hdX2_findBest : yX2_findBest.cls ≠ "java/lang/invoke/MethodHandle" ∧ yX2_findBest.cls ≠ "java/lang/invoke/VarHandle" ∧ (parseMethodDescriptor yX2_findBest.desc).map (fun d => d.parameters.length) = some 1 := by decide +kernel
theorem kcX2_tryFirst : Cond.code yX2_tryFirst cX2_tryFirst 6 none ∈ gtbl := kw 452 (by decide +kernel) (by decide +kernel)
theorem hdX2_tryFirst : yX2_tryFirst.cls ≠ "java/lang/invoke/MethodHandle" ∧ yX2_tryFirst.cls ≠ "java/lang/invoke/VarHandle" ∧ (parseMethodDescriptor yX2_tryFirst.desc).map (fun d => d.parameters.length) = some 2 := by decide +kernel
theorem kcX2_isBetter : Cond.code yX2_isBetter cX2_isBetter 7 (some .boolean) ∈ gtbl := kw 456 (by decide +kernel) (by decide +kernel)
theorem hdX2_isBetter : yX2_isBetter.cls ≠ "java/lang/invoke/MethodHandle" ∧ yX2_isBetter.cls ≠ "java/lang/invoke/VarHandle" ∧ (parseMethodDescriptor yX2_isBetter.desc).map (fun d => d.parameters.length) = some 4 := by decide +kernel
theorem kcX1_append : Cond.code yX1_append cX1_append 4 none ∈ gtbl := kw 460 (by decide +kernel) (by decide +kernel)
theorem hdX1_append : yX1_append.cls ≠ "java/lang/invoke/MethodHandle" ∧ yX1_append.cls ≠ "java/lang/invoke/VarHandle" ∧ (parseMethodDescriptor yX1_append.desc).map (fun d => d.parameters.length) = some 3 := by decide +kernel
theorem kcX4_putByRule : Cond.code yX4_putByRule cX4_putByRule 4 (some .boolean) ∈ gtbl := kw 464 (by decide +kernel) (by decide +kernel)
theorem hdX4_putByRule : yX4_putByRule.cls ≠ "java/lang/invoke/MethodHandle" ∧ yX4_putByRule.cls ≠ "java/lang/invoke/VarHandle" ∧ (parseMethodDescriptor yX4_putByRule.desc).map (fun d => d.parameters.length) = some 0 := by decide +kernel
theorem kcX3_companyOf : Cond.code yX3_companyOf cX3_companyOf 5 (some .int) ∈ gtbl := kw 469 (by decide +kernel) (by decide +kernel)
theorem hdX3_companyOf : yX3_companyOf.cls ≠ "java/lang/invoke/MethodHandle" ∧ yX3_companyOf.cls ≠ "java/lang/invoke/VarHandle" ∧ (parseMethodDescriptor yX3_companyOf.desc).map (fun d => d.parameters.length) = some 1 := by decide +kernel
theorem kcX4_putCompany : Cond.code yX4_putCompany cX4_putCompany 4 (some .boolean) ∈ gtbl := kw 473 (by decide +kernel) (by decide +kernel)
theorem hdX4_putCompany : yX4_putCompany.cls ≠ "java/lang/invoke/MethodHandle" ∧ yX4_putCompany.cls ≠ "java/lang/invoke/VarHandle" ∧ (parseMethodDescriptor yX4_putCompany.desc).map (fun d => d.parameters.length) = some 1 := by decide +kernel
theorem kcX1_setAt : Cond.code yX1_setAt cX1_setAt 2 (some .int) ∈ gtbl := kw 477 (by decide +kernel) (by decide +kernel)
theorem hdX1_setAt : yX1_setAt.cls ≠ "java/lang/invoke/MethodHandle" ∧ yX1_setAt.cls ≠ "java/lang/invoke/VarHandle" ∧ (parseMethodDescriptor yX1_setAt.desc).map (fun d => d.parameters.length) = some 1 := by decide +kernel
theorem kcX1_has : Cond.code yX1_has cX1_has 2 (some .boolean) ∈ gtbl := kw 481 (by decide +kernel) (by decide +kernel)
theorem hdX1_has : yX1_has.cls ≠ "java/lang/invoke/MethodHandle" ∧ yX1_has.cls ≠ "java/lang/invoke/VarHandle" ∧ (parseMethodDescriptor yX1_has.desc).map (fun d => d.parameters.length) = some 1 := by decide +kernel
theorem kcX1_boxAt : Cond.code yX1_boxAt cX1_boxAt 2 (some .int) ∈ gtbl := kw 485 (by decide +kernel) (by decide +kernel)
theorem hdX1_boxAt : yX1_boxAt.cls ≠ "java/lang/invoke/MethodHandle" ∧ yX1_boxAt.cls ≠ "java/lang/invoke/VarHandle" ∧ (parseMethodDescriptor yX1_boxAt.desc).map (fun d => d.parameters.length) = some 1 := by decide +kernel
theorem kcX1_replaceSet : Cond.code yX1_replaceSet cX1_replaceSet 3 none ∈ gtbl := kw 489 (by decide +kernel) (by decide +kernel)
theorem hdX1_replaceSet : yX1_replaceSet.cls ≠ "java/lang/invoke/MethodHandle" ∧ yX1_replaceSet.cls ≠ "java/lang/invoke/VarHandle" ∧ (parseMethodDescriptor yX1_replaceSet.desc).map (fun d => d.parameters.length) = some 2 := by decide +kernel
theorem kcX1_finish : Cond.code yX1_finish cX1_finish 2 none ∈ gtbl := kw 494 (by decide +kernel) (by decide +kernel)
theorem hdX1_finish : yX1_finish.cls ≠ "java/lang/invoke/MethodHandle" ∧ yX1_finish.cls ≠ "java/lang/invoke/VarHandle" ∧ (parseMethodDescriptor yX1_finish.desc).map (fun d => d.parameters.length) = some 1 := by decide +kernel
theorem kcL_chosen : Cond.codeWith yL_chosen cL_chosen 5 (some .int) [(0, 10, 13, 24), (0, 10, 17, 13)] ∈ gtbl := kw 497 (by decide +kernel) (by decide +kernel)
theorem hdL_chosen : yL_chosen.cls ≠ "java/lang/invoke/MethodHandle" ∧ yL_chosen.cls ≠ "java/lang/invoke/VarHandle" ∧ (parseMethodDescriptor yL_chosen.desc).map (fun d => d.parameters.length) = some 4 := by decide +kernel
theorem kcX4_chosen : Cond.code yX4_chosen cX4_chosen 3 (some .int) ∈ gtbl := kw 501 (by decide +kernel) (by decide +kernel)
theorem hdX4_chosen : yX4_chosen.cls ≠ "java/lang/invoke/MethodHandle" ∧ yX4_chosen.cls ≠ "java/lang/invoke/VarHandle" ∧ (parseMethodDescriptor yX4_chosen.desc).map (fun d => d.parameters.length) = some 2 := by decide +kernel
theorem kcL_where : Cond.codeWith yL_where cL_where 4 (some .int) [(0, 9, 12, 24)] ∈ gtbl := kw 507 (by decide +kernel) (by decide +kernel)
theorem hdL_where : yL_where.cls ≠ "java/lang/invoke/MethodHandle" ∧ yL_where.cls ≠ "java/lang/invoke/VarHandle" ∧ (parseMethodDescriptor yL_where.desc).map (fun d => d.parameters.length) = some 3 := by decide +kernel
theorem kcX4_where : Cond.code yX4_where cX4_where 2 (some .int) ∈ gtbl := kw 511 (by decide +kernel) (by decide +kernel)
theorem hdX4_where : yX4_where.cls ≠ "java/lang/invoke/MethodHandle" ∧ yX4_where.cls ≠ "java/lang/invoke/VarHandle" ∧ (parseMethodDescriptor yX4_where.desc).map (fun d => d.parameters.length) = some 1 := by decide +kernel
theorem kcX1_holderOf : Cond.code yX1_holderOf cX1_holderOf 3 (some .int) ∈ gtbl := kw 515 (by decide +kernel) (by decide +kernel)
theorem hdX1_holderOf : yX1_holderOf.cls ≠ "java/lang/invoke/MethodHandle" ∧ yX1_holderOf.cls ≠ "java/lang/invoke/VarHandle" ∧ (parseMethodDescriptor yX1_holderOf.desc).map (fun d => d.parameters.length) = some 1 := by decide +kernel
theorem kcL_bar : Cond.codeWith yL_bar cL_bar 4 (some .int) [(0, 9, 12, 24)] ∈ gtbl := kw 519 (by decide +kernel) (by decide +kernel)
theorem hdL_bar : yL_bar.cls ≠ "java/lang/invoke/MethodHandle" ∧ yL_bar.cls ≠ "java/lang/invoke/VarHandle" ∧ (parseMethodDescriptor yL_bar.desc).map (fun d => d.parameters.length) = some 3 := by decide +kernel
theorem kcX4_bar : Cond.code yX4_bar cX4_bar 4 (some .int) ∈ gtbl := kw 523 (by decide +kernel) (by decide +kernel)
theorem hdX4_bar : yX4_bar.cls ≠ "java/lang/invoke/MethodHandle" ∧ yX4_bar.cls ≠ "java/lang/invoke/VarHandle" ∧ (parseMethodDescriptor yX4_bar.desc).map (fun d => d.parameters.length) = some 1 := by decide +kernel
theorem kcL_fits : Cond.codeWith yL_fits cL_fits 5 (some .int) [(0, 17, 20, 24)] ∈ gtbl := kw 526 (by decide +kernel) (by decide +kernel)
theorem hdL_fits : yL_fits.cls ≠ "java/lang/invoke/MethodHandle" ∧ yL_fits.cls ≠ "java/lang/invoke/VarHandle" ∧ (parseMethodDescriptor yL_fits.desc).map (fun d => d.parameters.length) = some 4 := by decide +kernel
theorem kcX4_fits : Cond.code yX4_fits cX4_fits 3 (some .boolean) ∈ gtbl := kw 530 (by decide +kernel) (by decide +kernel)
theorem hdX4_fits : yX4_fits.cls ≠ "java/lang/invoke/MethodHandle" ∧ yX4_fits.cls ≠ "java/lang/invoke/VarHandle" ∧ (parseMethodDescriptor yX4_fits.desc).map (fun d => d.parameters.length) = some 2 := by decide +kernel
theorem kcX4_needBox : Cond.code yX4_needBox cX4_needBox 2 none ∈ gtbl := kw 534 (by decide +kernel) (by decide +kernel)
theorem hdX4_needBox : yX4_needBox.cls ≠ "java/lang/invoke/MethodHandle" ∧ yX4_needBox.cls ≠ "java/lang/invoke/VarHandle" ∧ (parseMethodDescriptor yX4_needBox.desc).map (fun d => d.parameters.length) = some 1 := by decide +kernel
theorem kcL_used : Cond.codeWith yL_used cL_used 4 (some .int) [(0, 9, 12, 13), (0, 9, 15, 54), (0, 9, 18, 56)] ∈ gtbl := kw 539 (by decide +kernel) (by decide +kernel)
theorem hdL_used : yL_used.cls ≠ "java/lang/invoke/MethodHandle" ∧ yL_used.cls ≠ "java/lang/invoke/VarHandle" ∧ (parseMethodDescriptor yL_used.desc).map (fun d => d.parameters.length) = some 3 := by decide +kernel
theorem kcX4_used : Cond.code yX4_used cX4_used 5 (some .int) ∈ gtbl := kw 545 (by decide +kernel) (by decide +kernel)
theorem hdX4_used : yX4_used.cls ≠ "java/lang/invoke/MethodHandle" ∧ yX4_used.cls ≠ "java/lang/invoke/VarHandle" ∧ (parseMethodDescriptor yX4_used.desc).map (fun d => d.parameters.length) = some 1 := by decide +kernel
theorem kcX0_roomOf : Cond.code yX0_roomOf cX0_roomOf 2 (some .int) ∈ gtbl := kw 565 (by decide +kernel) (by decide +kernel)
theorem hdX0_roomOf : yX0_roomOf.cls ≠ "java/lang/invoke/MethodHandle" ∧ yX0_roomOf.cls ≠ "java/lang/invoke/VarHandle" ∧ (parseMethodDescriptor yX0_roomOf.desc).map (fun d => d.parameters.length) = some 1 := by decide +kernel
theorem kcX4_commonDivisor : Cond.code yX4_commonDivisor cX4_commonDivisor 6 (some .int) ∈ gtbl := kw 568 (by decide +kernel) (by decide +kernel)
theorem hdX4_commonDivisor : yX4_commonDivisor.cls ≠ "java/lang/invoke/MethodHandle" ∧ yX4_commonDivisor.cls ≠ "java/lang/invoke/VarHandle" ∧ (parseMethodDescriptor yX4_commonDivisor.desc).map (fun d => d.parameters.length) = some 2 := by decide +kernel
theorem kcL_dimensional : Cond.codeWith yL_dimensional cL_dimensional 5 (some .int) [(0, 10, 13, 24), (0, 10, 17, 13), (0, 10, 21, 56)] ∈ gtbl := kw 587 (by decide +kernel) (by decide +kernel)
theorem hdL_dimensional : yL_dimensional.cls ≠ "java/lang/invoke/MethodHandle" ∧ yL_dimensional.cls ≠ "java/lang/invoke/VarHandle" ∧ (parseMethodDescriptor yL_dimensional.desc).map (fun d => d.parameters.length) = some 4 := by decide +kernel
theorem kcX4_dimensional : Cond.code yX4_dimensional cX4_dimensional 3 (some .int) ∈ gtbl := kw 591 (by decide +kernel) (by decide +kernel)
theorem hdX4_dimensional : yX4_dimensional.cls ≠ "java/lang/invoke/MethodHandle" ∧ yX4_dimensional.cls ≠ "java/lang/invoke/VarHandle" ∧ (parseMethodDescriptor yX4_dimensional.desc).map (fun d => d.parameters.length) = some 2 := by decide +kernel
theorem kcX5_init : Cond.code yX5_init cX5_init 1 none ∈ gtbl := kw 597 (by decide +kernel) (by decide +kernel)
theorem hdX5_init : yX5_init.cls ≠ "java/lang/invoke/MethodHandle" ∧ yX5_init.cls ≠ "java/lang/invoke/VarHandle" ∧ (parseMethodDescriptor yX5_init.desc).map (fun d => d.parameters.length) = some 0 := by decide +kernel
theorem kcX5_thrown : Cond.code yX5_thrown cX5_thrown 1 (some .int) ∈ gtbl := kw 663 (by decide +kernel) (by decide +kernel)
theorem hdX5_thrown : yX5_thrown.cls ≠ "java/lang/invoke/MethodHandle" ∧ yX5_thrown.cls ≠ "java/lang/invoke/VarHandle" ∧ (parseMethodDescriptor yX5_thrown.desc).map (fun d => d.parameters.length) = some 0 := by decide +kernel
theorem kcX5_box : Cond.code yX5_box cX5_box 5 (some .int) ∈ gtbl := kw 667 (by decide +kernel) (by decide +kernel)
theorem hdX5_box : yX5_box.cls ≠ "java/lang/invoke/MethodHandle" ∧ yX5_box.cls ≠ "java/lang/invoke/VarHandle" ∧ (parseMethodDescriptor yX5_box.desc).map (fun d => d.parameters.length) = some 4 := by decide +kernel
theorem kcX5_in : Cond.code yX5_in cX5_in 3 (some .boolean) ∈ gtbl := kw 670 (by decide +kernel) (by decide +kernel)
theorem hdX5_in : yX5_in.cls ≠ "java/lang/invoke/MethodHandle" ∧ yX5_in.cls ≠ "java/lang/invoke/VarHandle" ∧ (parseMethodDescriptor yX5_in.desc).map (fun d => d.parameters.length) = some 3 := by decide +kernel
theorem kcX5_unit : Cond.code yX5_unit cX5_unit 4 (some .int) ∈ gtbl := kw 674 (by decide +kernel) (by decide +kernel)
theorem hdX5_unit : yX5_unit.cls ≠ "java/lang/invoke/MethodHandle" ∧ yX5_unit.cls ≠ "java/lang/invoke/VarHandle" ∧ (parseMethodDescriptor yX5_unit.desc).map (fun d => d.parameters.length) = some 3 := by decide +kernel
theorem kcX5_group : Cond.code yX5_group cX5_group 5 (some .int) ∈ gtbl := kw 678 (by decide +kernel) (by decide +kernel)
theorem hdX5_group : yX5_group.cls ≠ "java/lang/invoke/MethodHandle" ∧ yX5_group.cls ≠ "java/lang/invoke/VarHandle" ∧ (parseMethodDescriptor yX5_group.desc).map (fun d => d.parameters.length) = some 3 := by decide +kernel
theorem kcX5_isUnit : Cond.code yX5_isUnit cX5_isUnit 2 (some .boolean) ∈ gtbl := kw 682 (by decide +kernel) (by decide +kernel)
theorem hdX5_isUnit : yX5_isUnit.cls ≠ "java/lang/invoke/MethodHandle" ∧ yX5_isUnit.cls ≠ "java/lang/invoke/VarHandle" ∧ (parseMethodDescriptor yX5_isUnit.desc).map (fun d => d.parameters.length) = some 1 := by decide +kernel
theorem kcX5_change : Cond.code yX5_change cX5_change 4 (some .int) ∈ gtbl := kw 686 (by decide +kernel) (by decide +kernel)
theorem hdX5_change : yX5_change.cls ≠ "java/lang/invoke/MethodHandle" ∧ yX5_change.cls ≠ "java/lang/invoke/VarHandle" ∧ (parseMethodDescriptor yX5_change.desc).map (fun d => d.parameters.length) = some 2 := by decide +kernel
theorem kcX5_slack : Cond.code yX5_slack cX5_slack 2 none ∈ gtbl := kw 690 (by decide +kernel) (by decide +kernel)
theorem hdX5_slack : yX5_slack.cls ≠ "java/lang/invoke/MethodHandle" ∧ yX5_slack.cls ≠ "java/lang/invoke/VarHandle" ∧ (parseMethodDescriptor yX5_slack.desc).map (fun d => d.parameters.length) = some 1 := by decide +kernel
theorem kcX5_choose : Cond.code yX5_choose cX5_choose 3 (some .int) ∈ gtbl := kw 694 (by decide +kernel) (by decide +kernel)
theorem hdX5_choose : yX5_choose.cls ≠ "java/lang/invoke/MethodHandle" ∧ yX5_choose.cls ≠ "java/lang/invoke/VarHandle" ∧ (parseMethodDescriptor yX5_choose.desc).map (fun d => d.parameters.length) = some 1 := by decide +kernel
theorem kcX5_exactly : Cond.code yX5_exactly cX5_exactly 2 none ∈ gtbl := kw 698 (by decide +kernel) (by decide +kernel)
theorem hdX5_exactly : yX5_exactly.cls ≠ "java/lang/invoke/MethodHandle" ∧ yX5_exactly.cls ≠ "java/lang/invoke/VarHandle" ∧ (parseMethodDescriptor yX5_exactly.desc).map (fun d => d.parameters.length) = some 0 := by decide +kernel
theorem kcX5_isWay : Cond.code yX5_isWay cX5_isWay 2 (some .boolean) ∈ gtbl := kw 702 (by decide +kernel) (by decide +kernel)
theorem hdX5_isWay : yX5_isWay.cls ≠ "java/lang/invoke/MethodHandle" ∧ yX5_isWay.cls ≠ "java/lang/invoke/VarHandle" ∧ (parseMethodDescriptor yX5_isWay.desc).map (fun d => d.parameters.length) = some 0 := by decide +kernel
theorem kcX5_cheapest : Cond.code yX5_cheapest cX5_cheapest 4 (some .int) ∈ gtbl := kw 706 (by decide +kernel) (by decide +kernel)
theorem hdX5_cheapest : yX5_cheapest.cls ≠ "java/lang/invoke/MethodHandle" ∧ yX5_cheapest.cls ≠ "java/lang/invoke/VarHandle" ∧ (parseMethodDescriptor yX5_cheapest.desc).map (fun d => d.parameters.length) = some 1 := by decide +kernel
theorem kcX5_fitsSet : Cond.code yX5_fitsSet cX5_fitsSet 3 (some .boolean) ∈ gtbl := kw 710 (by decide +kernel) (by decide +kernel)
theorem hdX5_fitsSet : yX5_fitsSet.cls ≠ "java/lang/invoke/MethodHandle" ∧ yX5_fitsSet.cls ≠ "java/lang/invoke/VarHandle" ∧ (parseMethodDescriptor yX5_fitsSet.desc).map (fun d => d.parameters.length) = some 2 := by decide +kernel
theorem kcX5_passes : Cond.code yX5_passes cX5_passes 4 (some .boolean) ∈ gtbl := kw 714 (by decide +kernel) (by decide +kernel)
theorem hdX5_passes : yX5_passes.cls ≠ "java/lang/invoke/MethodHandle" ∧ yX5_passes.cls ≠ "java/lang/invoke/VarHandle" ∧ (parseMethodDescriptor yX5_passes.desc).map (fun d => d.parameters.length) = some 3 := by decide +kernel
theorem kcX5_takesKinds : Cond.code yX5_takesKinds cX5_takesKinds 4 (some .boolean) ∈ gtbl := kw 718 (by decide +kernel) (by decide +kernel)
theorem hdX5_takesKinds : yX5_takesKinds.cls ≠ "java/lang/invoke/MethodHandle" ∧ yX5_takesKinds.cls ≠ "java/lang/invoke/VarHandle" ∧ (parseMethodDescriptor yX5_takesKinds.desc).map (fun d => d.parameters.length) = some 2 := by decide +kernel
theorem kcX5_has : Cond.code yX5_has cX5_has 2 (some .boolean) ∈ gtbl := kw 721 (by decide +kernel) (by decide +kernel)
theorem hdX5_has : yX5_has.cls ≠ "java/lang/invoke/MethodHandle" ∧ yX5_has.cls ≠ "java/lang/invoke/VarHandle" ∧ (parseMethodDescriptor yX5_has.desc).map (fun d => d.parameters.length) = some 2 := by decide +kernel
theorem kcX5_sizes : Cond.code yX5_sizes cX5_sizes 4 (some .int) ∈ gtbl := kw 725 (by decide +kernel) (by decide +kernel)
theorem hdX5_sizes : yX5_sizes.cls ≠ "java/lang/invoke/MethodHandle" ∧ yX5_sizes.cls ≠ "java/lang/invoke/VarHandle" ∧ (parseMethodDescriptor yX5_sizes.desc).map (fun d => d.parameters.length) = some 1 := by decide +kernel
theorem kcX5_weights : Cond.code yX5_weights cX5_weights 4 (some .int) ∈ gtbl := kw 729 (by decide +kernel) (by decide +kernel)
theorem hdX5_weights : yX5_weights.cls ≠ "java/lang/invoke/MethodHandle" ∧ yX5_weights.cls ≠ "java/lang/invoke/VarHandle" ∧ (parseMethodDescriptor yX5_weights.desc).map (fun d => d.parameters.length) = some 1 := by decide +kernel
theorem kcX5_hasApart : Cond.code yX5_hasApart cX5_hasApart 4 (some .boolean) ∈ gtbl := kw 733 (by decide +kernel) (by decide +kernel)
theorem hdX5_hasApart : yX5_hasApart.cls ≠ "java/lang/invoke/MethodHandle" ∧ yX5_hasApart.cls ≠ "java/lang/invoke/VarHandle" ∧ (parseMethodDescriptor yX5_hasApart.desc).map (fun d => d.parameters.length) = some 1 := by decide +kernel
theorem kcX5_isWhole : Cond.code yX5_isWhole cX5_isWhole 4 (some .boolean) ∈ gtbl := kw 737 (by decide +kernel) (by decide +kernel)
theorem hdX5_isWhole : yX5_isWhole.cls ≠ "java/lang/invoke/MethodHandle" ∧ yX5_isWhole.cls ≠ "java/lang/invoke/VarHandle" ∧ (parseMethodDescriptor yX5_isWhole.desc).map (fun d => d.parameters.length) = some 1 := by decide +kernel
theorem kcX5_isBetter : Cond.code yX5_isBetter cX5_isBetter 4 (some .boolean) ∈ gtbl := kw 741 (by decide +kernel) (by decide +kernel)
theorem hdX5_isBetter : yX5_isBetter.cls ≠ "java/lang/invoke/MethodHandle" ∧ yX5_isBetter.cls ≠ "java/lang/invoke/VarHandle" ∧ (parseMethodDescriptor yX5_isBetter.desc).map (fun d => d.parameters.length) = some 0 := by decide +kernel
theorem kcX5_costOf : Cond.code yX5_costOf cX5_costOf 5 (some .int) ∈ gtbl := kw 745 (by decide +kernel) (by decide +kernel)
theorem hdX5_costOf : yX5_costOf.cls ≠ "java/lang/invoke/MethodHandle" ∧ yX5_costOf.cls ≠ "java/lang/invoke/VarHandle" ∧ (parseMethodDescriptor yX5_costOf.desc).map (fun d => d.parameters.length) = some 2 := by decide +kernel
theorem kcX5_keep : Cond.code yX5_keep cX5_keep 2 none ∈ gtbl := kw 749 (by decide +kernel) (by decide +kernel)
theorem hdX5_keep : yX5_keep.cls ≠ "java/lang/invoke/MethodHandle" ∧ yX5_keep.cls ≠ "java/lang/invoke/VarHandle" ∧ (parseMethodDescriptor yX5_keep.desc).map (fun d => d.parameters.length) = some 0 := by decide +kernel
theorem kcX5_next : Cond.code yX5_next cX5_next 4 (some .boolean) ∈ gtbl := kw 753 (by decide +kernel) (by decide +kernel)
theorem hdX5_next : yX5_next.cls ≠ "java/lang/invoke/MethodHandle" ∧ yX5_next.cls ≠ "java/lang/invoke/VarHandle" ∧ (parseMethodDescriptor yX5_next.desc).map (fun d => d.parameters.length) = some 0 := by decide +kernel
theorem kcX5_byRule : Cond.code yX5_byRule cX5_byRule 5 none ∈ gtbl := kw 757 (by decide +kernel) (by decide +kernel)
theorem hdX5_byRule : yX5_byRule.cls ≠ "java/lang/invoke/MethodHandle" ∧ yX5_byRule.cls ≠ "java/lang/invoke/VarHandle" ∧ (parseMethodDescriptor yX5_byRule.desc).map (fun d => d.parameters.length) = some 0 := by decide +kernel
theorem kcX5_wholeOf : Cond.code yX5_wholeOf cX5_wholeOf 6 (some .int) ∈ gtbl := kw 761 (by decide +kernel) (by decide +kernel)
theorem hdX5_wholeOf : yX5_wholeOf.cls ≠ "java/lang/invoke/MethodHandle" ∧ yX5_wholeOf.cls ≠ "java/lang/invoke/VarHandle" ∧ (parseMethodDescriptor yX5_wholeOf.desc).map (fun d => d.parameters.length) = some 1 := by decide +kernel
theorem kcX5_exact : Cond.code yX5_exact cX5_exact 1 (some .boolean) ∈ gtbl := kw 765 (by decide +kernel) (by decide +kernel)
theorem hdX5_exact : yX5_exact.cls ≠ "java/lang/invoke/MethodHandle" ∧ yX5_exact.cls ≠ "java/lang/invoke/VarHandle" ∧ (parseMethodDescriptor yX5_exact.desc).map (fun d => d.parameters.length) = some 0 := by decide +kernel
theorem kcX5_boxes : Cond.code yX5_boxes cX5_boxes 1 (some .int) ∈ gtbl := kw 769 (by decide +kernel) (by decide +kernel)
theorem hdX5_boxes : yX5_boxes.cls ≠ "java/lang/invoke/MethodHandle" ∧ yX5_boxes.cls ≠ "java/lang/invoke/VarHandle" ∧ (parseMethodDescriptor yX5_boxes.desc).map (fun d => d.parameters.length) = some 0 := by decide +kernel
theorem kcX5_chosen : Cond.code yX5_chosen cX5_chosen 3 (some .int) ∈ gtbl := kw 773 (by decide +kernel) (by decide +kernel)
theorem hdX5_chosen : yX5_chosen.cls ≠ "java/lang/invoke/MethodHandle" ∧ yX5_chosen.cls ≠ "java/lang/invoke/VarHandle" ∧ (parseMethodDescriptor yX5_chosen.desc).map (fun d => d.parameters.length) = some 2 := by decide +kernel
theorem kcX5_where : Cond.code yX5_where cX5_where 3 (some .int) ∈ gtbl := kw 777 (by decide +kernel) (by decide +kernel)
theorem hdX5_where : yX5_where.cls ≠ "java/lang/invoke/MethodHandle" ∧ yX5_where.cls ≠ "java/lang/invoke/VarHandle" ∧ (parseMethodDescriptor yX5_where.desc).map (fun d => d.parameters.length) = some 1 := by decide +kernel
theorem kcX5_bar : Cond.code yX5_bar cX5_bar 6 (some .int) ∈ gtbl := kw 781 (by decide +kernel) (by decide +kernel)
theorem hdX5_bar : yX5_bar.cls ≠ "java/lang/invoke/MethodHandle" ∧ yX5_bar.cls ≠ "java/lang/invoke/VarHandle" ∧ (parseMethodDescriptor yX5_bar.desc).map (fun d => d.parameters.length) = some 1 := by decide +kernel
theorem kcX5_fits : Cond.code yX5_fits cX5_fits 3 (some .boolean) ∈ gtbl := kw 785 (by decide +kernel) (by decide +kernel)
theorem hdX5_fits : yX5_fits.cls ≠ "java/lang/invoke/MethodHandle" ∧ yX5_fits.cls ≠ "java/lang/invoke/VarHandle" ∧ (parseMethodDescriptor yX5_fits.desc).map (fun d => d.parameters.length) = some 2 := by decide +kernel
theorem kcX5_isBox : Cond.code yX5_isBox cX5_isBox 2 (some .boolean) ∈ gtbl := kw 789 (by decide +kernel) (by decide +kernel)
theorem hdX5_isBox : yX5_isBox.cls ≠ "java/lang/invoke/MethodHandle" ∧ yX5_isBox.cls ≠ "java/lang/invoke/VarHandle" ∧ (parseMethodDescriptor yX5_isBox.desc).map (fun d => d.parameters.length) = some 1 := by decide +kernel

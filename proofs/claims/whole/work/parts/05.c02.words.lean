theorem ksX5_box : Cond.selects RX5 yX5_box yX5_box ∈ gtbl := kw 666 (by decide +kernel) (by decide +kernel)
theorem kmX5_59 : Cond.methodLink RX5 59 yX5_in ∈ gtbl := kw 668 (by decide +kernel) (by decide +kernel)
theorem ktX5_in : Cond.static yX5_in ∈ gtbl := kw 669 (by decide +kernel) (by decide +kernel)
theorem kmL_78 : Cond.methodLink RL 78 yX5_unit ∈ gtbl := kw 671 (by decide +kernel) (by decide +kernel)
theorem kiX5_unit : Cond.instanceMethod yX5_unit ∈ gtbl := kw 672 (by decide +kernel) (by decide +kernel)
theorem ksX5_unit : Cond.selects RX5 yX5_unit yX5_unit ∈ gtbl := kw 673 (by decide +kernel) (by decide +kernel)
theorem kmL_81 : Cond.methodLink RL 81 yX5_group ∈ gtbl := kw 675 (by decide +kernel) (by decide +kernel)
theorem kiX5_group : Cond.instanceMethod yX5_group ∈ gtbl := kw 676 (by decide +kernel) (by decide +kernel)
theorem ksX5_group : Cond.selects RX5 yX5_group yX5_group ∈ gtbl := kw 677 (by decide +kernel) (by decide +kernel)
theorem kmX5_66 : Cond.methodLink RX5 66 yX5_isUnit ∈ gtbl := kw 679 (by decide +kernel) (by decide +kernel)
theorem kiX5_isUnit : Cond.instanceMethod yX5_isUnit ∈ gtbl := kw 681 (by decide +kernel) (by decide +kernel)
theorem kmL_85 : Cond.methodLink RL 85 yX5_change ∈ gtbl := kw 683 (by decide +kernel) (by decide +kernel)
theorem kiX5_change : Cond.instanceMethod yX5_change ∈ gtbl := kw 684 (by decide +kernel) (by decide +kernel)
theorem ksX5_change : Cond.selects RX5 yX5_change yX5_change ∈ gtbl := kw 685 (by decide +kernel) (by decide +kernel)
theorem kmL_89 : Cond.methodLink RL 89 yX5_slack ∈ gtbl := kw 687 (by decide +kernel) (by decide +kernel)
theorem kiX5_slack : Cond.instanceMethod yX5_slack ∈ gtbl := kw 688 (by decide +kernel) (by decide +kernel)
theorem ksX5_slack : Cond.selects RX5 yX5_slack yX5_slack ∈ gtbl := kw 689 (by decide +kernel) (by decide +kernel)
theorem kmL_93 : Cond.methodLink RL 93 yX5_choose ∈ gtbl := kw 691 (by decide +kernel) (by decide +kernel)
theorem kiX5_choose : Cond.instanceMethod yX5_choose ∈ gtbl := kw 692 (by decide +kernel) (by decide +kernel)
theorem ksX5_choose : Cond.selects RX5 yX5_choose yX5_choose ∈ gtbl := kw 693 (by decide +kernel) (by decide +kernel)
theorem kmX5_125 : Cond.methodLink RX5 125 yX5_exactly ∈ gtbl := kw 695 (by decide +kernel) (by decide +kernel)
theorem kiX5_exactly : Cond.instanceMethod yX5_exactly ∈ gtbl := kw 697 (by decide +kernel) (by decide +kernel)
theorem kmX5_109 : Cond.methodLink RX5 109 yX5_isWay ∈ gtbl := kw 699 (by decide +kernel) (by decide +kernel)
theorem kiX5_isWay : Cond.instanceMethod yX5_isWay ∈ gtbl := kw 701 (by decide +kernel) (by decide +kernel)
theorem kmX5_106 : Cond.methodLink RX5 106 yX5_cheapest ∈ gtbl := kw 703 (by decide +kernel) (by decide +kernel)
theorem kiX5_cheapest : Cond.instanceMethod yX5_cheapest ∈ gtbl := kw 705 (by decide +kernel) (by decide +kernel)
theorem kmX5_96 : Cond.methodLink RX5 96 yX5_fitsSet ∈ gtbl := kw 707 (by decide +kernel) (by decide +kernel)
theorem kiX5_fitsSet : Cond.instanceMethod yX5_fitsSet ∈ gtbl := kw 709 (by decide +kernel) (by decide +kernel)
theorem kmX5_87 : Cond.methodLink RX5 87 yX5_passes ∈ gtbl := kw 711 (by decide +kernel) (by decide +kernel)
theorem kiX5_passes : Cond.instanceMethod yX5_passes ∈ gtbl := kw 713 (by decide +kernel) (by decide +kernel)
theorem kmX5_77 : Cond.methodLink RX5 77 yX5_takesKinds ∈ gtbl := kw 715 (by decide +kernel) (by decide +kernel)
theorem kiX5_takesKinds : Cond.instanceMethod yX5_takesKinds ∈ gtbl := kw 717 (by decide +kernel) (by decide +kernel)
theorem kmX5_73 : Cond.methodLink RX5 73 yX5_has ∈ gtbl := kw 719 (by decide +kernel) (by decide +kernel)
theorem ktX5_has : Cond.static yX5_has ∈ gtbl := kw 720 (by decide +kernel) (by decide +kernel)
theorem kmX5_80 : Cond.methodLink RX5 80 yX5_sizes ∈ gtbl := kw 722 (by decide +kernel) (by decide +kernel)
theorem kiX5_sizes : Cond.instanceMethod yX5_sizes ∈ gtbl := kw 724 (by decide +kernel) (by decide +kernel)
theorem kmX5_84 : Cond.methodLink RX5 84 yX5_weights ∈ gtbl := kw 726 (by decide +kernel) (by decide +kernel)
theorem kiX5_weights : Cond.instanceMethod yX5_weights ∈ gtbl := kw 728 (by decide +kernel) (by decide +kernel)
theorem kmX5_90 : Cond.methodLink RX5 90 yX5_hasApart ∈ gtbl := kw 730 (by decide +kernel) (by decide +kernel)
theorem kiX5_hasApart : Cond.instanceMethod yX5_hasApart ∈ gtbl := kw 732 (by decide +kernel) (by decide +kernel)
theorem kmX5_93 : Cond.methodLink RX5 93 yX5_isWhole ∈ gtbl := kw 734 (by decide +kernel) (by decide +kernel)
theorem kiX5_isWhole : Cond.instanceMethod yX5_isWhole ∈ gtbl := kw 736 (by decide +kernel) (by decide +kernel)
theorem kmX5_113 : Cond.methodLink RX5 113 yX5_isBetter ∈ gtbl := kw 738 (by decide +kernel) (by decide +kernel)
theorem kiX5_isBetter : Cond.instanceMethod yX5_isBetter ∈ gtbl := kw 740 (by decide +kernel) (by decide +kernel)
theorem kmX5_102 : Cond.methodLink RX5 102 yX5_costOf ∈ gtbl := kw 742 (by decide +kernel) (by decide +kernel)
theorem kiX5_costOf : Cond.instanceMethod yX5_costOf ∈ gtbl := kw 744 (by decide +kernel) (by decide +kernel)
theorem kmX5_116 : Cond.methodLink RX5 116 yX5_keep ∈ gtbl := kw 746 (by decide +kernel) (by decide +kernel)
theorem kiX5_keep : Cond.instanceMethod yX5_keep ∈ gtbl := kw 748 (by decide +kernel) (by decide +kernel)
theorem kmX5_119 : Cond.methodLink RX5 119 yX5_next ∈ gtbl := kw 750 (by decide +kernel) (by decide +kernel)
theorem kiX5_next : Cond.instanceMethod yX5_next ∈ gtbl := kw 752 (by decide +kernel) (by decide +kernel)
theorem kmX5_128 : Cond.methodLink RX5 128 yX5_byRule ∈ gtbl := kw 754 (by decide +kernel) (by decide +kernel)
theorem kiX5_byRule : Cond.instanceMethod yX5_byRule ∈ gtbl := kw 756 (by decide +kernel) (by decide +kernel)
theorem kmX5_122 : Cond.methodLink RX5 122 yX5_wholeOf ∈ gtbl := kw 758 (by decide +kernel) (by decide +kernel)
theorem kiX5_wholeOf : Cond.instanceMethod yX5_wholeOf ∈ gtbl := kw 760 (by decide +kernel) (by decide +kernel)
theorem kmL_98 : Cond.methodLink RL 98 yX5_exact ∈ gtbl := kw 762 (by decide +kernel) (by decide +kernel)
theorem kiX5_exact : Cond.instanceMethod yX5_exact ∈ gtbl := kw 763 (by decide +kernel) (by decide +kernel)
theorem ksX5_exact : Cond.selects RX5 yX5_exact yX5_exact ∈ gtbl := kw 764 (by decide +kernel) (by decide +kernel)
theorem kmL_102 : Cond.methodLink RL 102 yX5_boxes ∈ gtbl := kw 766 (by decide +kernel) (by decide +kernel)
theorem kiX5_boxes : Cond.instanceMethod yX5_boxes ∈ gtbl := kw 767 (by decide +kernel) (by decide +kernel)
theorem ksX5_boxes : Cond.selects RX5 yX5_boxes yX5_boxes ∈ gtbl := kw 768 (by decide +kernel) (by decide +kernel)
theorem kmL_105 : Cond.methodLink RL 105 yX5_chosen ∈ gtbl := kw 770 (by decide +kernel) (by decide +kernel)
theorem kiX5_chosen : Cond.instanceMethod yX5_chosen ∈ gtbl := kw 771 (by decide +kernel) (by decide +kernel)
theorem ksX5_chosen : Cond.selects RX5 yX5_chosen yX5_chosen ∈ gtbl := kw 772 (by decide +kernel) (by decide +kernel)
theorem kmL_108 : Cond.methodLink RL 108 yX5_where ∈ gtbl := kw 774 (by decide +kernel) (by decide +kernel)
theorem kiX5_where : Cond.instanceMethod yX5_where ∈ gtbl := kw 775 (by decide +kernel) (by decide +kernel)
theorem ksX5_where : Cond.selects RX5 yX5_where yX5_where ∈ gtbl := kw 776 (by decide +kernel) (by decide +kernel)
theorem kmL_111 : Cond.methodLink RL 111 yX5_bar ∈ gtbl := kw 778 (by decide +kernel) (by decide +kernel)
theorem kiX5_bar : Cond.instanceMethod yX5_bar ∈ gtbl := kw 779 (by decide +kernel) (by decide +kernel)
theorem ksX5_bar : Cond.selects RX5 yX5_bar yX5_bar ∈ gtbl := kw 780 (by decide +kernel) (by decide +kernel)
theorem kmL_114 : Cond.methodLink RL 114 yX5_fits ∈ gtbl := kw 782 (by decide +kernel) (by decide +kernel)
theorem kiX5_fits : Cond.instanceMethod yX5_fits ∈ gtbl := kw 783 (by decide +kernel) (by decide +kernel)
theorem ksX5_fits : Cond.selects RX5 yX5_fits yX5_fits ∈ gtbl := kw 784 (by decide +kernel) (by decide +kernel)
theorem kmX5_135 : Cond.methodLink RX5 135 yX5_isBox ∈ gtbl := kw 786 (by decide +kernel) (by decide +kernel)
theorem kiX5_isBox : Cond.instanceMethod yX5_isBox ∈ gtbl := kw 788 (by decide +kernel) (by decide +kernel)
theorem kmL_117 : Cond.methodLink RL 117 yX5_used ∈ gtbl := kw 790 (by decide +kernel) (by decide +kernel)
theorem kiX5_used : Cond.instanceMethod yX5_used ∈ gtbl := kw 791 (by decide +kernel) (by decide +kernel)
theorem ksX5_used : Cond.selects RX5 yX5_used yX5_used ∈ gtbl := kw 792 (by decide +kernel) (by decide +kernel)
theorem kmX5_138 : Cond.methodLink RX5 138 yX5_divisor ∈ gtbl := kw 794 (by decide +kernel) (by decide +kernel)
theorem ktX5_divisor : Cond.static yX5_divisor ∈ gtbl := kw 795 (by decide +kernel) (by decide +kernel)
theorem kmL_120 : Cond.methodLink RL 120 yX5_dimensional ∈ gtbl := kw 797 (by decide +kernel) (by decide +kernel)
theorem kiX5_dimensional : Cond.instanceMethod yX5_dimensional ∈ gtbl := kw 798 (by decide +kernel) (by decide +kernel)
theorem ksX5_dimensional : Cond.selects RX5 yX5_dimensional yX5_dimensional ∈ gtbl := kw 799 (by decide +kernel) (by decide +kernel)
theorem kmL_124 : Cond.methodLink RL 124 yX5_count ∈ gtbl := kw 801 (by decide +kernel) (by decide +kernel)
theorem kiX5_count : Cond.instanceMethod yX5_count ∈ gtbl := kw 802 (by decide +kernel) (by decide +kernel)
theorem ksX5_count : Cond.selects RX5 yX5_count yX5_count ∈ gtbl := kw 803 (by decide +kernel) (by decide +kernel)
theorem kr_long : Cond.arrayClass .long ∈ gtbl := kw 805 (by decide +kernel) (by decide +kernel)
theorem kcX4_init : Cond.code yX4_init cX4_init 1 none ∈ gtbl := kw 19 (by decide +kernel) (by decide +kernel)
theorem hdX4_init : yX4_init.cls ≠ "java/lang/invoke/MethodHandle" ∧ yX4_init.cls ≠ "java/lang/invoke/VarHandle" ∧ (parseMethodDescriptor yX4_init.desc).map (fun d => d.parameters.length) = some 0 := by decide +kernel
theorem kcX0_init : Cond.code yX0_init cX0_init 1 none ∈ gtbl := kw 27 (by decide +kernel) (by decide +kernel)
theorem hdX0_init : yX0_init.cls ≠ "java/lang/invoke/MethodHandle" ∧ yX0_init.cls ≠ "java/lang/invoke/VarHandle" ∧ (parseMethodDescriptor yX0_init.desc).map (fun d => d.parameters.length) = some 0 := by decide +kernel
theorem kcX3_init : Cond.code yX3_init cX3_init 1 none ∈ gtbl := kw 54 (by decide +kernel) (by decide +kernel)
theorem hdX3_init : yX3_init.cls ≠ "java/lang/invoke/MethodHandle" ∧ yX3_init.cls ≠ "java/lang/invoke/VarHandle" ∧ (parseMethodDescriptor yX3_init.desc).map (fun d => d.parameters.length) = some 0 := by decide +kernel
theorem kcX1_init : Cond.code yX1_init cX1_init 1 none ∈ gtbl := kw 80 (by decide +kernel) (by decide +kernel)
theorem hdX1_init : yX1_init.cls ≠ "java/lang/invoke/MethodHandle" ∧ yX1_init.cls ≠ "java/lang/invoke/VarHandle" ∧ (parseMethodDescriptor yX1_init.desc).map (fun d => d.parameters.length) = some 0 := by decide +kernel
theorem kcX2_init : Cond.code yX2_init cX2_init 1 none ∈ gtbl := kw 109 (by decide +kernel) (by decide +kernel)
theorem hdX2_init : yX2_init.cls ≠ "java/lang/invoke/MethodHandle" ∧ yX2_init.cls ≠ "java/lang/invoke/VarHandle" ∧ (parseMethodDescriptor yX2_init.desc).map (fun d => d.parameters.length) = some 0 := by decide +kernel
theorem kcX4_exact : Cond.code yX4_exact cX4_exact 1 (some .boolean) ∈ gtbl := kw 143 (by decide +kernel) (by decide +kernel)
theorem hdX4_exact : yX4_exact.cls ≠ "java/lang/invoke/MethodHandle" ∧ yX4_exact.cls ≠ "java/lang/invoke/VarHandle" ∧ (parseMethodDescriptor yX4_exact.desc).map (fun d => d.parameters.length) = some 0 := by decide +kernel
theorem kcX4_boxes : Cond.code yX4_boxes cX4_boxes 1 (some .int) ∈ gtbl := kw 147 (by decide +kernel) (by decide +kernel)
theorem hdX4_boxes : yX4_boxes.cls ≠ "java/lang/invoke/MethodHandle" ∧ yX4_boxes.cls ≠ "java/lang/invoke/VarHandle" ∧ (parseMethodDescriptor yX4_boxes.desc).map (fun d => d.parameters.length) = some 0 := by decide +kernel
theorem kcX4_count : Cond.code yX4_count cX4_count 2 (some .int) ∈ gtbl := kw 151 (by decide +kernel) (by decide +kernel)
theorem hdX4_count : yX4_count.cls ≠ "java/lang/invoke/MethodHandle" ∧ yX4_count.cls ≠ "java/lang/invoke/VarHandle" ∧ (parseMethodDescriptor yX4_count.desc).map (fun d => d.parameters.length) = some 1 := by decide +kernel
theorem kcX3_pairsOf : Cond.code yX3_pairsOf cX3_pairsOf 5 (some .int) ∈ gtbl := kw 155 (by decide +kernel) (by decide +kernel)
theorem hdX3_pairsOf : yX3_pairsOf.cls ≠ "java/lang/invoke/MethodHandle" ∧ yX3_pairsOf.cls ≠ "java/lang/invoke/VarHandle" ∧ (parseMethodDescriptor yX3_pairsOf.desc).map (fun d => d.parameters.length) = some 1 := by decide +kernel
theorem kcX3_relationOf : Cond.code yX3_relationOf cX3_relationOf 3 (some .int) ∈ gtbl := kw 159 (by decide +kernel) (by decide +kernel)
theorem hdX3_relationOf : yX3_relationOf.cls ≠ "java/lang/invoke/MethodHandle" ∧ yX3_relationOf.cls ≠ "java/lang/invoke/VarHandle" ∧ (parseMethodDescriptor yX3_relationOf.desc).map (fun d => d.parameters.length) = some 2 := by decide +kernel
theorem kcX3_has : Cond.code yX3_has cX3_has 2 (some .boolean) ∈ gtbl := kw 163 (by decide +kernel) (by decide +kernel)
theorem hdX3_has : yX3_has.cls ≠ "java/lang/invoke/MethodHandle" ∧ yX3_has.cls ≠ "java/lang/invoke/VarHandle" ∧ (parseMethodDescriptor yX3_has.desc).map (fun d => d.parameters.length) = some 1 := by decide +kernel
theorem kcX4_holds : Cond.code yX4_holds cX4_holds 2 (some .boolean) ∈ gtbl := kw 166 (by decide +kernel) (by decide +kernel)
theorem hdX4_holds : yX4_holds.cls ≠ "java/lang/invoke/MethodHandle" ∧ yX4_holds.cls ≠ "java/lang/invoke/VarHandle" ∧ (parseMethodDescriptor yX4_holds.desc).map (fun d => d.parameters.length) = some 2 := by decide +kernel
theorem kcL_box : Cond.codeWith yL_box cL_box 7 (some .int) [(0, 14, 17, 13), (0, 14, 21, 15)] ∈ gtbl := kw 169 (by decide +kernel) (by decide +kernel)
theorem hdL_box : yL_box.cls ≠ "java/lang/invoke/MethodHandle" ∧ yL_box.cls ≠ "java/lang/invoke/VarHandle" ∧ (parseMethodDescriptor yL_box.desc).map (fun d => d.parameters.length) = some 6 := by decide +kernel
theorem kcX4_box : Cond.code yX4_box cX4_box 5 (some .int) ∈ gtbl := kw 175 (by decide +kernel) (by decide +kernel)
theorem hdX4_box : yX4_box.cls ≠ "java/lang/invoke/MethodHandle" ∧ yX4_box.cls ≠ "java/lang/invoke/VarHandle" ∧ (parseMethodDescriptor yX4_box.desc).map (fun d => d.parameters.length) = some 4 := by decide +kernel
theorem kcX4_needRange : Cond.code yX4_needRange cX4_needRange 3 none ∈ gtbl := kw 178 (by decide +kernel) (by decide +kernel)
theorem hdX4_needRange : yX4_needRange.cls ≠ "java/lang/invoke/MethodHandle" ∧ yX4_needRange.cls ≠ "java/lang/invoke/VarHandle" ∧ (parseMethodDescriptor yX4_needRange.desc).map (fun d => d.parameters.length) = some 3 := by decide +kernel
theorem kcX0_isFull : Cond.code yX0_isFull cX0_isFull 1 (some .boolean) ∈ gtbl := kw 252 (by decide +kernel) (by decide +kernel)
theorem hdX0_isFull : yX0_isFull.cls ≠ "java/lang/invoke/MethodHandle" ∧ yX0_isFull.cls ≠ "java/lang/invoke/VarHandle" ∧ (parseMethodDescriptor yX0_isFull.desc).map (fun d => d.parameters.length) = some 0 := by decide +kernel
theorem kcX0_add : Cond.code yX0_add cX0_add 6 (some .int) ∈ gtbl := kw 272 (by decide +kernel) (by decide +kernel)
theorem hdX0_add : yX0_add.cls ≠ "java/lang/invoke/MethodHandle" ∧ yX0_add.cls ≠ "java/lang/invoke/VarHandle" ∧ (parseMethodDescriptor yX0_add.desc).map (fun d => d.parameters.length) = some 4 := by decide +kernel
theorem kcL_unit : Cond.codeWith yL_unit cL_unit 6 (some .int) [(0, 12, 15, 13), (0, 12, 19, 15)] ∈ gtbl := kw 276 (by decide +kernel) (by decide +kernel)
theorem hdL_unit : yL_unit.cls ≠ "java/lang/invoke/MethodHandle" ∧ yL_unit.cls ≠ "java/lang/invoke/VarHandle" ∧ (parseMethodDescriptor yL_unit.desc).map (fun d => d.parameters.length) = some 5 := by decide +kernel
theorem kcX4_unit : Cond.code yX4_unit cX4_unit 4 (some .int) ∈ gtbl := kw 280 (by decide +kernel) (by decide +kernel)
theorem hdX4_unit : yX4_unit.cls ≠ "java/lang/invoke/MethodHandle" ∧ yX4_unit.cls ≠ "java/lang/invoke/VarHandle" ∧ (parseMethodDescriptor yX4_unit.desc).map (fun d => d.parameters.length) = some 3 := by decide +kernel
theorem kcX3_isFull : Cond.code yX3_isFull cX3_isFull 1 (some .boolean) ∈ gtbl := kw 284 (by decide +kernel) (by decide +kernel)
theorem hdX3_isFull : yX3_isFull.cls ≠ "java/lang/invoke/MethodHandle" ∧ yX3_isFull.cls ≠ "java/lang/invoke/VarHandle" ∧ (parseMethodDescriptor yX3_isFull.desc).map (fun d => d.parameters.length) = some 0 := by decide +kernel
theorem kcX3_add : Cond.code yX3_add cX3_add 5 (some .int) ∈ gtbl := kw 289 (by decide +kernel) (by decide +kernel)
theorem hdX3_add : yX3_add.cls ≠ "java/lang/invoke/MethodHandle" ∧ yX3_add.cls ≠ "java/lang/invoke/VarHandle" ∧ (parseMethodDescriptor yX3_add.desc).map (fun d => d.parameters.length) = some 3 := by decide +kernel
theorem kcL_group : Cond.codeWith yL_group cL_group 6 (some .int) [(0, 12, 15, 24), (0, 12, 19, 13)] ∈ gtbl := kw 293 (by decide +kernel) (by decide +kernel)
theorem hdL_group : yL_group.cls ≠ "java/lang/invoke/MethodHandle" ∧ yL_group.cls ≠ "java/lang/invoke/VarHandle" ∧ (parseMethodDescriptor yL_group.desc).map (fun d => d.parameters.length) = some 5 := by decide +kernel
theorem kcX4_group : Cond.code yX4_group cX4_group 5 (some .int) ∈ gtbl := kw 298 (by decide +kernel) (by decide +kernel)
theorem hdX4_group : yX4_group.cls ≠ "java/lang/invoke/MethodHandle" ∧ yX4_group.cls ≠ "java/lang/invoke/VarHandle" ∧ (parseMethodDescriptor yX4_group.desc).map (fun d => d.parameters.length) = some 3 := by decide +kernel
theorem kcX4_needUnit : Cond.code yX4_needUnit cX4_needUnit 2 none ∈ gtbl := kw 302 (by decide +kernel) (by decide +kernel)
theorem hdX4_needUnit : yX4_needUnit.cls ≠ "java/lang/invoke/MethodHandle" ∧ yX4_needUnit.cls ≠ "java/lang/invoke/VarHandle" ∧ (parseMethodDescriptor yX4_needUnit.desc).map (fun d => d.parameters.length) = some 1 := by decide +kernel
theorem kcX3_relate : Cond.code yX3_relate cX3_relate 4 none ∈ gtbl := kw 325 (by decide +kernel) (by decide +kernel)
theorem hdX3_relate : yX3_relate.cls ≠ "java/lang/invoke/MethodHandle" ∧ yX3_relate.cls ≠ "java/lang/invoke/VarHandle" ∧ (parseMethodDescriptor yX3_relate.desc).map (fun d => d.parameters.length) = some 3 := by decide +kernel
theorem kcX3_relateOneWay : Cond.code yX3_relateOneWay cX3_relateOneWay 5 none ∈ gtbl := kw 329 (by decide +kernel) (by decide +kernel)
theorem hdX3_relateOneWay : yX3_relateOneWay.cls ≠ "java/lang/invoke/MethodHandle" ∧ yX3_relateOneWay.cls ≠ "java/lang/invoke/VarHandle" ∧ (parseMethodDescriptor yX3_relateOneWay.desc).map (fun d => d.parameters.length) = some 3 := by decide +kernel
theorem kcL_change : Cond.codeWith yL_change cL_change 5 (some .int) [(0, 10, 13, 24), (0, 10, 17, 13)] ∈ gtbl := kw 332 (by decide +kernel) (by decide +kernel)
theorem hdL_change : yL_change.cls ≠ "java/lang/invoke/MethodHandle" ∧ yL_change.cls ≠ "java/lang/invoke/VarHandle" ∧ (parseMethodDescriptor yL_change.desc).map (fun d => d.parameters.length) = some 4 := by decide +kernel
theorem kcX4_change : Cond.code yX4_change cX4_change 3 (some .int) ∈ gtbl := kw 336 (by decide +kernel) (by decide +kernel)
theorem hdX4_change : yX4_change.cls ≠ "java/lang/invoke/MethodHandle" ∧ yX4_change.cls ≠ "java/lang/invoke/VarHandle" ∧ (parseMethodDescriptor yX4_change.desc).map (fun d => d.parameters.length) = some 2 := by decide +kernel
theorem kcX3_reweigh : Cond.code yX3_reweigh cX3_reweigh 4 (some .int) ∈ gtbl := kw 340 (by decide +kernel) (by decide +kernel)
theorem hdX3_reweigh : yX3_reweigh.cls ≠ "java/lang/invoke/MethodHandle" ∧ yX3_reweigh.cls ≠ "java/lang/invoke/VarHandle" ∧ (parseMethodDescriptor yX3_reweigh.desc).map (fun d => d.parameters.length) = some 2 := by decide +kernel
theorem kcL_slack : Cond.codeWith yL_slack cL_slack 3 (some .int) [(0, 5, 8, 13)] ∈ gtbl := kw 343 (by decide +kernel) (by decide +kernel)
theorem hdL_slack : yL_slack.cls ≠ "java/lang/invoke/MethodHandle" ∧ yL_slack.cls ≠ "java/lang/invoke/VarHandle" ∧ (parseMethodDescriptor yL_slack.desc).map (fun d => d.parameters.length) = some 2 := by decide +kernel
theorem kcX4_slack : Cond.code yX4_slack cX4_slack 2 none ∈ gtbl := kw 347 (by decide +kernel) (by decide +kernel)
theorem hdX4_slack : yX4_slack.cls ≠ "java/lang/invoke/MethodHandle" ∧ yX4_slack.cls ≠ "java/lang/invoke/VarHandle" ∧ (parseMethodDescriptor yX4_slack.desc).map (fun d => d.parameters.length) = some 1 := by decide +kernel
theorem kcX0_keepSlack : Cond.code yX0_keepSlack cX0_keepSlack 2 none ∈ gtbl := kw 351 (by decide +kernel) (by decide +kernel)
theorem hdX0_keepSlack : yX0_keepSlack.cls ≠ "java/lang/invoke/MethodHandle" ∧ yX0_keepSlack.cls ≠ "java/lang/invoke/VarHandle" ∧ (parseMethodDescriptor yX0_keepSlack.desc).map (fun d => d.parameters.length) = some 1 := by decide +kernel
theorem kcL_choose : Cond.codeWith yL_choose cL_choose 4 (some .int) [(0, 9, 12, 13)] ∈ gtbl := kw 354 (by decide +kernel) (by decide +kernel)
theorem hdL_choose : yL_choose.cls ≠ "java/lang/invoke/MethodHandle" ∧ yL_choose.cls ≠ "java/lang/invoke/VarHandle" ∧ (parseMethodDescriptor yL_choose.desc).map (fun d => d.parameters.length) = some 3 := by decide +kernel
theorem kcX4_choose : Cond.code yX4_choose cX4_choose 4 (some .int) ∈ gtbl := kw 358 (by decide +kernel) (by decide +kernel)
theorem hdX4_choose : yX4_choose.cls ≠ "java/lang/invoke/MethodHandle" ∧ yX4_choose.cls ≠ "java/lang/invoke/VarHandle" ∧ (parseMethodDescriptor yX4_choose.desc).map (fun d => d.parameters.length) = some 1 := by decide +kernel
theorem kcX1_clear : Cond.code yX1_clear cX1_clear 1 none ∈ gtbl := kw 362 (by decide +kernel) (by decide +kernel)
theorem hdX1_clear : yX1_clear.cls ≠ "java/lang/invoke/MethodHandle" ∧ yX1_clear.cls ≠ "java/lang/invoke/VarHandle" ∧ (parseMethodDescriptor yX1_clear.desc).map (fun d => d.parameters.length) = some 0 := by decide +kernel
theorem kcX4_putExactly : Cond.code yX4_putExactly cX4_putExactly 4 (some .boolean) ∈ gtbl := kw 366 (by decide +kernel) (by decide +kernel)
theorem hdX4_putExactly : yX4_putExactly.cls ≠ "java/lang/invoke/MethodHandle" ∧ yX4_putExactly.cls ≠ "java/lang/invoke/VarHandle" ∧ (parseMethodDescriptor yX4_putExactly.desc).map (fun d => d.parameters.length) = some 0 := by decide +kernel
theorem kcX3_all : Cond.code yX3_all cX3_all 1 (some .int) ∈ gtbl := kw 370 (by decide +kernel) (by decide +kernel)
theorem hdX3_all : yX3_all.cls ≠ "java/lang/invoke/MethodHandle" ∧ yX3_all.cls ≠ "java/lang/invoke/VarHandle" ∧ (parseMethodDescriptor yX3_all.desc).map (fun d => d.parameters.length) = some 0 := by decide +kernel

theorem gm_0 : (Jvm.Cond.initialized "WellCourtLaw") ∈ gz_T := gz_at 0 (by decide +kernel) rfl
theorem gm_328 : (Jvm.Cond.methodLink "WellCourtLaw" (24 : Nat) ({ cls := "WellCourt", name := "feed", desc := "(IIIII)I" } : Jvm.MethodName)) ∈ gz_T := gz_at 328 (by decide +kernel) rfl
theorem gm_329 : (Jvm.Cond.instanceMethod ({ cls := "WellCourt", name := "feed", desc := "(IIIII)I" } : Jvm.MethodName)) ∈ gz_T := gz_at 329 (by decide +kernel) rfl
theorem gm_330 : (Jvm.Cond.selects "WellCourt" ({ cls := "WellCourt", name := "feed", desc := "(IIIII)I" } : Jvm.MethodName) ({ cls := "WellCourt", name := "feed", desc := "(IIIII)I" } : Jvm.MethodName)) ∈ gz_T := gz_at 330 (by decide +kernel) rfl
theorem gm_331 : (Jvm.Cond.code ({ cls := "WellCourt", name := "feed", desc := "(IIIII)I" } : Jvm.MethodName) prog_1_method_2_code (6 : Nat) (Option.some Jvm.ClassFile.FieldType.int)) ∈ gz_T := gz_at 331 (by decide +kernel) rfl
theorem gm_336 : (Jvm.Cond.methodLink "WellCourtLaw" (29 : Nat) ({ cls := "WellCourt", name := "end", desc := "(I)Z" } : Jvm.MethodName)) ∈ gz_T := gz_at 336 (by decide +kernel) rfl
theorem gm_337 : (Jvm.Cond.instanceMethod ({ cls := "WellCourt", name := "end", desc := "(I)Z" } : Jvm.MethodName)) ∈ gz_T := gz_at 337 (by decide +kernel) rfl
theorem gm_338 : (Jvm.Cond.selects "WellCourt" ({ cls := "WellCourt", name := "end", desc := "(I)Z" } : Jvm.MethodName) ({ cls := "WellCourt", name := "end", desc := "(I)Z" } : Jvm.MethodName)) ∈ gz_T := gz_at 338 (by decide +kernel) rfl
theorem gm_339 : (Jvm.Cond.code ({ cls := "WellCourt", name := "end", desc := "(I)Z" } : Jvm.MethodName) prog_1_method_3_code (2 : Nat) (Option.some Jvm.ClassFile.FieldType.boolean)) ∈ gz_T := gz_at 339 (by decide +kernel) rfl
theorem gm_340 : (Jvm.Cond.methodLink "WellCourtLaw" (34 : Nat) ({ cls := "WellCourt", name := "well", desc := "(IIII)Z" } : Jvm.MethodName)) ∈ gz_T := gz_at 340 (by decide +kernel) rfl
theorem gm_341 : (Jvm.Cond.instanceMethod ({ cls := "WellCourt", name := "well", desc := "(IIII)Z" } : Jvm.MethodName)) ∈ gz_T := gz_at 341 (by decide +kernel) rfl
theorem gm_342 : (Jvm.Cond.selects "WellCourt" ({ cls := "WellCourt", name := "well", desc := "(IIII)Z" } : Jvm.MethodName) ({ cls := "WellCourt", name := "well", desc := "(IIII)Z" } : Jvm.MethodName)) ∈ gz_T := gz_at 342 (by decide +kernel) rfl
theorem gm_343 : (Jvm.Cond.code ({ cls := "WellCourt", name := "well", desc := "(IIII)Z" } : Jvm.MethodName) prog_1_method_4_code (5 : Nat) (Option.some Jvm.ClassFile.FieldType.boolean)) ∈ gz_T := gz_at 343 (by decide +kernel) rfl
theorem gm_354 : (Jvm.Cond.methodLink "WellCourtLaw" (39 : Nat) ({ cls := "WellCourt", name := "rights", desc := "()I" } : Jvm.MethodName)) ∈ gz_T := gz_at 354 (by decide +kernel) rfl
theorem gm_355 : (Jvm.Cond.instanceMethod ({ cls := "WellCourt", name := "rights", desc := "()I" } : Jvm.MethodName)) ∈ gz_T := gz_at 355 (by decide +kernel) rfl
theorem gm_356 : (Jvm.Cond.selects "WellCourt" ({ cls := "WellCourt", name := "rights", desc := "()I" } : Jvm.MethodName) ({ cls := "WellCourt", name := "rights", desc := "()I" } : Jvm.MethodName)) ∈ gz_T := gz_at 356 (by decide +kernel) rfl
theorem gm_357 : (Jvm.Cond.code ({ cls := "WellCourt", name := "rights", desc := "()I" } : Jvm.MethodName) prog_1_method_5_code (3 : Nat) (Option.some Jvm.ClassFile.FieldType.int)) ∈ gz_T := gz_at 357 (by decide +kernel) rfl
theorem gm_567 : (Jvm.Cond.methodLink "WellCourtLaw" (44 : Nat) ({ cls := "WellCourt", name := "fault", desc := "()I" } : Jvm.MethodName)) ∈ gz_T := gz_at 567 (by decide +kernel) rfl
theorem gm_568 : (Jvm.Cond.instanceMethod ({ cls := "WellCourt", name := "fault", desc := "()I" } : Jvm.MethodName)) ∈ gz_T := gz_at 568 (by decide +kernel) rfl
theorem gm_569 : (Jvm.Cond.selects "WellCourt" ({ cls := "WellCourt", name := "fault", desc := "()I" } : Jvm.MethodName) ({ cls := "WellCourt", name := "fault", desc := "()I" } : Jvm.MethodName)) ∈ gz_T := gz_at 569 (by decide +kernel) rfl
theorem gm_570 : (Jvm.Cond.code ({ cls := "WellCourt", name := "fault", desc := "()I" } : Jvm.MethodName) prog_1_method_6_code (1 : Nat) (Option.some Jvm.ClassFile.FieldType.int)) ∈ gz_T := gz_at 570 (by decide +kernel) rfl
theorem gm_571 : (Jvm.Cond.methodLink "WellCourtLaw" (48 : Nat) ({ cls := "WellCourt", name := "next", desc := "()Z" } : Jvm.MethodName)) ∈ gz_T := gz_at 571 (by decide +kernel) rfl
theorem gm_572 : (Jvm.Cond.instanceMethod ({ cls := "WellCourt", name := "next", desc := "()Z" } : Jvm.MethodName)) ∈ gz_T := gz_at 572 (by decide +kernel) rfl
theorem gm_573 : (Jvm.Cond.selects "WellCourt" ({ cls := "WellCourt", name := "next", desc := "()Z" } : Jvm.MethodName) ({ cls := "WellCourt", name := "next", desc := "()Z" } : Jvm.MethodName)) ∈ gz_T := gz_at 573 (by decide +kernel) rfl
theorem gm_574 : (Jvm.Cond.code ({ cls := "WellCourt", name := "next", desc := "()Z" } : Jvm.MethodName) prog_1_method_7_code (1 : Nat) (Option.some Jvm.ClassFile.FieldType.boolean)) ∈ gz_T := gz_at 574 (by decide +kernel) rfl
theorem gm_583 : (Jvm.Cond.methodLink "WellCourtLaw" (53 : Nat) ({ cls := "WellCourt", name := "water", desc := "(II)I" } : Jvm.MethodName)) ∈ gz_T := gz_at 583 (by decide +kernel) rfl
theorem gm_584 : (Jvm.Cond.instanceMethod ({ cls := "WellCourt", name := "water", desc := "(II)I" } : Jvm.MethodName)) ∈ gz_T := gz_at 584 (by decide +kernel) rfl
theorem gm_585 : (Jvm.Cond.selects "WellCourt" ({ cls := "WellCourt", name := "water", desc := "(II)I" } : Jvm.MethodName) ({ cls := "WellCourt", name := "water", desc := "(II)I" } : Jvm.MethodName)) ∈ gz_T := gz_at 585 (by decide +kernel) rfl
theorem gm_586 : (Jvm.Cond.code ({ cls := "WellCourt", name := "water", desc := "(II)I" } : Jvm.MethodName) prog_1_method_8_code (3 : Nat) (Option.some Jvm.ClassFile.FieldType.int)) ∈ gz_T := gz_at 586 (by decide +kernel) rfl
theorem gm_591 : (Jvm.Cond.methodLink "WellCourtLaw" (57 : Nat) ({ cls := "WellCourt", name := "owner", desc := "(II)I" } : Jvm.MethodName)) ∈ gz_T := gz_at 591 (by decide +kernel) rfl
theorem gm_592 : (Jvm.Cond.instanceMethod ({ cls := "WellCourt", name := "owner", desc := "(II)I" } : Jvm.MethodName)) ∈ gz_T := gz_at 592 (by decide +kernel) rfl
theorem gm_593 : (Jvm.Cond.selects "WellCourt" ({ cls := "WellCourt", name := "owner", desc := "(II)I" } : Jvm.MethodName) ({ cls := "WellCourt", name := "owner", desc := "(II)I" } : Jvm.MethodName)) ∈ gz_T := gz_at 593 (by decide +kernel) rfl
theorem gm_594 : (Jvm.Cond.code ({ cls := "WellCourt", name := "owner", desc := "(II)I" } : Jvm.MethodName) prog_1_method_9_code (3 : Nat) (Option.some Jvm.ClassFile.FieldType.int)) ∈ gz_T := gz_at 594 (by decide +kernel) rfl
theorem gm_596 : (Jvm.Cond.methodLink "WellCourtLaw" (61 : Nat) ({ cls := "WellCourt", name := "may", desc := "(II)I" } : Jvm.MethodName)) ∈ gz_T := gz_at 596 (by decide +kernel) rfl
theorem gm_597 : (Jvm.Cond.instanceMethod ({ cls := "WellCourt", name := "may", desc := "(II)I" } : Jvm.MethodName)) ∈ gz_T := gz_at 597 (by decide +kernel) rfl
theorem gm_598 : (Jvm.Cond.selects "WellCourt" ({ cls := "WellCourt", name := "may", desc := "(II)I" } : Jvm.MethodName) ({ cls := "WellCourt", name := "may", desc := "(II)I" } : Jvm.MethodName)) ∈ gz_T := gz_at 598 (by decide +kernel) rfl
theorem gm_599 : (Jvm.Cond.code ({ cls := "WellCourt", name := "may", desc := "(II)I" } : Jvm.MethodName) prog_1_method_10_code (3 : Nat) (Option.some Jvm.ClassFile.FieldType.int)) ∈ gz_T := gz_at 599 (by decide +kernel) rfl
theorem gm_626 : (Jvm.Cond.methodLink "WellCourtLaw" (65 : Nat) ({ cls := "WellCourt", name := "lend", desc := "(III)I" } : Jvm.MethodName)) ∈ gz_T := gz_at 626 (by decide +kernel) rfl
theorem gm_627 : (Jvm.Cond.instanceMethod ({ cls := "WellCourt", name := "lend", desc := "(III)I" } : Jvm.MethodName)) ∈ gz_T := gz_at 627 (by decide +kernel) rfl
theorem gm_628 : (Jvm.Cond.selects "WellCourt" ({ cls := "WellCourt", name := "lend", desc := "(III)I" } : Jvm.MethodName) ({ cls := "WellCourt", name := "lend", desc := "(III)I" } : Jvm.MethodName)) ∈ gz_T := gz_at 628 (by decide +kernel) rfl
theorem gm_629 : (Jvm.Cond.code ({ cls := "WellCourt", name := "lend", desc := "(III)I" } : Jvm.MethodName) prog_1_method_11_code (4 : Nat) (Option.some Jvm.ClassFile.FieldType.int)) ∈ gz_T := gz_at 629 (by decide +kernel) rfl
theorem gm_635 : (Jvm.Cond.methodLink "WellCourtLaw" (70 : Nat) ({ cls := "WellCourt", name := "draw", desc := "(III)I" } : Jvm.MethodName)) ∈ gz_T := gz_at 635 (by decide +kernel) rfl
theorem gm_636 : (Jvm.Cond.instanceMethod ({ cls := "WellCourt", name := "draw", desc := "(III)I" } : Jvm.MethodName)) ∈ gz_T := gz_at 636 (by decide +kernel) rfl
theorem gm_637 : (Jvm.Cond.selects "WellCourt" ({ cls := "WellCourt", name := "draw", desc := "(III)I" } : Jvm.MethodName) ({ cls := "WellCourt", name := "draw", desc := "(III)I" } : Jvm.MethodName)) ∈ gz_T := gz_at 637 (by decide +kernel) rfl
theorem gm_638 : (Jvm.Cond.code ({ cls := "WellCourt", name := "draw", desc := "(III)I" } : Jvm.MethodName) prog_1_method_12_code (6 : Nat) (Option.some Jvm.ClassFile.FieldType.int)) ∈ gz_T := gz_at 638 (by decide +kernel) rfl
theorem gm_655 : (Jvm.Cond.methodLink "WellCourtLaw" (74 : Nat) ({ cls := "WellCourt", name := "take", desc := "(III)I" } : Jvm.MethodName)) ∈ gz_T := gz_at 655 (by decide +kernel) rfl
theorem gm_656 : (Jvm.Cond.instanceMethod ({ cls := "WellCourt", name := "take", desc := "(III)I" } : Jvm.MethodName)) ∈ gz_T := gz_at 656 (by decide +kernel) rfl
theorem gm_657 : (Jvm.Cond.selects "WellCourt" ({ cls := "WellCourt", name := "take", desc := "(III)I" } : Jvm.MethodName) ({ cls := "WellCourt", name := "take", desc := "(III)I" } : Jvm.MethodName)) ∈ gz_T := gz_at 657 (by decide +kernel) rfl
theorem gm_658 : (Jvm.Cond.code ({ cls := "WellCourt", name := "take", desc := "(III)I" } : Jvm.MethodName) prog_1_method_13_code (4 : Nat) (Option.some Jvm.ClassFile.FieldType.int)) ∈ gz_T := gz_at 658 (by decide +kernel) rfl
theorem gm_659 : (Jvm.Cond.methodLink "WellCourtLaw" (78 : Nat) ({ cls := "WellCourt", name := "report", desc := "(I)Z" } : Jvm.MethodName)) ∈ gz_T := gz_at 659 (by decide +kernel) rfl
theorem gm_660 : (Jvm.Cond.instanceMethod ({ cls := "WellCourt", name := "report", desc := "(I)Z" } : Jvm.MethodName)) ∈ gz_T := gz_at 660 (by decide +kernel) rfl
theorem gm_661 : (Jvm.Cond.selects "WellCourt" ({ cls := "WellCourt", name := "report", desc := "(I)Z" } : Jvm.MethodName) ({ cls := "WellCourt", name := "report", desc := "(I)Z" } : Jvm.MethodName)) ∈ gz_T := gz_at 661 (by decide +kernel) rfl
theorem gm_662 : (Jvm.Cond.code ({ cls := "WellCourt", name := "report", desc := "(I)Z" } : Jvm.MethodName) prog_1_method_14_code (2 : Nat) (Option.some Jvm.ClassFile.FieldType.boolean)) ∈ gz_T := gz_at 662 (by decide +kernel) rfl
theorem gm_667 : (Jvm.Cond.methodLink "WellCourtLaw" (91 : Nat) ({ cls := "WellCourt", name := "judge", desc := "(IIIII)I" } : Jvm.MethodName)) ∈ gz_T := gz_at 667 (by decide +kernel) rfl
theorem gm_668 : (Jvm.Cond.instanceMethod ({ cls := "WellCourt", name := "judge", desc := "(IIIII)I" } : Jvm.MethodName)) ∈ gz_T := gz_at 668 (by decide +kernel) rfl
theorem gm_669 : (Jvm.Cond.selects "WellCourt" ({ cls := "WellCourt", name := "judge", desc := "(IIIII)I" } : Jvm.MethodName) ({ cls := "WellCourt", name := "judge", desc := "(IIIII)I" } : Jvm.MethodName)) ∈ gz_T := gz_at 669 (by decide +kernel) rfl
theorem gm_670 : (Jvm.Cond.code ({ cls := "WellCourt", name := "judge", desc := "(IIIII)I" } : Jvm.MethodName) prog_1_method_16_code (6 : Nat) (Option.some Jvm.ClassFile.FieldType.int)) ∈ gz_T := gz_at 670 (by decide +kernel) rfl
theorem gm_689 : (Jvm.Cond.methodLink "WellCourtLaw" (95 : Nat) ({ cls := "WellCourt", name := "herd", desc := "(IIIII)Z" } : Jvm.MethodName)) ∈ gz_T := gz_at 689 (by decide +kernel) rfl
theorem gm_690 : (Jvm.Cond.instanceMethod ({ cls := "WellCourt", name := "herd", desc := "(IIIII)Z" } : Jvm.MethodName)) ∈ gz_T := gz_at 690 (by decide +kernel) rfl
theorem gm_691 : (Jvm.Cond.selects "WellCourt" ({ cls := "WellCourt", name := "herd", desc := "(IIIII)Z" } : Jvm.MethodName) ({ cls := "WellCourt", name := "herd", desc := "(IIIII)Z" } : Jvm.MethodName)) ∈ gz_T := gz_at 691 (by decide +kernel) rfl
theorem gm_692 : (Jvm.Cond.code ({ cls := "WellCourt", name := "herd", desc := "(IIIII)Z" } : Jvm.MethodName) prog_1_method_17_code (6 : Nat) (Option.some Jvm.ClassFile.FieldType.boolean)) ∈ gz_T := gz_at 692 (by decide +kernel) rfl
theorem gm_700 : (Jvm.Cond.methodLink "WellCourtLaw" (100 : Nat) ({ cls := "WellCourt", name := "drop", desc := "(I)Z" } : Jvm.MethodName)) ∈ gz_T := gz_at 700 (by decide +kernel) rfl
theorem gm_701 : (Jvm.Cond.instanceMethod ({ cls := "WellCourt", name := "drop", desc := "(I)Z" } : Jvm.MethodName)) ∈ gz_T := gz_at 701 (by decide +kernel) rfl
theorem gm_702 : (Jvm.Cond.selects "WellCourt" ({ cls := "WellCourt", name := "drop", desc := "(I)Z" } : Jvm.MethodName) ({ cls := "WellCourt", name := "drop", desc := "(I)Z" } : Jvm.MethodName)) ∈ gz_T := gz_at 702 (by decide +kernel) rfl
theorem gm_703 : (Jvm.Cond.code ({ cls := "WellCourt", name := "drop", desc := "(I)Z" } : Jvm.MethodName) prog_1_method_18_code (2 : Nat) (Option.some Jvm.ClassFile.FieldType.boolean)) ∈ gz_T := gz_at 703 (by decide +kernel) rfl
theorem gm_708 : (Jvm.Cond.methodLink "WellCourtLaw" (104 : Nat) ({ cls := "WellCourt", name := "way", desc := "(III)Z" } : Jvm.MethodName)) ∈ gz_T := gz_at 708 (by decide +kernel) rfl
theorem gm_709 : (Jvm.Cond.instanceMethod ({ cls := "WellCourt", name := "way", desc := "(III)Z" } : Jvm.MethodName)) ∈ gz_T := gz_at 709 (by decide +kernel) rfl
theorem gm_710 : (Jvm.Cond.selects "WellCourt" ({ cls := "WellCourt", name := "way", desc := "(III)Z" } : Jvm.MethodName) ({ cls := "WellCourt", name := "way", desc := "(III)Z" } : Jvm.MethodName)) ∈ gz_T := gz_at 710 (by decide +kernel) rfl
theorem gm_711 : (Jvm.Cond.code ({ cls := "WellCourt", name := "way", desc := "(III)Z" } : Jvm.MethodName) prog_1_method_19_code (4 : Nat) (Option.some Jvm.ClassFile.FieldType.boolean)) ∈ gz_T := gz_at 711 (by decide +kernel) rfl
theorem gm_712 : (Jvm.Cond.methodLink "WellCourtLaw" (112 : Nat) ({ cls := "WellCourt", name := "step", desc := "(II)I" } : Jvm.MethodName)) ∈ gz_T := gz_at 712 (by decide +kernel) rfl
theorem gm_713 : (Jvm.Cond.instanceMethod ({ cls := "WellCourt", name := "step", desc := "(II)I" } : Jvm.MethodName)) ∈ gz_T := gz_at 713 (by decide +kernel) rfl
theorem gm_714 : (Jvm.Cond.selects "WellCourt" ({ cls := "WellCourt", name := "step", desc := "(II)I" } : Jvm.MethodName) ({ cls := "WellCourt", name := "step", desc := "(II)I" } : Jvm.MethodName)) ∈ gz_T := gz_at 714 (by decide +kernel) rfl
theorem gm_715 : (Jvm.Cond.code ({ cls := "WellCourt", name := "step", desc := "(II)I" } : Jvm.MethodName) prog_1_method_21_code (3 : Nat) (Option.some Jvm.ClassFile.FieldType.int)) ∈ gz_T := gz_at 715 (by decide +kernel) rfl
theorem gm_721 : (Jvm.Cond.methodLink "WellCourtLaw" (116 : Nat) ({ cls := "WellCourt", name := "far", desc := "()I" } : Jvm.MethodName)) ∈ gz_T := gz_at 721 (by decide +kernel) rfl
theorem gm_722 : (Jvm.Cond.instanceMethod ({ cls := "WellCourt", name := "far", desc := "()I" } : Jvm.MethodName)) ∈ gz_T := gz_at 722 (by decide +kernel) rfl
theorem gm_723 : (Jvm.Cond.selects "WellCourt" ({ cls := "WellCourt", name := "far", desc := "()I" } : Jvm.MethodName) ({ cls := "WellCourt", name := "far", desc := "()I" } : Jvm.MethodName)) ∈ gz_T := gz_at 723 (by decide +kernel) rfl
theorem gm_724 : (Jvm.Cond.code ({ cls := "WellCourt", name := "far", desc := "()I" } : Jvm.MethodName) prog_1_method_22_code (1 : Nat) (Option.some Jvm.ClassFile.FieldType.int)) ∈ gz_T := gz_at 724 (by decide +kernel) rfl
theorem gm_725 : (Jvm.Cond.methodLink "WellCourtLaw" (120 : Nat) ({ cls := "WellCourt", name := "count", desc := "(I)I" } : Jvm.MethodName)) ∈ gz_T := gz_at 725 (by decide +kernel) rfl
theorem gm_726 : (Jvm.Cond.instanceMethod ({ cls := "WellCourt", name := "count", desc := "(I)I" } : Jvm.MethodName)) ∈ gz_T := gz_at 726 (by decide +kernel) rfl
theorem gm_727 : (Jvm.Cond.selects "WellCourt" ({ cls := "WellCourt", name := "count", desc := "(I)I" } : Jvm.MethodName) ({ cls := "WellCourt", name := "count", desc := "(I)I" } : Jvm.MethodName)) ∈ gz_T := gz_at 727 (by decide +kernel) rfl
theorem gm_728 : (Jvm.Cond.code ({ cls := "WellCourt", name := "count", desc := "(I)I" } : Jvm.MethodName) prog_1_method_23_code (2 : Nat) (Option.some Jvm.ClassFile.FieldType.int)) ∈ gz_T := gz_at 728 (by decide +kernel) rfl
theorem gm_739 : (Jvm.Cond.methodLink "WellCourtLaw" (82 : Nat) ({ cls := "WellCourtLaw", name := "drawn", desc := "(LWellCourt;II[J)I" } : Jvm.MethodName)) ∈ gz_T := gz_at 739 (by decide +kernel) rfl
theorem gm_740 : (Jvm.Cond.static ({ cls := "WellCourtLaw", name := "drawn", desc := "(LWellCourt;II[J)I" } : Jvm.MethodName)) ∈ gz_T := gz_at 740 (by decide +kernel) rfl
theorem gm_741 : (Jvm.Cond.codeWith ({ cls := "WellCourtLaw", name := "drawn", desc := "(LWellCourt;II[J)I" } : Jvm.MethodName) method_3_code (5 : Nat) (Option.some Jvm.ClassFile.FieldType.int) [((0 : Nat), (10 : Nat), (13 : Nat), (13 : Nat))]) ∈ gz_T := gz_at 741 (by decide +kernel) rfl
theorem gm_814 : (Jvm.Cond.methodLink "WellCourtLaw" (109 : Nat) ({ cls := "WellCourtLaw", name := "plan", desc := "(LWellCourt;II[J)I" } : Jvm.MethodName)) ∈ gz_T := gz_at 814 (by decide +kernel) rfl
theorem gm_815 : (Jvm.Cond.static ({ cls := "WellCourtLaw", name := "plan", desc := "(LWellCourt;II[J)I" } : Jvm.MethodName)) ∈ gz_T := gz_at 815 (by decide +kernel) rfl
theorem gm_816 : (Jvm.Cond.codeWith ({ cls := "WellCourtLaw", name := "plan", desc := "(LWellCourt;II[J)I" } : Jvm.MethodName) method_4_code (5 : Nat) (Option.some Jvm.ClassFile.FieldType.int) [((0 : Nat), (10 : Nat), (13 : Nat), (18 : Nat))]) ∈ gz_T := gz_at 816 (by decide +kernel) rfl
theorem gm_891 : (Jvm.Cond.methodLink "WellCourtLaw" (88 : Nat) ({ cls := "WellCourtModel", name := "thrown", desc := "()I" } : Jvm.MethodName)) ∈ gz_T := gz_at 891 (by decide +kernel) rfl
theorem gm_892 : (Jvm.Cond.instanceMethod ({ cls := "WellCourtModel", name := "thrown", desc := "()I" } : Jvm.MethodName)) ∈ gz_T := gz_at 892 (by decide +kernel) rfl
theorem gm_893 : (Jvm.Cond.selects "WellCourtModel" ({ cls := "WellCourtModel", name := "thrown", desc := "()I" } : Jvm.MethodName) ({ cls := "WellCourtModel", name := "thrown", desc := "()I" } : Jvm.MethodName)) ∈ gz_T := gz_at 893 (by decide +kernel) rfl
theorem gm_894 : (Jvm.Cond.code ({ cls := "WellCourtModel", name := "thrown", desc := "()I" } : Jvm.MethodName) prog_12_method_1_code (1 : Nat) (Option.some Jvm.ClassFile.FieldType.int)) ∈ gz_T := gz_at 894 (by decide +kernel) rfl
theorem gm_1080 : (Jvm.Cond.methodLink "WellCourtLaw" (38 : Nat) ({ cls := "WellCourtModel", name := "well", desc := "(IIII)Z" } : Jvm.MethodName)) ∈ gz_T := gz_at 1080 (by decide +kernel) rfl
theorem gm_1081 : (Jvm.Cond.instanceMethod ({ cls := "WellCourtModel", name := "well", desc := "(IIII)Z" } : Jvm.MethodName)) ∈ gz_T := gz_at 1081 (by decide +kernel) rfl
theorem gm_1082 : (Jvm.Cond.selects "WellCourtModel" ({ cls := "WellCourtModel", name := "well", desc := "(IIII)Z" } : Jvm.MethodName) ({ cls := "WellCourtModel", name := "well", desc := "(IIII)Z" } : Jvm.MethodName)) ∈ gz_T := gz_at 1082 (by decide +kernel) rfl
theorem gm_1083 : (Jvm.Cond.code ({ cls := "WellCourtModel", name := "well", desc := "(IIII)Z" } : Jvm.MethodName) prog_12_method_4_code (5 : Nat) (Option.some Jvm.ClassFile.FieldType.boolean)) ∈ gz_T := gz_at 1083 (by decide +kernel) rfl
theorem gm_1084 : (Jvm.Cond.methodLink "WellCourtLaw" (28 : Nat) ({ cls := "WellCourtModel", name := "feed", desc := "(IIIII)I" } : Jvm.MethodName)) ∈ gz_T := gz_at 1084 (by decide +kernel) rfl
theorem gm_1085 : (Jvm.Cond.instanceMethod ({ cls := "WellCourtModel", name := "feed", desc := "(IIIII)I" } : Jvm.MethodName)) ∈ gz_T := gz_at 1085 (by decide +kernel) rfl
theorem gm_1086 : (Jvm.Cond.selects "WellCourtModel" ({ cls := "WellCourtModel", name := "feed", desc := "(IIIII)I" } : Jvm.MethodName) ({ cls := "WellCourtModel", name := "feed", desc := "(IIIII)I" } : Jvm.MethodName)) ∈ gz_T := gz_at 1086 (by decide +kernel) rfl
theorem gm_1087 : (Jvm.Cond.code ({ cls := "WellCourtModel", name := "feed", desc := "(IIIII)I" } : Jvm.MethodName) prog_12_method_5_code (6 : Nat) (Option.some Jvm.ClassFile.FieldType.int)) ∈ gz_T := gz_at 1087 (by decide +kernel) rfl
theorem gm_1092 : (Jvm.Cond.methodLink "WellCourtLaw" (33 : Nat) ({ cls := "WellCourtModel", name := "end", desc := "(I)Z" } : Jvm.MethodName)) ∈ gz_T := gz_at 1092 (by decide +kernel) rfl
theorem gm_1093 : (Jvm.Cond.instanceMethod ({ cls := "WellCourtModel", name := "end", desc := "(I)Z" } : Jvm.MethodName)) ∈ gz_T := gz_at 1093 (by decide +kernel) rfl
theorem gm_1094 : (Jvm.Cond.selects "WellCourtModel" ({ cls := "WellCourtModel", name := "end", desc := "(I)Z" } : Jvm.MethodName) ({ cls := "WellCourtModel", name := "end", desc := "(I)Z" } : Jvm.MethodName)) ∈ gz_T := gz_at 1094 (by decide +kernel) rfl
theorem gm_1095 : (Jvm.Cond.code ({ cls := "WellCourtModel", name := "end", desc := "(I)Z" } : Jvm.MethodName) prog_12_method_7_code (2 : Nat) (Option.some Jvm.ClassFile.FieldType.boolean)) ∈ gz_T := gz_at 1095 (by decide +kernel) rfl
theorem gm_1096 : (Jvm.Cond.methodLink "WellCourtLaw" (43 : Nat) ({ cls := "WellCourtModel", name := "rights", desc := "()I" } : Jvm.MethodName)) ∈ gz_T := gz_at 1096 (by decide +kernel) rfl
theorem gm_1097 : (Jvm.Cond.instanceMethod ({ cls := "WellCourtModel", name := "rights", desc := "()I" } : Jvm.MethodName)) ∈ gz_T := gz_at 1097 (by decide +kernel) rfl
theorem gm_1098 : (Jvm.Cond.selects "WellCourtModel" ({ cls := "WellCourtModel", name := "rights", desc := "()I" } : Jvm.MethodName) ({ cls := "WellCourtModel", name := "rights", desc := "()I" } : Jvm.MethodName)) ∈ gz_T := gz_at 1098 (by decide +kernel) rfl
theorem gm_1099 : (Jvm.Cond.code ({ cls := "WellCourtModel", name := "rights", desc := "()I" } : Jvm.MethodName) prog_12_method_19_code (5 : Nat) (Option.some Jvm.ClassFile.FieldType.int)) ∈ gz_T := gz_at 1099 (by decide +kernel) rfl
theorem gm_1189 : (Jvm.Cond.methodLink "WellCourtLaw" (47 : Nat) ({ cls := "WellCourtModel", name := "fault", desc := "()I" } : Jvm.MethodName)) ∈ gz_T := gz_at 1189 (by decide +kernel) rfl
theorem gm_1190 : (Jvm.Cond.instanceMethod ({ cls := "WellCourtModel", name := "fault", desc := "()I" } : Jvm.MethodName)) ∈ gz_T := gz_at 1190 (by decide +kernel) rfl
theorem gm_1191 : (Jvm.Cond.selects "WellCourtModel" ({ cls := "WellCourtModel", name := "fault", desc := "()I" } : Jvm.MethodName) ({ cls := "WellCourtModel", name := "fault", desc := "()I" } : Jvm.MethodName)) ∈ gz_T := gz_at 1191 (by decide +kernel) rfl
theorem gm_1192 : (Jvm.Cond.code ({ cls := "WellCourtModel", name := "fault", desc := "()I" } : Jvm.MethodName) prog_12_method_26_code (1 : Nat) (Option.some Jvm.ClassFile.FieldType.int)) ∈ gz_T := gz_at 1192 (by decide +kernel) rfl
theorem gm_1193 : (Jvm.Cond.methodLink "WellCourtLaw" (52 : Nat) ({ cls := "WellCourtModel", name := "next", desc := "()Z" } : Jvm.MethodName)) ∈ gz_T := gz_at 1193 (by decide +kernel) rfl
theorem gm_1194 : (Jvm.Cond.instanceMethod ({ cls := "WellCourtModel", name := "next", desc := "()Z" } : Jvm.MethodName)) ∈ gz_T := gz_at 1194 (by decide +kernel) rfl
theorem gm_1195 : (Jvm.Cond.selects "WellCourtModel" ({ cls := "WellCourtModel", name := "next", desc := "()Z" } : Jvm.MethodName) ({ cls := "WellCourtModel", name := "next", desc := "()Z" } : Jvm.MethodName)) ∈ gz_T := gz_at 1195 (by decide +kernel) rfl
theorem gm_1196 : (Jvm.Cond.code ({ cls := "WellCourtModel", name := "next", desc := "()Z" } : Jvm.MethodName) prog_12_method_30_code (2 : Nat) (Option.some Jvm.ClassFile.FieldType.boolean)) ∈ gz_T := gz_at 1196 (by decide +kernel) rfl
theorem gm_1197 : (Jvm.Cond.methodLink "WellCourtLaw" (56 : Nat) ({ cls := "WellCourtModel", name := "water", desc := "(II)I" } : Jvm.MethodName)) ∈ gz_T := gz_at 1197 (by decide +kernel) rfl
theorem gm_1198 : (Jvm.Cond.instanceMethod ({ cls := "WellCourtModel", name := "water", desc := "(II)I" } : Jvm.MethodName)) ∈ gz_T := gz_at 1198 (by decide +kernel) rfl
theorem gm_1199 : (Jvm.Cond.selects "WellCourtModel" ({ cls := "WellCourtModel", name := "water", desc := "(II)I" } : Jvm.MethodName) ({ cls := "WellCourtModel", name := "water", desc := "(II)I" } : Jvm.MethodName)) ∈ gz_T := gz_at 1199 (by decide +kernel) rfl
theorem gm_1200 : (Jvm.Cond.code ({ cls := "WellCourtModel", name := "water", desc := "(II)I" } : Jvm.MethodName) prog_12_method_31_code (3 : Nat) (Option.some Jvm.ClassFile.FieldType.int)) ∈ gz_T := gz_at 1200 (by decide +kernel) rfl
theorem gm_1205 : (Jvm.Cond.methodLink "WellCourtLaw" (60 : Nat) ({ cls := "WellCourtModel", name := "owner", desc := "(II)I" } : Jvm.MethodName)) ∈ gz_T := gz_at 1205 (by decide +kernel) rfl
theorem gm_1206 : (Jvm.Cond.instanceMethod ({ cls := "WellCourtModel", name := "owner", desc := "(II)I" } : Jvm.MethodName)) ∈ gz_T := gz_at 1206 (by decide +kernel) rfl
theorem gm_1207 : (Jvm.Cond.selects "WellCourtModel" ({ cls := "WellCourtModel", name := "owner", desc := "(II)I" } : Jvm.MethodName) ({ cls := "WellCourtModel", name := "owner", desc := "(II)I" } : Jvm.MethodName)) ∈ gz_T := gz_at 1207 (by decide +kernel) rfl
theorem gm_1208 : (Jvm.Cond.code ({ cls := "WellCourtModel", name := "owner", desc := "(II)I" } : Jvm.MethodName) prog_12_method_32_code (3 : Nat) (Option.some Jvm.ClassFile.FieldType.int)) ∈ gz_T := gz_at 1208 (by decide +kernel) rfl
theorem gm_1209 : (Jvm.Cond.methodLink "WellCourtLaw" (64 : Nat) ({ cls := "WellCourtModel", name := "may", desc := "(II)I" } : Jvm.MethodName)) ∈ gz_T := gz_at 1209 (by decide +kernel) rfl
theorem gm_1210 : (Jvm.Cond.instanceMethod ({ cls := "WellCourtModel", name := "may", desc := "(II)I" } : Jvm.MethodName)) ∈ gz_T := gz_at 1210 (by decide +kernel) rfl
theorem gm_1211 : (Jvm.Cond.selects "WellCourtModel" ({ cls := "WellCourtModel", name := "may", desc := "(II)I" } : Jvm.MethodName) ({ cls := "WellCourtModel", name := "may", desc := "(II)I" } : Jvm.MethodName)) ∈ gz_T := gz_at 1211 (by decide +kernel) rfl
theorem gm_1212 : (Jvm.Cond.code ({ cls := "WellCourtModel", name := "may", desc := "(II)I" } : Jvm.MethodName) prog_12_method_37_code (3 : Nat) (Option.some Jvm.ClassFile.FieldType.int)) ∈ gz_T := gz_at 1212 (by decide +kernel) rfl
theorem gm_1228 : (Jvm.Cond.methodLink "WellCourtLaw" (69 : Nat) ({ cls := "WellCourtModel", name := "lend", desc := "(III)I" } : Jvm.MethodName)) ∈ gz_T := gz_at 1228 (by decide +kernel) rfl
theorem gm_1229 : (Jvm.Cond.instanceMethod ({ cls := "WellCourtModel", name := "lend", desc := "(III)I" } : Jvm.MethodName)) ∈ gz_T := gz_at 1229 (by decide +kernel) rfl
theorem gm_1230 : (Jvm.Cond.selects "WellCourtModel" ({ cls := "WellCourtModel", name := "lend", desc := "(III)I" } : Jvm.MethodName) ({ cls := "WellCourtModel", name := "lend", desc := "(III)I" } : Jvm.MethodName)) ∈ gz_T := gz_at 1230 (by decide +kernel) rfl
theorem gm_1231 : (Jvm.Cond.code ({ cls := "WellCourtModel", name := "lend", desc := "(III)I" } : Jvm.MethodName) prog_12_method_38_code (5 : Nat) (Option.some Jvm.ClassFile.FieldType.int)) ∈ gz_T := gz_at 1231 (by decide +kernel) rfl
theorem gm_1232 : (Jvm.Cond.methodLink "WellCourtLaw" (73 : Nat) ({ cls := "WellCourtModel", name := "draw", desc := "(III)I" } : Jvm.MethodName)) ∈ gz_T := gz_at 1232 (by decide +kernel) rfl
theorem gm_1233 : (Jvm.Cond.instanceMethod ({ cls := "WellCourtModel", name := "draw", desc := "(III)I" } : Jvm.MethodName)) ∈ gz_T := gz_at 1233 (by decide +kernel) rfl
theorem gm_1234 : (Jvm.Cond.selects "WellCourtModel" ({ cls := "WellCourtModel", name := "draw", desc := "(III)I" } : Jvm.MethodName) ({ cls := "WellCourtModel", name := "draw", desc := "(III)I" } : Jvm.MethodName)) ∈ gz_T := gz_at 1234 (by decide +kernel) rfl
theorem gm_1235 : (Jvm.Cond.code ({ cls := "WellCourtModel", name := "draw", desc := "(III)I" } : Jvm.MethodName) prog_12_method_41_code (7 : Nat) (Option.some Jvm.ClassFile.FieldType.int)) ∈ gz_T := gz_at 1235 (by decide +kernel) rfl
theorem gm_1244 : (Jvm.Cond.methodLink "WellCourtLaw" (77 : Nat) ({ cls := "WellCourtModel", name := "take", desc := "(III)I" } : Jvm.MethodName)) ∈ gz_T := gz_at 1244 (by decide +kernel) rfl
theorem gm_1245 : (Jvm.Cond.instanceMethod ({ cls := "WellCourtModel", name := "take", desc := "(III)I" } : Jvm.MethodName)) ∈ gz_T := gz_at 1245 (by decide +kernel) rfl
theorem gm_1246 : (Jvm.Cond.selects "WellCourtModel" ({ cls := "WellCourtModel", name := "take", desc := "(III)I" } : Jvm.MethodName) ({ cls := "WellCourtModel", name := "take", desc := "(III)I" } : Jvm.MethodName)) ∈ gz_T := gz_at 1246 (by decide +kernel) rfl
theorem gm_1247 : (Jvm.Cond.code ({ cls := "WellCourtModel", name := "take", desc := "(III)I" } : Jvm.MethodName) prog_12_method_42_code (4 : Nat) (Option.some Jvm.ClassFile.FieldType.int)) ∈ gz_T := gz_at 1247 (by decide +kernel) rfl
theorem gm_1248 : (Jvm.Cond.methodLink "WellCourtLaw" (81 : Nat) ({ cls := "WellCourtModel", name := "report", desc := "(I)Z" } : Jvm.MethodName)) ∈ gz_T := gz_at 1248 (by decide +kernel) rfl
theorem gm_1249 : (Jvm.Cond.instanceMethod ({ cls := "WellCourtModel", name := "report", desc := "(I)Z" } : Jvm.MethodName)) ∈ gz_T := gz_at 1249 (by decide +kernel) rfl
theorem gm_1250 : (Jvm.Cond.selects "WellCourtModel" ({ cls := "WellCourtModel", name := "report", desc := "(I)Z" } : Jvm.MethodName) ({ cls := "WellCourtModel", name := "report", desc := "(I)Z" } : Jvm.MethodName)) ∈ gz_T := gz_at 1250 (by decide +kernel) rfl
theorem gm_1251 : (Jvm.Cond.code ({ cls := "WellCourtModel", name := "report", desc := "(I)Z" } : Jvm.MethodName) prog_12_method_43_code (2 : Nat) (Option.some Jvm.ClassFile.FieldType.boolean)) ∈ gz_T := gz_at 1251 (by decide +kernel) rfl
theorem gm_1252 : (Jvm.Cond.methodLink "WellCourtLaw" (87 : Nat) ({ cls := "WellCourtModel", name := "drawn", desc := "(II)I" } : Jvm.MethodName)) ∈ gz_T := gz_at 1252 (by decide +kernel) rfl
theorem gm_1253 : (Jvm.Cond.instanceMethod ({ cls := "WellCourtModel", name := "drawn", desc := "(II)I" } : Jvm.MethodName)) ∈ gz_T := gz_at 1253 (by decide +kernel) rfl
theorem gm_1254 : (Jvm.Cond.selects "WellCourtModel" ({ cls := "WellCourtModel", name := "drawn", desc := "(II)I" } : Jvm.MethodName) ({ cls := "WellCourtModel", name := "drawn", desc := "(II)I" } : Jvm.MethodName)) ∈ gz_T := gz_at 1254 (by decide +kernel) rfl
theorem gm_1255 : (Jvm.Cond.code ({ cls := "WellCourtModel", name := "drawn", desc := "(II)I" } : Jvm.MethodName) prog_12_method_44_code (3 : Nat) (Option.some Jvm.ClassFile.FieldType.int)) ∈ gz_T := gz_at 1255 (by decide +kernel) rfl
theorem gm_1256 : (Jvm.Cond.methodLink "WellCourtLaw" (94 : Nat) ({ cls := "WellCourtModel", name := "judge", desc := "(IIIII)I" } : Jvm.MethodName)) ∈ gz_T := gz_at 1256 (by decide +kernel) rfl
theorem gm_1257 : (Jvm.Cond.instanceMethod ({ cls := "WellCourtModel", name := "judge", desc := "(IIIII)I" } : Jvm.MethodName)) ∈ gz_T := gz_at 1257 (by decide +kernel) rfl
theorem gm_1258 : (Jvm.Cond.selects "WellCourtModel" ({ cls := "WellCourtModel", name := "judge", desc := "(IIIII)I" } : Jvm.MethodName) ({ cls := "WellCourtModel", name := "judge", desc := "(IIIII)I" } : Jvm.MethodName)) ∈ gz_T := gz_at 1258 (by decide +kernel) rfl
theorem gm_1259 : (Jvm.Cond.code ({ cls := "WellCourtModel", name := "judge", desc := "(IIIII)I" } : Jvm.MethodName) prog_12_method_45_code (12 : Nat) (Option.some Jvm.ClassFile.FieldType.int)) ∈ gz_T := gz_at 1259 (by decide +kernel) rfl
theorem gm_1260 : (Jvm.Cond.methodLink "WellCourtLaw" (99 : Nat) ({ cls := "WellCourtModel", name := "herd", desc := "(IIIII)Z" } : Jvm.MethodName)) ∈ gz_T := gz_at 1260 (by decide +kernel) rfl
theorem gm_1261 : (Jvm.Cond.instanceMethod ({ cls := "WellCourtModel", name := "herd", desc := "(IIIII)Z" } : Jvm.MethodName)) ∈ gz_T := gz_at 1261 (by decide +kernel) rfl
theorem gm_1262 : (Jvm.Cond.selects "WellCourtModel" ({ cls := "WellCourtModel", name := "herd", desc := "(IIIII)Z" } : Jvm.MethodName) ({ cls := "WellCourtModel", name := "herd", desc := "(IIIII)Z" } : Jvm.MethodName)) ∈ gz_T := gz_at 1262 (by decide +kernel) rfl
theorem gm_1263 : (Jvm.Cond.code ({ cls := "WellCourtModel", name := "herd", desc := "(IIIII)Z" } : Jvm.MethodName) prog_12_method_46_code (6 : Nat) (Option.some Jvm.ClassFile.FieldType.boolean)) ∈ gz_T := gz_at 1263 (by decide +kernel) rfl
theorem gm_1264 : (Jvm.Cond.methodLink "WellCourtLaw" (103 : Nat) ({ cls := "WellCourtModel", name := "drop", desc := "(I)Z" } : Jvm.MethodName)) ∈ gz_T := gz_at 1264 (by decide +kernel) rfl
theorem gm_1265 : (Jvm.Cond.instanceMethod ({ cls := "WellCourtModel", name := "drop", desc := "(I)Z" } : Jvm.MethodName)) ∈ gz_T := gz_at 1265 (by decide +kernel) rfl
theorem gm_1266 : (Jvm.Cond.selects "WellCourtModel" ({ cls := "WellCourtModel", name := "drop", desc := "(I)Z" } : Jvm.MethodName) ({ cls := "WellCourtModel", name := "drop", desc := "(I)Z" } : Jvm.MethodName)) ∈ gz_T := gz_at 1266 (by decide +kernel) rfl
theorem gm_1267 : (Jvm.Cond.code ({ cls := "WellCourtModel", name := "drop", desc := "(I)Z" } : Jvm.MethodName) prog_12_method_47_code (2 : Nat) (Option.some Jvm.ClassFile.FieldType.boolean)) ∈ gz_T := gz_at 1267 (by decide +kernel) rfl
theorem gm_1268 : (Jvm.Cond.methodLink "WellCourtLaw" (108 : Nat) ({ cls := "WellCourtModel", name := "way", desc := "(III)Z" } : Jvm.MethodName)) ∈ gz_T := gz_at 1268 (by decide +kernel) rfl
theorem gm_1269 : (Jvm.Cond.instanceMethod ({ cls := "WellCourtModel", name := "way", desc := "(III)Z" } : Jvm.MethodName)) ∈ gz_T := gz_at 1269 (by decide +kernel) rfl
theorem gm_1270 : (Jvm.Cond.selects "WellCourtModel" ({ cls := "WellCourtModel", name := "way", desc := "(III)Z" } : Jvm.MethodName) ({ cls := "WellCourtModel", name := "way", desc := "(III)Z" } : Jvm.MethodName)) ∈ gz_T := gz_at 1270 (by decide +kernel) rfl
theorem gm_1271 : (Jvm.Cond.code ({ cls := "WellCourtModel", name := "way", desc := "(III)Z" } : Jvm.MethodName) prog_12_method_48_code (4 : Nat) (Option.some Jvm.ClassFile.FieldType.boolean)) ∈ gz_T := gz_at 1271 (by decide +kernel) rfl
theorem gm_1272 : (Jvm.Cond.methodLink "WellCourtLaw" (111 : Nat) ({ cls := "WellCourtModel", name := "plan", desc := "(II)I" } : Jvm.MethodName)) ∈ gz_T := gz_at 1272 (by decide +kernel) rfl
theorem gm_1273 : (Jvm.Cond.instanceMethod ({ cls := "WellCourtModel", name := "plan", desc := "(II)I" } : Jvm.MethodName)) ∈ gz_T := gz_at 1273 (by decide +kernel) rfl
theorem gm_1274 : (Jvm.Cond.selects "WellCourtModel" ({ cls := "WellCourtModel", name := "plan", desc := "(II)I" } : Jvm.MethodName) ({ cls := "WellCourtModel", name := "plan", desc := "(II)I" } : Jvm.MethodName)) ∈ gz_T := gz_at 1274 (by decide +kernel) rfl
theorem gm_1275 : (Jvm.Cond.code ({ cls := "WellCourtModel", name := "plan", desc := "(II)I" } : Jvm.MethodName) prog_12_method_53_code (8 : Nat) (Option.some Jvm.ClassFile.FieldType.int)) ∈ gz_T := gz_at 1275 (by decide +kernel) rfl
theorem gm_1293 : (Jvm.Cond.methodLink "WellCourtLaw" (115 : Nat) ({ cls := "WellCourtModel", name := "step", desc := "(II)I" } : Jvm.MethodName)) ∈ gz_T := gz_at 1293 (by decide +kernel) rfl
theorem gm_1294 : (Jvm.Cond.instanceMethod ({ cls := "WellCourtModel", name := "step", desc := "(II)I" } : Jvm.MethodName)) ∈ gz_T := gz_at 1294 (by decide +kernel) rfl
theorem gm_1295 : (Jvm.Cond.selects "WellCourtModel" ({ cls := "WellCourtModel", name := "step", desc := "(II)I" } : Jvm.MethodName) ({ cls := "WellCourtModel", name := "step", desc := "(II)I" } : Jvm.MethodName)) ∈ gz_T := gz_at 1295 (by decide +kernel) rfl
theorem gm_1296 : (Jvm.Cond.code ({ cls := "WellCourtModel", name := "step", desc := "(II)I" } : Jvm.MethodName) prog_12_method_54_code (3 : Nat) (Option.some Jvm.ClassFile.FieldType.int)) ∈ gz_T := gz_at 1296 (by decide +kernel) rfl
theorem gm_1297 : (Jvm.Cond.methodLink "WellCourtLaw" (119 : Nat) ({ cls := "WellCourtModel", name := "far", desc := "()I" } : Jvm.MethodName)) ∈ gz_T := gz_at 1297 (by decide +kernel) rfl
theorem gm_1298 : (Jvm.Cond.instanceMethod ({ cls := "WellCourtModel", name := "far", desc := "()I" } : Jvm.MethodName)) ∈ gz_T := gz_at 1298 (by decide +kernel) rfl
theorem gm_1299 : (Jvm.Cond.selects "WellCourtModel" ({ cls := "WellCourtModel", name := "far", desc := "()I" } : Jvm.MethodName) ({ cls := "WellCourtModel", name := "far", desc := "()I" } : Jvm.MethodName)) ∈ gz_T := gz_at 1299 (by decide +kernel) rfl
theorem gm_1300 : (Jvm.Cond.code ({ cls := "WellCourtModel", name := "far", desc := "()I" } : Jvm.MethodName) prog_12_method_55_code (1 : Nat) (Option.some Jvm.ClassFile.FieldType.int)) ∈ gz_T := gz_at 1300 (by decide +kernel) rfl
theorem gm_1301 : (Jvm.Cond.methodLink "WellCourtLaw" (124 : Nat) ({ cls := "WellCourtModel", name := "count", desc := "(I)I" } : Jvm.MethodName)) ∈ gz_T := gz_at 1301 (by decide +kernel) rfl
theorem gm_1302 : (Jvm.Cond.instanceMethod ({ cls := "WellCourtModel", name := "count", desc := "(I)I" } : Jvm.MethodName)) ∈ gz_T := gz_at 1302 (by decide +kernel) rfl
theorem gm_1303 : (Jvm.Cond.selects "WellCourtModel" ({ cls := "WellCourtModel", name := "count", desc := "(I)I" } : Jvm.MethodName) ({ cls := "WellCourtModel", name := "count", desc := "(I)I" } : Jvm.MethodName)) ∈ gz_T := gz_at 1303 (by decide +kernel) rfl
theorem gm_1304 : (Jvm.Cond.code ({ cls := "WellCourtModel", name := "count", desc := "(I)I" } : Jvm.MethodName) prog_12_method_56_code (4 : Nat) (Option.some Jvm.ClassFile.FieldType.int)) ∈ gz_T := gz_at 1304 (by decide +kernel) rfl
theorem dL_law_23 : decode cL_law 23 = .ok (.iload 4, 2) := by decide +kernel
theorem dL_law_25 : decode cL_law 25 = .ok (.aload_n 0, 1) := by decide +kernel
theorem dL_law_26 : decode cL_law 26 = .ok (.arraylength, 1) := by decide +kernel
theorem dL_law_27 : decode cL_law 27 = .ok (.bipush 6, 2) := by decide +kernel
theorem dL_law_29 : decode cL_law 29 = .ok (.isub, 1) := by decide +kernel
theorem dL_law_30 : decode cL_law 30 = .ok (.if_icmp .gt 1032, 3) := by decide +kernel
theorem dL_law_144 : decode cL_law 144 = .ok (.aload_n 1, 1) := by decide +kernel
theorem dL_law_145 : decode cL_law 145 = .ok (.aload_n 0, 1) := by decide +kernel
theorem dL_law_146 : decode cL_law 146 = .ok (.iload 4, 2) := by decide +kernel
theorem dL_law_148 : decode cL_law 148 = .ok (.iconst 1, 1) := by decide +kernel
theorem dL_law_149 : decode cL_law 149 = .ok (.iadd, 1) := by decide +kernel
theorem dL_law_150 : decode cL_law 150 = .ok (.iaload, 1) := by decide +kernel
theorem dL_law_151 : decode cL_law 151 = .ok (.aload_n 0, 1) := by decide +kernel
theorem dL_law_152 : decode cL_law 152 = .ok (.iload 4, 2) := by decide +kernel
theorem dL_law_154 : decode cL_law 154 = .ok (.iconst 2, 1) := by decide +kernel
theorem dL_law_155 : decode cL_law 155 = .ok (.iadd, 1) := by decide +kernel
theorem dL_law_156 : decode cL_law 156 = .ok (.iaload, 1) := by decide +kernel
theorem dL_law_157 : decode cL_law 157 = .ok (.aload_n 0, 1) := by decide +kernel
theorem dL_law_158 : decode cL_law 158 = .ok (.iload 4, 2) := by decide +kernel
theorem dL_law_160 : decode cL_law 160 = .ok (.iconst 3, 1) := by decide +kernel
theorem dL_law_161 : decode cL_law 161 = .ok (.iadd, 1) := by decide +kernel
theorem dL_law_162 : decode cL_law 162 = .ok (.iaload, 1) := by decide +kernel
theorem dL_law_163 : decode cL_law 163 = .ok (.aload_n 0, 1) := by decide +kernel
theorem dL_law_164 : decode cL_law 164 = .ok (.iload 4, 2) := by decide +kernel
theorem dL_law_166 : decode cL_law 166 = .ok (.iconst 4, 1) := by decide +kernel
theorem dL_law_167 : decode cL_law 167 = .ok (.iadd, 1) := by decide +kernel
theorem dL_law_168 : decode cL_law 168 = .ok (.iaload, 1) := by decide +kernel
theorem dL_law_169 : decode cL_law 169 = .ok (.aload_n 0, 1) := by decide +kernel
theorem dL_law_170 : decode cL_law 170 = .ok (.iload 4, 2) := by decide +kernel
theorem dL_law_172 : decode cL_law 172 = .ok (.iconst 5, 1) := by decide +kernel
theorem dL_law_173 : decode cL_law 173 = .ok (.iadd, 1) := by decide +kernel
theorem dL_law_174 : decode cL_law 174 = .ok (.iaload, 1) := by decide +kernel
theorem dL_law_175 : decode cL_law 175 = .ok (.invokevirtual 24, 3) := by decide +kernel
theorem dL_law_178 : decode cL_law 178 = .ok (.aload_n 2, 1) := by decide +kernel
theorem dL_law_179 : decode cL_law 179 = .ok (.aload_n 0, 1) := by decide +kernel
theorem dL_law_180 : decode cL_law 180 = .ok (.iload 4, 2) := by decide +kernel
theorem dL_law_182 : decode cL_law 182 = .ok (.iconst 1, 1) := by decide +kernel
theorem dL_law_183 : decode cL_law 183 = .ok (.iadd, 1) := by decide +kernel
theorem dL_law_184 : decode cL_law 184 = .ok (.iaload, 1) := by decide +kernel
theorem dL_law_185 : decode cL_law 185 = .ok (.aload_n 0, 1) := by decide +kernel
theorem dL_law_186 : decode cL_law 186 = .ok (.iload 4, 2) := by decide +kernel
theorem dL_law_188 : decode cL_law 188 = .ok (.iconst 2, 1) := by decide +kernel
theorem dL_law_189 : decode cL_law 189 = .ok (.iadd, 1) := by decide +kernel
theorem dL_law_190 : decode cL_law 190 = .ok (.iaload, 1) := by decide +kernel
theorem dL_law_191 : decode cL_law 191 = .ok (.aload_n 0, 1) := by decide +kernel
theorem dL_law_192 : decode cL_law 192 = .ok (.iload 4, 2) := by decide +kernel
theorem dL_law_194 : decode cL_law 194 = .ok (.iconst 3, 1) := by decide +kernel
theorem dL_law_195 : decode cL_law 195 = .ok (.iadd, 1) := by decide +kernel
theorem dL_law_196 : decode cL_law 196 = .ok (.iaload, 1) := by decide +kernel
theorem dL_law_197 : decode cL_law 197 = .ok (.aload_n 0, 1) := by decide +kernel
theorem dL_law_198 : decode cL_law 198 = .ok (.iload 4, 2) := by decide +kernel
theorem dL_law_200 : decode cL_law 200 = .ok (.iconst 4, 1) := by decide +kernel
theorem dL_law_201 : decode cL_law 201 = .ok (.iadd, 1) := by decide +kernel
theorem dL_law_202 : decode cL_law 202 = .ok (.iaload, 1) := by decide +kernel
theorem dL_law_203 : decode cL_law 203 = .ok (.aload_n 0, 1) := by decide +kernel
theorem dL_law_204 : decode cL_law 204 = .ok (.iload 4, 2) := by decide +kernel
theorem dL_law_206 : decode cL_law 206 = .ok (.iconst 5, 1) := by decide +kernel
theorem dL_law_207 : decode cL_law 207 = .ok (.iadd, 1) := by decide +kernel
theorem dL_law_208 : decode cL_law 208 = .ok (.iaload, 1) := by decide +kernel
theorem dL_law_209 : decode cL_law 209 = .ok (.invokevirtual 28, 3) := by decide +kernel
theorem dL_law_212 : decode cL_law 212 = .ok (.if_icmp .eq 844, 3) := by decide +kernel
theorem dL_law_217 : decode cL_law 217 = .ok (.aload_n 1, 1) := by decide +kernel
theorem dL_law_218 : decode cL_law 218 = .ok (.aload_n 0, 1) := by decide +kernel
theorem dL_law_219 : decode cL_law 219 = .ok (.iload 4, 2) := by decide +kernel
theorem dL_law_221 : decode cL_law 221 = .ok (.iconst 1, 1) := by decide +kernel
theorem dL_law_222 : decode cL_law 222 = .ok (.iadd, 1) := by decide +kernel
theorem dL_law_223 : decode cL_law 223 = .ok (.iaload, 1) := by decide +kernel
theorem dL_law_224 : decode cL_law 224 = .ok (.invokevirtual 29, 3) := by decide +kernel
theorem dL_law_227 : decode cL_law 227 = .ok (.aload_n 2, 1) := by decide +kernel
theorem dL_law_228 : decode cL_law 228 = .ok (.aload_n 0, 1) := by decide +kernel
theorem dL_law_229 : decode cL_law 229 = .ok (.iload 4, 2) := by decide +kernel
theorem dL_law_231 : decode cL_law 231 = .ok (.iconst 1, 1) := by decide +kernel
theorem dL_law_232 : decode cL_law 232 = .ok (.iadd, 1) := by decide +kernel
theorem dL_law_233 : decode cL_law 233 = .ok (.iaload, 1) := by decide +kernel
theorem dL_law_234 : decode cL_law 234 = .ok (.invokevirtual 33, 3) := by decide +kernel
theorem dL_law_237 : decode cL_law 237 = .ok (.if_icmp .eq 819, 3) := by decide +kernel
theorem dL_law_240 : decode cL_law 240 = .ok (.iconst 0, 1) := by decide +kernel
theorem dL_law_241 : decode cL_law 241 = .ok (.ireturn, 1) := by decide +kernel
theorem dL_law_242 : decode cL_law 242 = .ok (.aload_n 1, 1) := by decide +kernel
theorem dL_law_243 : decode cL_law 243 = .ok (.aload_n 0, 1) := by decide +kernel
theorem dL_law_244 : decode cL_law 244 = .ok (.iload 4, 2) := by decide +kernel
theorem dL_law_246 : decode cL_law 246 = .ok (.iconst 1, 1) := by decide +kernel
theorem dL_law_247 : decode cL_law 247 = .ok (.iadd, 1) := by decide +kernel
theorem dL_law_248 : decode cL_law 248 = .ok (.iaload, 1) := by decide +kernel
theorem dL_law_249 : decode cL_law 249 = .ok (.aload_n 0, 1) := by decide +kernel
theorem dL_law_250 : decode cL_law 250 = .ok (.iload 4, 2) := by decide +kernel
theorem dL_law_252 : decode cL_law 252 = .ok (.iconst 2, 1) := by decide +kernel
theorem dL_law_253 : decode cL_law 253 = .ok (.iadd, 1) := by decide +kernel
theorem dL_law_254 : decode cL_law 254 = .ok (.iaload, 1) := by decide +kernel
theorem dL_law_255 : decode cL_law 255 = .ok (.aload_n 0, 1) := by decide +kernel
theorem dL_law_256 : decode cL_law 256 = .ok (.iload 4, 2) := by decide +kernel
theorem dL_law_258 : decode cL_law 258 = .ok (.iconst 3, 1) := by decide +kernel
theorem dL_law_259 : decode cL_law 259 = .ok (.iadd, 1) := by decide +kernel
theorem dL_law_260 : decode cL_law 260 = .ok (.iaload, 1) := by decide +kernel
theorem dL_law_261 : decode cL_law 261 = .ok (.aload_n 0, 1) := by decide +kernel
theorem dL_law_262 : decode cL_law 262 = .ok (.iload 4, 2) := by decide +kernel
theorem dL_law_264 : decode cL_law 264 = .ok (.iconst 4, 1) := by decide +kernel
theorem dL_law_265 : decode cL_law 265 = .ok (.iadd, 1) := by decide +kernel
theorem dL_law_266 : decode cL_law 266 = .ok (.iaload, 1) := by decide +kernel
theorem dL_law_267 : decode cL_law 267 = .ok (.invokevirtual 34, 3) := by decide +kernel
theorem dL_law_270 : decode cL_law 270 = .ok (.aload_n 2, 1) := by decide +kernel
theorem dL_law_271 : decode cL_law 271 = .ok (.aload_n 0, 1) := by decide +kernel
theorem dL_law_272 : decode cL_law 272 = .ok (.iload 4, 2) := by decide +kernel
theorem dL_law_274 : decode cL_law 274 = .ok (.iconst 1, 1) := by decide +kernel
theorem dL_law_275 : decode cL_law 275 = .ok (.iadd, 1) := by decide +kernel
theorem dL_law_276 : decode cL_law 276 = .ok (.iaload, 1) := by decide +kernel
theorem dL_law_277 : decode cL_law 277 = .ok (.aload_n 0, 1) := by decide +kernel
theorem dL_law_278 : decode cL_law 278 = .ok (.iload 4, 2) := by decide +kernel
theorem dL_law_280 : decode cL_law 280 = .ok (.iconst 2, 1) := by decide +kernel
theorem dL_law_281 : decode cL_law 281 = .ok (.iadd, 1) := by decide +kernel
theorem dL_law_282 : decode cL_law 282 = .ok (.iaload, 1) := by decide +kernel
theorem dL_law_283 : decode cL_law 283 = .ok (.aload_n 0, 1) := by decide +kernel
theorem dL_law_284 : decode cL_law 284 = .ok (.iload 4, 2) := by decide +kernel
theorem dL_law_286 : decode cL_law 286 = .ok (.iconst 3, 1) := by decide +kernel
theorem dL_law_287 : decode cL_law 287 = .ok (.iadd, 1) := by decide +kernel
theorem dL_law_288 : decode cL_law 288 = .ok (.iaload, 1) := by decide +kernel
theorem dL_law_289 : decode cL_law 289 = .ok (.aload_n 0, 1) := by decide +kernel
theorem dL_law_290 : decode cL_law 290 = .ok (.iload 4, 2) := by decide +kernel
theorem dL_law_292 : decode cL_law 292 = .ok (.iconst 4, 1) := by decide +kernel
theorem dL_law_293 : decode cL_law 293 = .ok (.iadd, 1) := by decide +kernel
theorem dL_law_294 : decode cL_law 294 = .ok (.iaload, 1) := by decide +kernel
theorem dL_law_295 : decode cL_law 295 = .ok (.invokevirtual 38, 3) := by decide +kernel
theorem dL_law_298 : decode cL_law 298 = .ok (.if_icmp .eq 758, 3) := by decide +kernel
theorem dL_law_301 : decode cL_law 301 = .ok (.iconst 0, 1) := by decide +kernel
theorem dL_law_302 : decode cL_law 302 = .ok (.ireturn, 1) := by decide +kernel
theorem dL_law_303 : decode cL_law 303 = .ok (.aload_n 1, 1) := by decide +kernel
theorem dL_law_304 : decode cL_law 304 = .ok (.invokevirtual 39, 3) := by decide +kernel
theorem dL_law_307 : decode cL_law 307 = .ok (.aload_n 2, 1) := by decide +kernel
theorem dL_law_308 : decode cL_law 308 = .ok (.invokevirtual 43, 3) := by decide +kernel
theorem dL_law_311 : decode cL_law 311 = .ok (.if_icmp .eq 745, 3) := by decide +kernel
theorem dL_law_316 : decode cL_law 316 = .ok (.aload_n 1, 1) := by decide +kernel
theorem dL_law_317 : decode cL_law 317 = .ok (.invokevirtual 44, 3) := by decide +kernel
theorem dL_law_320 : decode cL_law 320 = .ok (.aload_n 2, 1) := by decide +kernel
theorem dL_law_321 : decode cL_law 321 = .ok (.invokevirtual 47, 3) := by decide +kernel
theorem dL_law_324 : decode cL_law 324 = .ok (.if_icmp .eq 732, 3) := by decide +kernel
theorem dL_law_329 : decode cL_law 329 = .ok (.aload_n 1, 1) := by decide +kernel
theorem dL_law_330 : decode cL_law 330 = .ok (.invokevirtual 48, 3) := by decide +kernel
theorem dL_law_333 : decode cL_law 333 = .ok (.aload_n 2, 1) := by decide +kernel
theorem dL_law_334 : decode cL_law 334 = .ok (.invokevirtual 52, 3) := by decide +kernel
theorem dL_law_337 : decode cL_law 337 = .ok (.if_icmp .eq 719, 3) := by decide +kernel
theorem dL_law_342 : decode cL_law 342 = .ok (.aload_n 1, 1) := by decide +kernel
theorem dL_law_343 : decode cL_law 343 = .ok (.aload_n 0, 1) := by decide +kernel
theorem dL_law_344 : decode cL_law 344 = .ok (.iload 4, 2) := by decide +kernel
theorem dL_law_346 : decode cL_law 346 = .ok (.iconst 1, 1) := by decide +kernel
theorem dL_law_347 : decode cL_law 347 = .ok (.iadd, 1) := by decide +kernel
theorem dL_law_348 : decode cL_law 348 = .ok (.iaload, 1) := by decide +kernel
theorem dL_law_349 : decode cL_law 349 = .ok (.aload_n 0, 1) := by decide +kernel
theorem dL_law_350 : decode cL_law 350 = .ok (.iload 4, 2) := by decide +kernel
theorem dL_law_352 : decode cL_law 352 = .ok (.iconst 2, 1) := by decide +kernel
theorem dL_law_353 : decode cL_law 353 = .ok (.iadd, 1) := by decide +kernel
theorem dL_law_354 : decode cL_law 354 = .ok (.iaload, 1) := by decide +kernel
theorem dL_law_355 : decode cL_law 355 = .ok (.invokevirtual 53, 3) := by decide +kernel
theorem dL_law_358 : decode cL_law 358 = .ok (.aload_n 2, 1) := by decide +kernel
theorem dL_law_359 : decode cL_law 359 = .ok (.aload_n 0, 1) := by decide +kernel
theorem dL_law_360 : decode cL_law 360 = .ok (.iload 4, 2) := by decide +kernel
theorem dL_law_362 : decode cL_law 362 = .ok (.iconst 1, 1) := by decide +kernel
theorem dL_law_363 : decode cL_law 363 = .ok (.iadd, 1) := by decide +kernel
theorem dL_law_364 : decode cL_law 364 = .ok (.iaload, 1) := by decide +kernel
theorem dL_law_365 : decode cL_law 365 = .ok (.aload_n 0, 1) := by decide +kernel
theorem dL_law_366 : decode cL_law 366 = .ok (.iload 4, 2) := by decide +kernel
theorem dL_law_368 : decode cL_law 368 = .ok (.iconst 2, 1) := by decide +kernel
theorem dL_law_369 : decode cL_law 369 = .ok (.iadd, 1) := by decide +kernel
theorem dL_law_370 : decode cL_law 370 = .ok (.iaload, 1) := by decide +kernel
theorem dL_law_371 : decode cL_law 371 = .ok (.invokevirtual 56, 3) := by decide +kernel
theorem dL_law_374 : decode cL_law 374 = .ok (.if_icmp .eq 682, 3) := by decide +kernel
theorem dL_law_379 : decode cL_law 379 = .ok (.aload_n 1, 1) := by decide +kernel
theorem dL_law_380 : decode cL_law 380 = .ok (.aload_n 0, 1) := by decide +kernel
theorem dL_law_381 : decode cL_law 381 = .ok (.iload 4, 2) := by decide +kernel
theorem dL_law_383 : decode cL_law 383 = .ok (.iconst 1, 1) := by decide +kernel
theorem dL_law_384 : decode cL_law 384 = .ok (.iadd, 1) := by decide +kernel
theorem dL_law_385 : decode cL_law 385 = .ok (.iaload, 1) := by decide +kernel
theorem dL_law_386 : decode cL_law 386 = .ok (.aload_n 0, 1) := by decide +kernel
theorem dL_law_387 : decode cL_law 387 = .ok (.iload 4, 2) := by decide +kernel
theorem dL_law_389 : decode cL_law 389 = .ok (.iconst 2, 1) := by decide +kernel
theorem dL_law_390 : decode cL_law 390 = .ok (.iadd, 1) := by decide +kernel
theorem dL_law_391 : decode cL_law 391 = .ok (.iaload, 1) := by decide +kernel
theorem dL_law_392 : decode cL_law 392 = .ok (.invokevirtual 57, 3) := by decide +kernel
theorem dL_law_395 : decode cL_law 395 = .ok (.aload_n 2, 1) := by decide +kernel
theorem dL_law_396 : decode cL_law 396 = .ok (.aload_n 0, 1) := by decide +kernel
theorem dL_law_397 : decode cL_law 397 = .ok (.iload 4, 2) := by decide +kernel
theorem dL_law_399 : decode cL_law 399 = .ok (.iconst 1, 1) := by decide +kernel
theorem dL_law_400 : decode cL_law 400 = .ok (.iadd, 1) := by decide +kernel
theorem dL_law_401 : decode cL_law 401 = .ok (.iaload, 1) := by decide +kernel
theorem dL_law_402 : decode cL_law 402 = .ok (.aload_n 0, 1) := by decide +kernel
theorem dL_law_403 : decode cL_law 403 = .ok (.iload 4, 2) := by decide +kernel
theorem dL_law_405 : decode cL_law 405 = .ok (.iconst 2, 1) := by decide +kernel
theorem dL_law_406 : decode cL_law 406 = .ok (.iadd, 1) := by decide +kernel
theorem dL_law_407 : decode cL_law 407 = .ok (.iaload, 1) := by decide +kernel
theorem dL_law_408 : decode cL_law 408 = .ok (.invokevirtual 60, 3) := by decide +kernel
theorem dL_law_411 : decode cL_law 411 = .ok (.if_icmp .eq 645, 3) := by decide +kernel
theorem dL_law_416 : decode cL_law 416 = .ok (.aload_n 1, 1) := by decide +kernel
theorem dL_law_417 : decode cL_law 417 = .ok (.aload_n 0, 1) := by decide +kernel
theorem dL_law_418 : decode cL_law 418 = .ok (.iload 4, 2) := by decide +kernel
theorem dL_law_420 : decode cL_law 420 = .ok (.iconst 1, 1) := by decide +kernel
theorem dL_law_421 : decode cL_law 421 = .ok (.iadd, 1) := by decide +kernel
theorem dL_law_422 : decode cL_law 422 = .ok (.iaload, 1) := by decide +kernel
theorem dL_law_423 : decode cL_law 423 = .ok (.aload_n 0, 1) := by decide +kernel
theorem dL_law_424 : decode cL_law 424 = .ok (.iload 4, 2) := by decide +kernel
theorem dL_law_426 : decode cL_law 426 = .ok (.iconst 2, 1) := by decide +kernel
theorem dL_law_427 : decode cL_law 427 = .ok (.iadd, 1) := by decide +kernel
theorem dL_law_428 : decode cL_law 428 = .ok (.iaload, 1) := by decide +kernel
theorem dL_law_429 : decode cL_law 429 = .ok (.invokevirtual 61, 3) := by decide +kernel
theorem dL_law_432 : decode cL_law 432 = .ok (.aload_n 2, 1) := by decide +kernel
theorem dL_law_433 : decode cL_law 433 = .ok (.aload_n 0, 1) := by decide +kernel
theorem dL_law_434 : decode cL_law 434 = .ok (.iload 4, 2) := by decide +kernel
theorem dL_law_436 : decode cL_law 436 = .ok (.iconst 1, 1) := by decide +kernel
theorem dL_law_437 : decode cL_law 437 = .ok (.iadd, 1) := by decide +kernel
theorem dL_law_438 : decode cL_law 438 = .ok (.iaload, 1) := by decide +kernel
theorem dL_law_439 : decode cL_law 439 = .ok (.aload_n 0, 1) := by decide +kernel
theorem dL_law_440 : decode cL_law 440 = .ok (.iload 4, 2) := by decide +kernel
theorem dL_law_442 : decode cL_law 442 = .ok (.iconst 2, 1) := by decide +kernel
theorem dL_law_443 : decode cL_law 443 = .ok (.iadd, 1) := by decide +kernel
theorem dL_law_444 : decode cL_law 444 = .ok (.iaload, 1) := by decide +kernel
theorem dL_law_445 : decode cL_law 445 = .ok (.invokevirtual 64, 3) := by decide +kernel
theorem dL_law_448 : decode cL_law 448 = .ok (.if_icmp .eq 608, 3) := by decide +kernel
theorem dL_law_453 : decode cL_law 453 = .ok (.aload_n 1, 1) := by decide +kernel
theorem dL_law_454 : decode cL_law 454 = .ok (.aload_n 0, 1) := by decide +kernel
theorem dL_law_455 : decode cL_law 455 = .ok (.iload 4, 2) := by decide +kernel
theorem dL_law_457 : decode cL_law 457 = .ok (.iconst 1, 1) := by decide +kernel
theorem dL_law_458 : decode cL_law 458 = .ok (.iadd, 1) := by decide +kernel
theorem dL_law_459 : decode cL_law 459 = .ok (.iaload, 1) := by decide +kernel
theorem dL_law_460 : decode cL_law 460 = .ok (.aload_n 0, 1) := by decide +kernel
theorem dL_law_461 : decode cL_law 461 = .ok (.iload 4, 2) := by decide +kernel
theorem dL_law_463 : decode cL_law 463 = .ok (.iconst 2, 1) := by decide +kernel
theorem dL_law_464 : decode cL_law 464 = .ok (.iadd, 1) := by decide +kernel
theorem dL_law_465 : decode cL_law 465 = .ok (.iaload, 1) := by decide +kernel
theorem dL_law_466 : decode cL_law 466 = .ok (.aload_n 0, 1) := by decide +kernel
theorem dL_law_467 : decode cL_law 467 = .ok (.iload 4, 2) := by decide +kernel
theorem dL_law_469 : decode cL_law 469 = .ok (.iconst 3, 1) := by decide +kernel
theorem dL_law_470 : decode cL_law 470 = .ok (.iadd, 1) := by decide +kernel
theorem dL_law_471 : decode cL_law 471 = .ok (.iaload, 1) := by decide +kernel
theorem dL_law_472 : decode cL_law 472 = .ok (.invokevirtual 65, 3) := by decide +kernel
theorem dL_law_475 : decode cL_law 475 = .ok (.aload_n 2, 1) := by decide +kernel
theorem dL_law_476 : decode cL_law 476 = .ok (.aload_n 0, 1) := by decide +kernel
theorem dL_law_477 : decode cL_law 477 = .ok (.iload 4, 2) := by decide +kernel
theorem dL_law_479 : decode cL_law 479 = .ok (.iconst 1, 1) := by decide +kernel
theorem dL_law_480 : decode cL_law 480 = .ok (.iadd, 1) := by decide +kernel
theorem dL_law_481 : decode cL_law 481 = .ok (.iaload, 1) := by decide +kernel
theorem dL_law_482 : decode cL_law 482 = .ok (.aload_n 0, 1) := by decide +kernel
theorem dL_law_483 : decode cL_law 483 = .ok (.iload 4, 2) := by decide +kernel
theorem dL_law_485 : decode cL_law 485 = .ok (.iconst 2, 1) := by decide +kernel
theorem dL_law_486 : decode cL_law 486 = .ok (.iadd, 1) := by decide +kernel
theorem dL_law_487 : decode cL_law 487 = .ok (.iaload, 1) := by decide +kernel
theorem dL_law_488 : decode cL_law 488 = .ok (.aload_n 0, 1) := by decide +kernel
theorem dL_law_489 : decode cL_law 489 = .ok (.iload 4, 2) := by decide +kernel
theorem dL_law_491 : decode cL_law 491 = .ok (.iconst 3, 1) := by decide +kernel
theorem dL_law_492 : decode cL_law 492 = .ok (.iadd, 1) := by decide +kernel
theorem dL_law_493 : decode cL_law 493 = .ok (.iaload, 1) := by decide +kernel
theorem dL_law_494 : decode cL_law 494 = .ok (.invokevirtual 69, 3) := by decide +kernel
theorem dL_law_497 : decode cL_law 497 = .ok (.if_icmp .eq 559, 3) := by decide +kernel
theorem dL_law_502 : decode cL_law 502 = .ok (.aload_n 1, 1) := by decide +kernel
theorem dL_law_503 : decode cL_law 503 = .ok (.aload_n 0, 1) := by decide +kernel
theorem dL_law_504 : decode cL_law 504 = .ok (.iload 4, 2) := by decide +kernel
theorem dL_law_506 : decode cL_law 506 = .ok (.iconst 1, 1) := by decide +kernel
theorem dL_law_507 : decode cL_law 507 = .ok (.iadd, 1) := by decide +kernel
theorem dL_law_508 : decode cL_law 508 = .ok (.iaload, 1) := by decide +kernel
theorem dL_law_509 : decode cL_law 509 = .ok (.aload_n 0, 1) := by decide +kernel
theorem dL_law_510 : decode cL_law 510 = .ok (.iload 4, 2) := by decide +kernel
theorem dL_law_512 : decode cL_law 512 = .ok (.iconst 2, 1) := by decide +kernel
theorem dL_law_513 : decode cL_law 513 = .ok (.iadd, 1) := by decide +kernel
theorem dL_law_514 : decode cL_law 514 = .ok (.iaload, 1) := by decide +kernel
theorem dL_law_515 : decode cL_law 515 = .ok (.aload_n 0, 1) := by decide +kernel
theorem dL_law_516 : decode cL_law 516 = .ok (.iload 4, 2) := by decide +kernel
theorem dL_law_518 : decode cL_law 518 = .ok (.iconst 3, 1) := by decide +kernel
theorem dL_law_519 : decode cL_law 519 = .ok (.iadd, 1) := by decide +kernel
theorem dL_law_520 : decode cL_law 520 = .ok (.iaload, 1) := by decide +kernel
theorem dL_law_521 : decode cL_law 521 = .ok (.invokevirtual 70, 3) := by decide +kernel
theorem dL_law_524 : decode cL_law 524 = .ok (.aload_n 2, 1) := by decide +kernel
theorem dL_law_525 : decode cL_law 525 = .ok (.aload_n 0, 1) := by decide +kernel
theorem dL_law_526 : decode cL_law 526 = .ok (.iload 4, 2) := by decide +kernel
theorem dL_law_528 : decode cL_law 528 = .ok (.iconst 1, 1) := by decide +kernel
theorem dL_law_529 : decode cL_law 529 = .ok (.iadd, 1) := by decide +kernel
theorem dL_law_530 : decode cL_law 530 = .ok (.iaload, 1) := by decide +kernel
theorem dL_law_531 : decode cL_law 531 = .ok (.aload_n 0, 1) := by decide +kernel
theorem dL_law_532 : decode cL_law 532 = .ok (.iload 4, 2) := by decide +kernel
theorem dL_law_534 : decode cL_law 534 = .ok (.iconst 2, 1) := by decide +kernel
theorem dL_law_535 : decode cL_law 535 = .ok (.iadd, 1) := by decide +kernel
theorem dL_law_536 : decode cL_law 536 = .ok (.iaload, 1) := by decide +kernel
theorem dL_law_537 : decode cL_law 537 = .ok (.aload_n 0, 1) := by decide +kernel
theorem dL_law_538 : decode cL_law 538 = .ok (.iload 4, 2) := by decide +kernel
theorem dL_law_540 : decode cL_law 540 = .ok (.iconst 3, 1) := by decide +kernel
theorem dL_law_541 : decode cL_law 541 = .ok (.iadd, 1) := by decide +kernel
theorem dL_law_542 : decode cL_law 542 = .ok (.iaload, 1) := by decide +kernel
theorem dL_law_543 : decode cL_law 543 = .ok (.invokevirtual 73, 3) := by decide +kernel
theorem dL_law_546 : decode cL_law 546 = .ok (.if_icmp .eq 510, 3) := by decide +kernel
theorem dL_law_551 : decode cL_law 551 = .ok (.aload_n 1, 1) := by decide +kernel
theorem dL_law_552 : decode cL_law 552 = .ok (.aload_n 0, 1) := by decide +kernel
theorem dL_law_553 : decode cL_law 553 = .ok (.iload 4, 2) := by decide +kernel
theorem dL_law_555 : decode cL_law 555 = .ok (.iconst 1, 1) := by decide +kernel
theorem dL_law_556 : decode cL_law 556 = .ok (.iadd, 1) := by decide +kernel
theorem dL_law_557 : decode cL_law 557 = .ok (.iaload, 1) := by decide +kernel
theorem dL_law_558 : decode cL_law 558 = .ok (.aload_n 0, 1) := by decide +kernel
theorem dL_law_559 : decode cL_law 559 = .ok (.iload 4, 2) := by decide +kernel
theorem dL_law_561 : decode cL_law 561 = .ok (.iconst 2, 1) := by decide +kernel
theorem dL_law_562 : decode cL_law 562 = .ok (.iadd, 1) := by decide +kernel
theorem dL_law_563 : decode cL_law 563 = .ok (.iaload, 1) := by decide +kernel
theorem dL_law_564 : decode cL_law 564 = .ok (.aload_n 0, 1) := by decide +kernel
theorem dL_law_565 : decode cL_law 565 = .ok (.iload 4, 2) := by decide +kernel
theorem dL_law_567 : decode cL_law 567 = .ok (.iconst 3, 1) := by decide +kernel
theorem dL_law_568 : decode cL_law 568 = .ok (.iadd, 1) := by decide +kernel
theorem dL_law_569 : decode cL_law 569 = .ok (.iaload, 1) := by decide +kernel
theorem dL_law_570 : decode cL_law 570 = .ok (.invokevirtual 74, 3) := by decide +kernel
theorem dL_law_573 : decode cL_law 573 = .ok (.aload_n 2, 1) := by decide +kernel
theorem dL_law_574 : decode cL_law 574 = .ok (.aload_n 0, 1) := by decide +kernel
theorem dL_law_575 : decode cL_law 575 = .ok (.iload 4, 2) := by decide +kernel
theorem dL_law_577 : decode cL_law 577 = .ok (.iconst 1, 1) := by decide +kernel
theorem dL_law_578 : decode cL_law 578 = .ok (.iadd, 1) := by decide +kernel
theorem dL_law_579 : decode cL_law 579 = .ok (.iaload, 1) := by decide +kernel
theorem dL_law_580 : decode cL_law 580 = .ok (.aload_n 0, 1) := by decide +kernel
theorem dL_law_581 : decode cL_law 581 = .ok (.iload 4, 2) := by decide +kernel
theorem dL_law_583 : decode cL_law 583 = .ok (.iconst 2, 1) := by decide +kernel
theorem dL_law_584 : decode cL_law 584 = .ok (.iadd, 1) := by decide +kernel
theorem dL_law_585 : decode cL_law 585 = .ok (.iaload, 1) := by decide +kernel
theorem dL_law_586 : decode cL_law 586 = .ok (.aload_n 0, 1) := by decide +kernel
theorem dL_law_587 : decode cL_law 587 = .ok (.iload 4, 2) := by decide +kernel
theorem dL_law_589 : decode cL_law 589 = .ok (.iconst 3, 1) := by decide +kernel
theorem dL_law_590 : decode cL_law 590 = .ok (.iadd, 1) := by decide +kernel
theorem dL_law_591 : decode cL_law 591 = .ok (.iaload, 1) := by decide +kernel
theorem dL_law_592 : decode cL_law 592 = .ok (.invokevirtual 77, 3) := by decide +kernel
theorem dL_law_595 : decode cL_law 595 = .ok (.if_icmp .eq 461, 3) := by decide +kernel
theorem dL_law_600 : decode cL_law 600 = .ok (.aload_n 1, 1) := by decide +kernel
theorem dL_law_601 : decode cL_law 601 = .ok (.aload_n 0, 1) := by decide +kernel
theorem dL_law_602 : decode cL_law 602 = .ok (.iload 4, 2) := by decide +kernel
theorem dL_law_604 : decode cL_law 604 = .ok (.iconst 1, 1) := by decide +kernel
theorem dL_law_605 : decode cL_law 605 = .ok (.iadd, 1) := by decide +kernel
theorem dL_law_606 : decode cL_law 606 = .ok (.iaload, 1) := by decide +kernel
theorem dL_law_607 : decode cL_law 607 = .ok (.invokevirtual 78, 3) := by decide +kernel
theorem dL_law_610 : decode cL_law 610 = .ok (.aload_n 2, 1) := by decide +kernel
theorem dL_law_611 : decode cL_law 611 = .ok (.aload_n 0, 1) := by decide +kernel
theorem dL_law_612 : decode cL_law 612 = .ok (.iload 4, 2) := by decide +kernel
theorem dL_law_614 : decode cL_law 614 = .ok (.iconst 1, 1) := by decide +kernel
theorem dL_law_615 : decode cL_law 615 = .ok (.iadd, 1) := by decide +kernel
theorem dL_law_616 : decode cL_law 616 = .ok (.iaload, 1) := by decide +kernel
theorem dL_law_617 : decode cL_law 617 = .ok (.invokevirtual 81, 3) := by decide +kernel
theorem dL_law_620 : decode cL_law 620 = .ok (.if_icmp .eq 436, 3) := by decide +kernel
theorem dL_law_625 : decode cL_law 625 = .ok (.aload_n 1, 1) := by decide +kernel
theorem dL_law_626 : decode cL_law 626 = .ok (.aload_n 0, 1) := by decide +kernel
theorem dL_law_627 : decode cL_law 627 = .ok (.iload 4, 2) := by decide +kernel
theorem dL_law_629 : decode cL_law 629 = .ok (.iconst 1, 1) := by decide +kernel
theorem dL_law_630 : decode cL_law 630 = .ok (.iadd, 1) := by decide +kernel
theorem dL_law_631 : decode cL_law 631 = .ok (.iaload, 1) := by decide +kernel
theorem dL_law_632 : decode cL_law 632 = .ok (.aload_n 0, 1) := by decide +kernel
theorem dL_law_633 : decode cL_law 633 = .ok (.iload 4, 2) := by decide +kernel
theorem dL_law_635 : decode cL_law 635 = .ok (.iconst 2, 1) := by decide +kernel
theorem dL_law_636 : decode cL_law 636 = .ok (.iadd, 1) := by decide +kernel
theorem dL_law_637 : decode cL_law 637 = .ok (.iaload, 1) := by decide +kernel
theorem dL_law_638 : decode cL_law 638 = .ok (.aload_n 3, 1) := by decide +kernel
theorem dL_law_639 : decode cL_law 639 = .ok (.invokestatic 82, 3) := by decide +kernel
theorem dL_law_642 : decode cL_law 642 = .ok (.istore 5, 2) := by decide +kernel
theorem dL_law_644 : decode cL_law 644 = .ok (.aload_n 2, 1) := by decide +kernel
theorem dL_law_645 : decode cL_law 645 = .ok (.aload_n 0, 1) := by decide +kernel
theorem dL_law_646 : decode cL_law 646 = .ok (.iload 4, 2) := by decide +kernel
theorem dL_law_648 : decode cL_law 648 = .ok (.iconst 1, 1) := by decide +kernel
theorem dL_law_649 : decode cL_law 649 = .ok (.iadd, 1) := by decide +kernel
theorem dL_law_650 : decode cL_law 650 = .ok (.iaload, 1) := by decide +kernel
theorem dL_law_651 : decode cL_law 651 = .ok (.aload_n 0, 1) := by decide +kernel
theorem dL_law_652 : decode cL_law 652 = .ok (.iload 4, 2) := by decide +kernel
theorem dL_law_654 : decode cL_law 654 = .ok (.iconst 2, 1) := by decide +kernel
theorem dL_law_655 : decode cL_law 655 = .ok (.iadd, 1) := by decide +kernel
theorem dL_law_656 : decode cL_law 656 = .ok (.iaload, 1) := by decide +kernel
theorem dL_law_657 : decode cL_law 657 = .ok (.invokevirtual 87, 3) := by decide +kernel
theorem dL_law_660 : decode cL_law 660 = .ok (.istore 6, 2) := by decide +kernel
theorem dL_law_662 : decode cL_law 662 = .ok (.aload_n 2, 1) := by decide +kernel
theorem dL_law_663 : decode cL_law 663 = .ok (.invokevirtual 88, 3) := by decide +kernel
theorem dL_law_666 : decode cL_law 666 = .ok (.iload 5, 2) := by decide +kernel
theorem dL_law_668 : decode cL_law 668 = .ok (.if_icmp .eq 5, 3) := by decide +kernel
theorem dL_law_673 : decode cL_law 673 = .ok (.iload 5, 2) := by decide +kernel
theorem dL_law_675 : decode cL_law 675 = .ok (.ifCond .ne 15, 3) := by decide +kernel
theorem dL_law_690 : decode cL_law 690 = .ok (.goto 366, 3) := by decide +kernel
theorem dL_law_693 : decode cL_law 693 = .ok (.aload_n 1, 1) := by decide +kernel
theorem dL_law_694 : decode cL_law 694 = .ok (.aload_n 0, 1) := by decide +kernel
theorem dL_law_695 : decode cL_law 695 = .ok (.iload 4, 2) := by decide +kernel
theorem dL_law_697 : decode cL_law 697 = .ok (.iconst 1, 1) := by decide +kernel
theorem dL_law_698 : decode cL_law 698 = .ok (.iadd, 1) := by decide +kernel
theorem dL_law_699 : decode cL_law 699 = .ok (.iaload, 1) := by decide +kernel
theorem dL_law_700 : decode cL_law 700 = .ok (.aload_n 0, 1) := by decide +kernel
theorem dL_law_701 : decode cL_law 701 = .ok (.iload 4, 2) := by decide +kernel
theorem dL_law_703 : decode cL_law 703 = .ok (.iconst 2, 1) := by decide +kernel
theorem dL_law_704 : decode cL_law 704 = .ok (.iadd, 1) := by decide +kernel
theorem dL_law_705 : decode cL_law 705 = .ok (.iaload, 1) := by decide +kernel
theorem dL_law_706 : decode cL_law 706 = .ok (.aload_n 0, 1) := by decide +kernel
theorem dL_law_707 : decode cL_law 707 = .ok (.iload 4, 2) := by decide +kernel
theorem dL_law_709 : decode cL_law 709 = .ok (.iconst 3, 1) := by decide +kernel
theorem dL_law_710 : decode cL_law 710 = .ok (.iadd, 1) := by decide +kernel
theorem dL_law_711 : decode cL_law 711 = .ok (.iaload, 1) := by decide +kernel
theorem dL_law_712 : decode cL_law 712 = .ok (.aload_n 0, 1) := by decide +kernel
theorem dL_law_713 : decode cL_law 713 = .ok (.iload 4, 2) := by decide +kernel
theorem dL_law_715 : decode cL_law 715 = .ok (.iconst 4, 1) := by decide +kernel
theorem dL_law_716 : decode cL_law 716 = .ok (.iadd, 1) := by decide +kernel
theorem dL_law_717 : decode cL_law 717 = .ok (.iaload, 1) := by decide +kernel
theorem dL_law_718 : decode cL_law 718 = .ok (.aload_n 0, 1) := by decide +kernel
theorem dL_law_719 : decode cL_law 719 = .ok (.iload 4, 2) := by decide +kernel
theorem dL_law_721 : decode cL_law 721 = .ok (.iconst 5, 1) := by decide +kernel
theorem dL_law_722 : decode cL_law 722 = .ok (.iadd, 1) := by decide +kernel
theorem dL_law_723 : decode cL_law 723 = .ok (.iaload, 1) := by decide +kernel
theorem dL_law_724 : decode cL_law 724 = .ok (.invokevirtual 91, 3) := by decide +kernel
theorem dL_law_727 : decode cL_law 727 = .ok (.aload_n 2, 1) := by decide +kernel
theorem dL_law_728 : decode cL_law 728 = .ok (.aload_n 0, 1) := by decide +kernel
theorem dL_law_729 : decode cL_law 729 = .ok (.iload 4, 2) := by decide +kernel
theorem dL_law_731 : decode cL_law 731 = .ok (.iconst 1, 1) := by decide +kernel
theorem dL_law_732 : decode cL_law 732 = .ok (.iadd, 1) := by decide +kernel
theorem dL_law_733 : decode cL_law 733 = .ok (.iaload, 1) := by decide +kernel
theorem dL_law_734 : decode cL_law 734 = .ok (.aload_n 0, 1) := by decide +kernel
theorem dL_law_735 : decode cL_law 735 = .ok (.iload 4, 2) := by decide +kernel
theorem dL_law_737 : decode cL_law 737 = .ok (.iconst 2, 1) := by decide +kernel
theorem dL_law_738 : decode cL_law 738 = .ok (.iadd, 1) := by decide +kernel
theorem dL_law_739 : decode cL_law 739 = .ok (.iaload, 1) := by decide +kernel
theorem dL_law_740 : decode cL_law 740 = .ok (.aload_n 0, 1) := by decide +kernel
theorem dL_law_741 : decode cL_law 741 = .ok (.iload 4, 2) := by decide +kernel
theorem dL_law_743 : decode cL_law 743 = .ok (.iconst 3, 1) := by decide +kernel
theorem dL_law_744 : decode cL_law 744 = .ok (.iadd, 1) := by decide +kernel
theorem dL_law_745 : decode cL_law 745 = .ok (.iaload, 1) := by decide +kernel
theorem dL_law_746 : decode cL_law 746 = .ok (.aload_n 0, 1) := by decide +kernel
theorem dL_law_747 : decode cL_law 747 = .ok (.iload 4, 2) := by decide +kernel
theorem dL_law_749 : decode cL_law 749 = .ok (.iconst 4, 1) := by decide +kernel
theorem dL_law_750 : decode cL_law 750 = .ok (.iadd, 1) := by decide +kernel
theorem dL_law_751 : decode cL_law 751 = .ok (.iaload, 1) := by decide +kernel
theorem dL_law_752 : decode cL_law 752 = .ok (.aload_n 0, 1) := by decide +kernel
theorem dL_law_753 : decode cL_law 753 = .ok (.iload 4, 2) := by decide +kernel
theorem dL_law_755 : decode cL_law 755 = .ok (.iconst 5, 1) := by decide +kernel
theorem dL_law_756 : decode cL_law 756 = .ok (.iadd, 1) := by decide +kernel
theorem dL_law_757 : decode cL_law 757 = .ok (.iaload, 1) := by decide +kernel
theorem dL_law_758 : decode cL_law 758 = .ok (.invokevirtual 94, 3) := by decide +kernel
theorem dL_law_761 : decode cL_law 761 = .ok (.if_icmp .eq 295, 3) := by decide +kernel
theorem dL_law_764 : decode cL_law 764 = .ok (.iconst 0, 1) := by decide +kernel
theorem dL_law_765 : decode cL_law 765 = .ok (.ireturn, 1) := by decide +kernel
theorem dL_law_766 : decode cL_law 766 = .ok (.aload_n 1, 1) := by decide +kernel
theorem dL_law_767 : decode cL_law 767 = .ok (.aload_n 0, 1) := by decide +kernel
theorem dL_law_768 : decode cL_law 768 = .ok (.iload 4, 2) := by decide +kernel
theorem dL_law_770 : decode cL_law 770 = .ok (.iconst 1, 1) := by decide +kernel
theorem dL_law_771 : decode cL_law 771 = .ok (.iadd, 1) := by decide +kernel
theorem dL_law_772 : decode cL_law 772 = .ok (.iaload, 1) := by decide +kernel
theorem dL_law_773 : decode cL_law 773 = .ok (.aload_n 0, 1) := by decide +kernel
theorem dL_law_774 : decode cL_law 774 = .ok (.iload 4, 2) := by decide +kernel
theorem dL_law_776 : decode cL_law 776 = .ok (.iconst 2, 1) := by decide +kernel
theorem dL_law_777 : decode cL_law 777 = .ok (.iadd, 1) := by decide +kernel
theorem dL_law_778 : decode cL_law 778 = .ok (.iaload, 1) := by decide +kernel
theorem dL_law_779 : decode cL_law 779 = .ok (.aload_n 0, 1) := by decide +kernel
theorem dL_law_780 : decode cL_law 780 = .ok (.iload 4, 2) := by decide +kernel
theorem dL_law_782 : decode cL_law 782 = .ok (.iconst 3, 1) := by decide +kernel
theorem dL_law_783 : decode cL_law 783 = .ok (.iadd, 1) := by decide +kernel
theorem dL_law_784 : decode cL_law 784 = .ok (.iaload, 1) := by decide +kernel
theorem dL_law_785 : decode cL_law 785 = .ok (.aload_n 0, 1) := by decide +kernel
theorem dL_law_786 : decode cL_law 786 = .ok (.iload 4, 2) := by decide +kernel
theorem dL_law_788 : decode cL_law 788 = .ok (.iconst 4, 1) := by decide +kernel
theorem dL_law_789 : decode cL_law 789 = .ok (.iadd, 1) := by decide +kernel
theorem dL_law_790 : decode cL_law 790 = .ok (.iaload, 1) := by decide +kernel
theorem dL_law_791 : decode cL_law 791 = .ok (.aload_n 0, 1) := by decide +kernel
theorem dL_law_792 : decode cL_law 792 = .ok (.iload 4, 2) := by decide +kernel
theorem dL_law_794 : decode cL_law 794 = .ok (.iconst 5, 1) := by decide +kernel
theorem dL_law_795 : decode cL_law 795 = .ok (.iadd, 1) := by decide +kernel
theorem dL_law_796 : decode cL_law 796 = .ok (.iaload, 1) := by decide +kernel
theorem dL_law_797 : decode cL_law 797 = .ok (.invokevirtual 95, 3) := by decide +kernel
theorem dL_law_800 : decode cL_law 800 = .ok (.aload_n 2, 1) := by decide +kernel
theorem dL_law_801 : decode cL_law 801 = .ok (.aload_n 0, 1) := by decide +kernel
theorem dL_law_802 : decode cL_law 802 = .ok (.iload 4, 2) := by decide +kernel
theorem dL_law_804 : decode cL_law 804 = .ok (.iconst 1, 1) := by decide +kernel
theorem dL_law_805 : decode cL_law 805 = .ok (.iadd, 1) := by decide +kernel
theorem dL_law_806 : decode cL_law 806 = .ok (.iaload, 1) := by decide +kernel
theorem dL_law_807 : decode cL_law 807 = .ok (.aload_n 0, 1) := by decide +kernel
theorem dL_law_808 : decode cL_law 808 = .ok (.iload 4, 2) := by decide +kernel
theorem dL_law_810 : decode cL_law 810 = .ok (.iconst 2, 1) := by decide +kernel
theorem dL_law_811 : decode cL_law 811 = .ok (.iadd, 1) := by decide +kernel
theorem dL_law_812 : decode cL_law 812 = .ok (.iaload, 1) := by decide +kernel
theorem dL_law_813 : decode cL_law 813 = .ok (.aload_n 0, 1) := by decide +kernel
theorem dL_law_814 : decode cL_law 814 = .ok (.iload 4, 2) := by decide +kernel
theorem dL_law_816 : decode cL_law 816 = .ok (.iconst 3, 1) := by decide +kernel
theorem dL_law_817 : decode cL_law 817 = .ok (.iadd, 1) := by decide +kernel
theorem dL_law_818 : decode cL_law 818 = .ok (.iaload, 1) := by decide +kernel
theorem dL_law_819 : decode cL_law 819 = .ok (.aload_n 0, 1) := by decide +kernel
theorem dL_law_820 : decode cL_law 820 = .ok (.iload 4, 2) := by decide +kernel
theorem dL_law_822 : decode cL_law 822 = .ok (.iconst 4, 1) := by decide +kernel
theorem dL_law_823 : decode cL_law 823 = .ok (.iadd, 1) := by decide +kernel
theorem dL_law_824 : decode cL_law 824 = .ok (.iaload, 1) := by decide +kernel
theorem dL_law_825 : decode cL_law 825 = .ok (.aload_n 0, 1) := by decide +kernel
theorem dL_law_826 : decode cL_law 826 = .ok (.iload 4, 2) := by decide +kernel
theorem dL_law_828 : decode cL_law 828 = .ok (.iconst 5, 1) := by decide +kernel
theorem dL_law_829 : decode cL_law 829 = .ok (.iadd, 1) := by decide +kernel
theorem dL_law_830 : decode cL_law 830 = .ok (.iaload, 1) := by decide +kernel
theorem dL_law_831 : decode cL_law 831 = .ok (.invokevirtual 99, 3) := by decide +kernel
theorem dL_law_834 : decode cL_law 834 = .ok (.if_icmp .eq 222, 3) := by decide +kernel
theorem dL_law_839 : decode cL_law 839 = .ok (.aload_n 1, 1) := by decide +kernel
theorem dL_law_840 : decode cL_law 840 = .ok (.aload_n 0, 1) := by decide +kernel
theorem dL_law_841 : decode cL_law 841 = .ok (.iload 4, 2) := by decide +kernel
theorem dL_law_843 : decode cL_law 843 = .ok (.iconst 1, 1) := by decide +kernel
theorem dL_law_844 : decode cL_law 844 = .ok (.iadd, 1) := by decide +kernel
theorem dL_law_845 : decode cL_law 845 = .ok (.iaload, 1) := by decide +kernel
theorem dL_law_846 : decode cL_law 846 = .ok (.invokevirtual 100, 3) := by decide +kernel
theorem dL_law_849 : decode cL_law 849 = .ok (.aload_n 2, 1) := by decide +kernel
theorem dL_law_850 : decode cL_law 850 = .ok (.aload_n 0, 1) := by decide +kernel
theorem dL_law_851 : decode cL_law 851 = .ok (.iload 4, 2) := by decide +kernel
theorem dL_law_853 : decode cL_law 853 = .ok (.iconst 1, 1) := by decide +kernel
theorem dL_law_854 : decode cL_law 854 = .ok (.iadd, 1) := by decide +kernel
theorem dL_law_855 : decode cL_law 855 = .ok (.iaload, 1) := by decide +kernel
theorem dL_law_856 : decode cL_law 856 = .ok (.invokevirtual 103, 3) := by decide +kernel
theorem dL_law_859 : decode cL_law 859 = .ok (.if_icmp .eq 197, 3) := by decide +kernel
theorem dL_law_864 : decode cL_law 864 = .ok (.aload_n 1, 1) := by decide +kernel
theorem dL_law_865 : decode cL_law 865 = .ok (.aload_n 0, 1) := by decide +kernel
theorem dL_law_866 : decode cL_law 866 = .ok (.iload 4, 2) := by decide +kernel
theorem dL_law_868 : decode cL_law 868 = .ok (.iconst 1, 1) := by decide +kernel
theorem dL_law_869 : decode cL_law 869 = .ok (.iadd, 1) := by decide +kernel
theorem dL_law_870 : decode cL_law 870 = .ok (.iaload, 1) := by decide +kernel
theorem dL_law_871 : decode cL_law 871 = .ok (.aload_n 0, 1) := by decide +kernel
theorem dL_law_872 : decode cL_law 872 = .ok (.iload 4, 2) := by decide +kernel
theorem dL_law_874 : decode cL_law 874 = .ok (.iconst 2, 1) := by decide +kernel
theorem dL_law_875 : decode cL_law 875 = .ok (.iadd, 1) := by decide +kernel
theorem dL_law_876 : decode cL_law 876 = .ok (.iaload, 1) := by decide +kernel
theorem dL_law_877 : decode cL_law 877 = .ok (.aload_n 0, 1) := by decide +kernel
theorem dL_law_878 : decode cL_law 878 = .ok (.iload 4, 2) := by decide +kernel
theorem dL_law_880 : decode cL_law 880 = .ok (.iconst 3, 1) := by decide +kernel
theorem dL_law_881 : decode cL_law 881 = .ok (.iadd, 1) := by decide +kernel
theorem dL_law_882 : decode cL_law 882 = .ok (.iaload, 1) := by decide +kernel
theorem dL_law_883 : decode cL_law 883 = .ok (.invokevirtual 104, 3) := by decide +kernel
theorem dL_law_886 : decode cL_law 886 = .ok (.aload_n 2, 1) := by decide +kernel
theorem dL_law_887 : decode cL_law 887 = .ok (.aload_n 0, 1) := by decide +kernel
theorem dL_law_888 : decode cL_law 888 = .ok (.iload 4, 2) := by decide +kernel
theorem dL_law_890 : decode cL_law 890 = .ok (.iconst 1, 1) := by decide +kernel
theorem dL_law_891 : decode cL_law 891 = .ok (.iadd, 1) := by decide +kernel
theorem dL_law_892 : decode cL_law 892 = .ok (.iaload, 1) := by decide +kernel
theorem dL_law_893 : decode cL_law 893 = .ok (.aload_n 0, 1) := by decide +kernel
theorem dL_law_894 : decode cL_law 894 = .ok (.iload 4, 2) := by decide +kernel
theorem dL_law_896 : decode cL_law 896 = .ok (.iconst 2, 1) := by decide +kernel
theorem dL_law_897 : decode cL_law 897 = .ok (.iadd, 1) := by decide +kernel
theorem dL_law_898 : decode cL_law 898 = .ok (.iaload, 1) := by decide +kernel
theorem dL_law_899 : decode cL_law 899 = .ok (.aload_n 0, 1) := by decide +kernel
theorem dL_law_900 : decode cL_law 900 = .ok (.iload 4, 2) := by decide +kernel
theorem dL_law_902 : decode cL_law 902 = .ok (.iconst 3, 1) := by decide +kernel
theorem dL_law_903 : decode cL_law 903 = .ok (.iadd, 1) := by decide +kernel
theorem dL_law_904 : decode cL_law 904 = .ok (.iaload, 1) := by decide +kernel
theorem dL_law_905 : decode cL_law 905 = .ok (.invokevirtual 108, 3) := by decide +kernel
theorem dL_law_908 : decode cL_law 908 = .ok (.if_icmp .eq 148, 3) := by decide +kernel
theorem dL_law_911 : decode cL_law 911 = .ok (.iconst 0, 1) := by decide +kernel
theorem dL_law_912 : decode cL_law 912 = .ok (.ireturn, 1) := by decide +kernel
theorem dL_law_913 : decode cL_law 913 = .ok (.aload_n 1, 1) := by decide +kernel
theorem dL_law_914 : decode cL_law 914 = .ok (.aload_n 0, 1) := by decide +kernel
theorem dL_law_915 : decode cL_law 915 = .ok (.iload 4, 2) := by decide +kernel
theorem dL_law_917 : decode cL_law 917 = .ok (.iconst 1, 1) := by decide +kernel
theorem dL_law_918 : decode cL_law 918 = .ok (.iadd, 1) := by decide +kernel
theorem dL_law_919 : decode cL_law 919 = .ok (.iaload, 1) := by decide +kernel
theorem dL_law_920 : decode cL_law 920 = .ok (.aload_n 0, 1) := by decide +kernel
theorem dL_law_921 : decode cL_law 921 = .ok (.iload 4, 2) := by decide +kernel
theorem dL_law_923 : decode cL_law 923 = .ok (.iconst 2, 1) := by decide +kernel
theorem dL_law_924 : decode cL_law 924 = .ok (.iadd, 1) := by decide +kernel
theorem dL_law_925 : decode cL_law 925 = .ok (.iaload, 1) := by decide +kernel
theorem dL_law_926 : decode cL_law 926 = .ok (.aload_n 3, 1) := by decide +kernel
theorem dL_law_927 : decode cL_law 927 = .ok (.invokestatic 109, 3) := by decide +kernel
theorem dL_law_930 : decode cL_law 930 = .ok (.istore 5, 2) := by decide +kernel
theorem dL_law_932 : decode cL_law 932 = .ok (.aload_n 2, 1) := by decide +kernel
theorem dL_law_933 : decode cL_law 933 = .ok (.aload_n 0, 1) := by decide +kernel
theorem dL_law_934 : decode cL_law 934 = .ok (.iload 4, 2) := by decide +kernel
theorem dL_law_936 : decode cL_law 936 = .ok (.iconst 1, 1) := by decide +kernel
theorem dL_law_937 : decode cL_law 937 = .ok (.iadd, 1) := by decide +kernel
theorem dL_law_938 : decode cL_law 938 = .ok (.iaload, 1) := by decide +kernel
theorem dL_law_939 : decode cL_law 939 = .ok (.aload_n 0, 1) := by decide +kernel
theorem dL_law_940 : decode cL_law 940 = .ok (.iload 4, 2) := by decide +kernel
theorem dL_law_942 : decode cL_law 942 = .ok (.iconst 2, 1) := by decide +kernel
theorem dL_law_943 : decode cL_law 943 = .ok (.iadd, 1) := by decide +kernel
theorem dL_law_944 : decode cL_law 944 = .ok (.iaload, 1) := by decide +kernel
theorem dL_law_945 : decode cL_law 945 = .ok (.invokevirtual 111, 3) := by decide +kernel
theorem dL_law_948 : decode cL_law 948 = .ok (.istore 6, 2) := by decide +kernel
theorem dL_law_950 : decode cL_law 950 = .ok (.aload_n 2, 1) := by decide +kernel
theorem dL_law_951 : decode cL_law 951 = .ok (.invokevirtual 88, 3) := by decide +kernel
theorem dL_law_954 : decode cL_law 954 = .ok (.iload 5, 2) := by decide +kernel
theorem dL_law_956 : decode cL_law 956 = .ok (.if_icmp .eq 5, 3) := by decide +kernel
theorem dL_law_959 : decode cL_law 959 = .ok (.iconst 0, 1) := by decide +kernel
theorem dL_law_960 : decode cL_law 960 = .ok (.ireturn, 1) := by decide +kernel
theorem dL_law_961 : decode cL_law 961 = .ok (.iload 5, 2) := by decide +kernel
theorem dL_law_963 : decode cL_law 963 = .ok (.ifCond .ne 15, 3) := by decide +kernel
theorem dL_law_966 : decode cL_law 966 = .ok (.aload_n 3, 1) := by decide +kernel
theorem dL_law_967 : decode cL_law 967 = .ok (.iconst 0, 1) := by decide +kernel
theorem dL_law_968 : decode cL_law 968 = .ok (.laload, 1) := by decide +kernel
theorem dL_law_969 : decode cL_law 969 = .ok (.iload 6, 2) := by decide +kernel
theorem dL_law_971 : decode cL_law 971 = .ok (.i2l, 1) := by decide +kernel
theorem dL_law_972 : decode cL_law 972 = .ok (.lcmp, 1) := by decide +kernel
theorem dL_law_973 : decode cL_law 973 = .ok (.ifCond .eq 5, 3) := by decide +kernel
theorem dL_law_976 : decode cL_law 976 = .ok (.iconst 0, 1) := by decide +kernel
theorem dL_law_977 : decode cL_law 977 = .ok (.ireturn, 1) := by decide +kernel
theorem dL_law_978 : decode cL_law 978 = .ok (.goto 78, 3) := by decide +kernel
theorem dL_law_981 : decode cL_law 981 = .ok (.aload_n 1, 1) := by decide +kernel
theorem dL_law_982 : decode cL_law 982 = .ok (.aload_n 0, 1) := by decide +kernel
theorem dL_law_983 : decode cL_law 983 = .ok (.iload 4, 2) := by decide +kernel
theorem dL_law_985 : decode cL_law 985 = .ok (.iconst 1, 1) := by decide +kernel
theorem dL_law_986 : decode cL_law 986 = .ok (.iadd, 1) := by decide +kernel
theorem dL_law_987 : decode cL_law 987 = .ok (.iaload, 1) := by decide +kernel
theorem dL_law_988 : decode cL_law 988 = .ok (.aload_n 0, 1) := by decide +kernel
theorem dL_law_989 : decode cL_law 989 = .ok (.iload 4, 2) := by decide +kernel
theorem dL_law_991 : decode cL_law 991 = .ok (.iconst 2, 1) := by decide +kernel
theorem dL_law_992 : decode cL_law 992 = .ok (.iadd, 1) := by decide +kernel
theorem dL_law_993 : decode cL_law 993 = .ok (.iaload, 1) := by decide +kernel
theorem dL_law_994 : decode cL_law 994 = .ok (.invokevirtual 112, 3) := by decide +kernel
theorem dL_law_997 : decode cL_law 997 = .ok (.aload_n 2, 1) := by decide +kernel
theorem dL_law_998 : decode cL_law 998 = .ok (.aload_n 0, 1) := by decide +kernel
theorem dL_law_999 : decode cL_law 999 = .ok (.iload 4, 2) := by decide +kernel
theorem dL_law_1001 : decode cL_law 1001 = .ok (.iconst 1, 1) := by decide +kernel
theorem dL_law_1002 : decode cL_law 1002 = .ok (.iadd, 1) := by decide +kernel
theorem dL_law_1003 : decode cL_law 1003 = .ok (.iaload, 1) := by decide +kernel
theorem dL_law_1004 : decode cL_law 1004 = .ok (.aload_n 0, 1) := by decide +kernel
theorem dL_law_1005 : decode cL_law 1005 = .ok (.iload 4, 2) := by decide +kernel
theorem dL_law_1007 : decode cL_law 1007 = .ok (.iconst 2, 1) := by decide +kernel
theorem dL_law_1008 : decode cL_law 1008 = .ok (.iadd, 1) := by decide +kernel
theorem dL_law_1009 : decode cL_law 1009 = .ok (.iaload, 1) := by decide +kernel
theorem dL_law_1010 : decode cL_law 1010 = .ok (.invokevirtual 115, 3) := by decide +kernel
theorem dL_law_1013 : decode cL_law 1013 = .ok (.if_icmp .eq 43, 3) := by decide +kernel
theorem dL_law_1018 : decode cL_law 1018 = .ok (.aload_n 1, 1) := by decide +kernel
theorem dL_law_1019 : decode cL_law 1019 = .ok (.invokevirtual 116, 3) := by decide +kernel
theorem dL_law_1022 : decode cL_law 1022 = .ok (.aload_n 2, 1) := by decide +kernel
theorem dL_law_1023 : decode cL_law 1023 = .ok (.invokevirtual 119, 3) := by decide +kernel
theorem dL_law_1026 : decode cL_law 1026 = .ok (.if_icmp .eq 30, 3) := by decide +kernel
theorem dL_law_1031 : decode cL_law 1031 = .ok (.aload_n 1, 1) := by decide +kernel
theorem dL_law_1032 : decode cL_law 1032 = .ok (.aload_n 0, 1) := by decide +kernel
theorem dL_law_1033 : decode cL_law 1033 = .ok (.iload 4, 2) := by decide +kernel
theorem dL_law_1035 : decode cL_law 1035 = .ok (.iconst 1, 1) := by decide +kernel
theorem dL_law_1036 : decode cL_law 1036 = .ok (.iadd, 1) := by decide +kernel
theorem dL_law_1037 : decode cL_law 1037 = .ok (.iaload, 1) := by decide +kernel
theorem dL_law_1038 : decode cL_law 1038 = .ok (.invokevirtual 120, 3) := by decide +kernel
theorem dL_law_1041 : decode cL_law 1041 = .ok (.aload_n 2, 1) := by decide +kernel
theorem dL_law_1042 : decode cL_law 1042 = .ok (.aload_n 0, 1) := by decide +kernel
theorem dL_law_1043 : decode cL_law 1043 = .ok (.iload 4, 2) := by decide +kernel
theorem dL_law_1045 : decode cL_law 1045 = .ok (.iconst 1, 1) := by decide +kernel
theorem dL_law_1046 : decode cL_law 1046 = .ok (.iadd, 1) := by decide +kernel
theorem dL_law_1047 : decode cL_law 1047 = .ok (.iaload, 1) := by decide +kernel
theorem dL_law_1048 : decode cL_law 1048 = .ok (.invokevirtual 124, 3) := by decide +kernel
theorem dL_law_1051 : decode cL_law 1051 = .ok (.if_icmp .eq 5, 3) := by decide +kernel
theorem dL_law_1054 : decode cL_law 1054 = .ok (.iconst 0, 1) := by decide +kernel
theorem dL_law_1055 : decode cL_law 1055 = .ok (.ireturn, 1) := by decide +kernel
theorem dL_law_1056 : decode cL_law 1056 = .ok (.iinc 4 6, 3) := by decide +kernel
theorem dL_law_1059 : decode cL_law 1059 = .ok (.goto (-1036), 3) := by decide +kernel
theorem dL_law_1062 : decode cL_law 1062 = .ok (.iconst 1, 1) := by decide +kernel
theorem dL_law_1063 : decode cL_law 1063 = .ok (.ireturn, 1) := by decide +kernel
section GZW
theorem gz_cwSW {R : Room} {s : State} {args : Array Value} {own : String} {index maxL n : Nat} {y : MethodName} {bytes : ByteArray} {ret : Option FieldType} {hh : List (Nat × Nat × Nat × Nat)} {rm : Room} (hts : ∀ w ∈ gz_T, w.before args s = true) (m1 : Cond.methodLink own index y ∈ gz_T) (m2 : Cond.static y ∈ gz_T) (m3 : Cond.initialized y.cls ∈ gz_T) (m5 : Cond.codeWith y bytes maxL ret hh ∈ gz_T)
    (hd : y.cls ≠ "java/lang/invoke/MethodHandle" ∧ y.cls ≠ "java/lang/invoke/VarHandle" ∧ (parseMethodDescriptor y.desc).map (fun d => d.parameters.length) = some n) (hR : rm.frames + 1 ≤ R.frames ∧ 8 + (maxL + 11) + rm.locals ≤ R.locals) :
    vx_CSW R s args own index y bytes maxL ret hh (Cond.codeWith y bytes maxL ret hh :: gz_T) rm rm.cells rm.slots n := by
  refine vx_cwSW n hts (fun w hw => ?_) rfl rfl rfl hd hR
  have hm : w ∈ gz_T := by
    unfold va_wsS at hw
    rcases List.mem_append.mp hw with h | h
    · simp only [List.mem_cons, List.not_mem_nil, or_false] at h
      rcases h with rfl | rfl | rfl <;> assumption
    · rcases List.mem_cons.mp h with rfl | h
      · exact m5
      · exact h
  exact ⟨hm, good_of_word (List.mem_filter.mp hm).2⟩
end GZW
set_option maxHeartbeats 4000000 in
set_option maxRecDepth 100000 in
/-- behind the one call: the loop ends, true -/
theorem law_end {p : Program} {e : Env} {s : State} {m : MethodId} {below : List Frame} {meth : Method} {c : Code} (l : Launch) (hlt : l.stackTraces = false) {b : Nat} {xs : Nat → Int32} (C0 : lw_At p s m meth c b 6 xs) (G : va_G) (cy : Nat → ClassId) (hK : va_K G vwCl (gzK cy) s) (hov : gOv s) (A : Nat → Prop) (hA : ∀ q, s.heap.size ≤ q → A q) (hAn : ∀ q, A q → s.heap.size ≤ q) (hth : gTh A s s.heap) {q0 q1 q2 cells slots : Nat} (hcl : cells ≤ 600002) (hsl : slots ≤ 7302232) (H : Heap) (locs : List Loc) (ls : Array Slot) (hS : va_S A s.heap H locs) (hl : lv_has ls 7 [(4, .int 0), (0, .ref b)]) : W p l e room_1 s m #[Value.ref b] below meth c H locs cells slots (lw_Z below #[Value.ref b] s) (F0 m 1056 ls []) := by
  obtain ⟨hx, hb, hr, hml, hown, hts0, hX, hbl, hlocks, hgv⟩ := id C0
  have hts : ∀ w ∈ gz_T, w.before #[Value.ref b] s = true := fun w h => hts0 w (List.mem_filter.mp h).1
  have hown : s.vm.findClass RL = some m.cls := hown
  have hbA : ¬ A b := fun q => Nat.not_le.mpr hbl (hAn b q)
  refine lv_iinc (v := 6) (lv' := [(4, .int 6), (0, .ref b)]) hx hb dL_law_1056 hl (k := 0) rfl (by decide) (by decide) rfl (fun ls hl => ?_)
  refine lv_goto (tgt := 23) hx hb dL_law_1059 (by decide) ?_
  refine lv_iload hx hb dL_law_23 (lv_at hl 0 rfl) ?_
  refine lv_aload_n hx hb dL_law_25 rfl (lv_at hl 1 rfl) ?_
  refine va_slen hx hb hX hbl hbA hS dL_law_26 ?_
  refine lv_bipush (v := 6) hx hb dL_law_27 (by decide) ?_
  refine lv_isub hx hb dL_law_29 ?_
  refine lv_icmp_gt (tgt := 1062) hx hb dL_law_30 (by decide) (fun _ => ?_) (fun h9 => absurd (by decide) h9)
  refine lv_iconst (v := 1) hx hb dL_law_1062 (by decide) ?_
  refine va_forget (fun q hq => hAn _ (hS.2.2 q hq)) ?_
  refine W.widen (k := 600002) (n := 7302232) hcl hsl ?_
  exact lw_ret hx hb hr hlocks dL_law_1063

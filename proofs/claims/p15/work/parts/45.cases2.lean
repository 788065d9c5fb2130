theorem gm_0 : (Jvm.Cond.initialized "WellCourtLaw") ∈ gz_T := gz_at 0 (by decide +kernel) rfl
theorem gm_659 : (Jvm.Cond.methodLink "WellCourtLaw" (78 : Nat) ({ cls := "WellCourt", name := "report", desc := "(I)Z" } : Jvm.MethodName)) ∈ gz_T := gz_at 659 (by decide +kernel) rfl
theorem gm_660 : (Jvm.Cond.instanceMethod ({ cls := "WellCourt", name := "report", desc := "(I)Z" } : Jvm.MethodName)) ∈ gz_T := gz_at 660 (by decide +kernel) rfl
theorem gm_661 : (Jvm.Cond.selects "WellCourt" ({ cls := "WellCourt", name := "report", desc := "(I)Z" } : Jvm.MethodName) ({ cls := "WellCourt", name := "report", desc := "(I)Z" } : Jvm.MethodName)) ∈ gz_T := gz_at 661 (by decide +kernel) rfl
theorem gm_662 : (Jvm.Cond.code ({ cls := "WellCourt", name := "report", desc := "(I)Z" } : Jvm.MethodName) prog_1_method_14_code (2 : Nat) (Option.some Jvm.ClassFile.FieldType.boolean)) ∈ gz_T := gz_at 662 (by decide +kernel) rfl
theorem gm_667 : (Jvm.Cond.methodLink "WellCourtLaw" (91 : Nat) ({ cls := "WellCourt", name := "judge", desc := "(IIIII)I" } : Jvm.MethodName)) ∈ gz_T := gz_at 667 (by decide +kernel) rfl
theorem gm_668 : (Jvm.Cond.instanceMethod ({ cls := "WellCourt", name := "judge", desc := "(IIIII)I" } : Jvm.MethodName)) ∈ gz_T := gz_at 668 (by decide +kernel) rfl
theorem gm_669 : (Jvm.Cond.selects "WellCourt" ({ cls := "WellCourt", name := "judge", desc := "(IIIII)I" } : Jvm.MethodName) ({ cls := "WellCourt", name := "judge", desc := "(IIIII)I" } : Jvm.MethodName)) ∈ gz_T := gz_at 669 (by decide +kernel) rfl
theorem gm_670 : (Jvm.Cond.code ({ cls := "WellCourt", name := "judge", desc := "(IIIII)I" } : Jvm.MethodName) prog_1_method_16_code (6 : Nat) (Option.some Jvm.ClassFile.FieldType.int)) ∈ gz_T := gz_at 670 (by decide +kernel) rfl
theorem gm_689 : (Jvm.Cond.methodLink "WellCourtLaw" (95 : Nat) ({ cls := "WellCourt", name := "herd", desc := "(IIIII)Z" } : Jvm.MethodName)) ∈ gz_T := gz_at 689 (by decide +kernel) rfl
theorem gm_690 : (Jvm.Cond.instanceMethod ({ cls := "WellCourt", name := "herd", desc := "(IIIII)Z" } : Jvm.MethodName)) ∈ gz_T := gz_at 690 (by decide +kernel) rfl
theorem gm_691 : (Jvm.Cond.selects "WellCourt" ({ cls := "WellCourt", name := "herd", desc := "(IIIII)Z" } : Jvm.MethodName) ({ cls := "WellCourt", name := "herd", desc := "(IIIII)Z" } : Jvm.MethodName)) ∈ gz_T := gz_at 691 (by decide +kernel) rfl
theorem gm_692 : (Jvm.Cond.code ({ cls := "WellCourt", name := "herd", desc := "(IIIII)Z" } : Jvm.MethodName) prog_1_method_17_code (6 : Nat) (Option.some Jvm.ClassFile.FieldType.boolean)) ∈ gz_T := gz_at 692 (by decide +kernel) rfl
theorem gm_700 : (Jvm.Cond.methodLink "WellCourtLaw" (100 : Nat) ({ cls := "WellCourt", name := "drop", desc := "(I)Z" } : Jvm.MethodName)) ∈ gz_T := gz_at 700 (by decide +kernel) rfl
theorem gm_701 : (Jvm.Cond.instanceMethod ({ cls := "WellCourt", name := "drop", desc := "(I)Z" } : Jvm.MethodName)) ∈ gz_T := gz_at 701 (by decide +kernel) rfl
theorem gm_702 : (Jvm.Cond.selects "WellCourt" ({ cls := "WellCourt", name := "drop", desc := "(I)Z" } : Jvm.MethodName) ({ cls := "WellCourt", name := "drop", desc := "(I)Z" } : Jvm.MethodName)) ∈ gz_T := gz_at 702 (by decide +kernel) rfl
theorem gm_703 : (Jvm.Cond.code ({ cls := "WellCourt", name := "drop", desc := "(I)Z" } : Jvm.MethodName) prog_1_method_18_code (2 : Nat) (Option.some Jvm.ClassFile.FieldType.boolean)) ∈ gz_T := gz_at 703 (by decide +kernel) rfl
theorem gm_739 : (Jvm.Cond.methodLink "WellCourtLaw" (82 : Nat) ({ cls := "WellCourtLaw", name := "drawn", desc := "(LWellCourt;II[J)I" } : Jvm.MethodName)) ∈ gz_T := gz_at 739 (by decide +kernel) rfl
theorem gm_740 : (Jvm.Cond.static ({ cls := "WellCourtLaw", name := "drawn", desc := "(LWellCourt;II[J)I" } : Jvm.MethodName)) ∈ gz_T := gz_at 740 (by decide +kernel) rfl
theorem gm_741 : (Jvm.Cond.codeWith ({ cls := "WellCourtLaw", name := "drawn", desc := "(LWellCourt;II[J)I" } : Jvm.MethodName) method_3_code (5 : Nat) (Option.some Jvm.ClassFile.FieldType.int) [((0 : Nat), (10 : Nat), (13 : Nat), (13 : Nat))]) ∈ gz_T := gz_at 741 (by decide +kernel) rfl
theorem gm_891 : (Jvm.Cond.methodLink "WellCourtLaw" (88 : Nat) ({ cls := "WellCourtModel", name := "thrown", desc := "()I" } : Jvm.MethodName)) ∈ gz_T := gz_at 891 (by decide +kernel) rfl
theorem gm_892 : (Jvm.Cond.instanceMethod ({ cls := "WellCourtModel", name := "thrown", desc := "()I" } : Jvm.MethodName)) ∈ gz_T := gz_at 892 (by decide +kernel) rfl
theorem gm_893 : (Jvm.Cond.selects "WellCourtModel" ({ cls := "WellCourtModel", name := "thrown", desc := "()I" } : Jvm.MethodName) ({ cls := "WellCourtModel", name := "thrown", desc := "()I" } : Jvm.MethodName)) ∈ gz_T := gz_at 893 (by decide +kernel) rfl
theorem gm_894 : (Jvm.Cond.code ({ cls := "WellCourtModel", name := "thrown", desc := "()I" } : Jvm.MethodName) prog_12_method_1_code (1 : Nat) (Option.some Jvm.ClassFile.FieldType.int)) ∈ gz_T := gz_at 894 (by decide +kernel) rfl
theorem gm_1248 : (Jvm.Cond.methodLink "WellCourtLaw" (81 : Nat) ({ cls := "WellCourtModel", name := "report", desc := "(I)Z" } : Jvm.MethodName)) ∈ gz_T := gz_at 1248 (by decide +kernel) rfl
theorem gm_1249 : (Jvm.Cond.instanceMethod ({ cls := "WellCourtModel", name := "report", desc := "(I)Z" } : Jvm.MethodName)) ∈ gz_T := gz_at 1249 (by decide +kernel) rfl
theorem gm_1250 : (Jvm.Cond.selects "WellCourtModel" ({ cls := "WellCourtModel", name := "report", desc := "(I)Z" } : Jvm.MethodName) ({ cls := "WellCourtModel", name := "report", desc := "(I)Z" } : Jvm.MethodName)) ∈ gz_T := gz_at 1250 (by decide +kernel) rfl
theorem gm_1251 : (Jvm.Cond.code ({ cls := "WellCourtModel", name := "report", desc := "(I)Z" } : Jvm.MethodName) prog_12_method_43_code (2 : Nat) (Option.some Jvm.ClassFile.FieldType.boolean)) ∈ gz_T := gz_at 1251 (by decide +kernel) rfl
theorem gm_1252 : (Jvm.Cond.methodLink "WellCourtLaw" (87 : Nat) ({ cls := "WellCourtModel", name := "drawn", desc := "(II)I" } : Jvm.MethodName)) ∈ gz_T := gz_at 1252 (by decide +kernel) rfl
theorem gm_1253 : (Jvm.Cond.instanceMethod ({ cls := "WellCourtModel", name := "drawn", desc := "(II)I" } : Jvm.MethodName)) ∈ gz_T := gz_at 1253 (by decide +kernel) rfl
theorem gm_1254 : (Jvm.Cond.selects "WellCourtModel" ({ cls := "WellCourtModel", name := "drawn", desc := "(II)I" } : Jvm.MethodName) ({ cls := "WellCourtModel", name := "drawn", desc := "(II)I" } : Jvm.MethodName)) ∈ gz_T := gz_at 1254 (by decide +kernel) rfl
theorem gm_1255 : (Jvm.Cond.code ({ cls := "WellCourtModel", name := "drawn", desc := "(II)I" } : Jvm.MethodName) prog_12_method_44_code (3 : Nat) (Option.some Jvm.ClassFile.FieldType.int)) ∈ gz_T := gz_at 1255 (by decide +kernel) rfl
theorem gm_1256 : (Jvm.Cond.methodLink "WellCourtLaw" (94 : Nat) ({ cls := "WellCourtModel", name := "judge", desc := "(IIIII)I" } : Jvm.MethodName)) ∈ gz_T := gz_at 1256 (by decide +kernel) rfl
theorem gm_1257 : (Jvm.Cond.instanceMethod ({ cls := "WellCourtModel", name := "judge", desc := "(IIIII)I" } : Jvm.MethodName)) ∈ gz_T := gz_at 1257 (by decide +kernel) rfl
theorem gm_1258 : (Jvm.Cond.selects "WellCourtModel" ({ cls := "WellCourtModel", name := "judge", desc := "(IIIII)I" } : Jvm.MethodName) ({ cls := "WellCourtModel", name := "judge", desc := "(IIIII)I" } : Jvm.MethodName)) ∈ gz_T := gz_at 1258 (by decide +kernel) rfl
theorem gm_1259 : (Jvm.Cond.code ({ cls := "WellCourtModel", name := "judge", desc := "(IIIII)I" } : Jvm.MethodName) prog_12_method_45_code (12 : Nat) (Option.some Jvm.ClassFile.FieldType.int)) ∈ gz_T := gz_at 1259 (by decide +kernel) rfl
theorem gm_1260 : (Jvm.Cond.methodLink "WellCourtLaw" (99 : Nat) ({ cls := "WellCourtModel", name := "herd", desc := "(IIIII)Z" } : Jvm.MethodName)) ∈ gz_T := gz_at 1260 (by decide +kernel) rfl
theorem gm_1261 : (Jvm.Cond.instanceMethod ({ cls := "WellCourtModel", name := "herd", desc := "(IIIII)Z" } : Jvm.MethodName)) ∈ gz_T := gz_at 1261 (by decide +kernel) rfl
theorem gm_1262 : (Jvm.Cond.selects "WellCourtModel" ({ cls := "WellCourtModel", name := "herd", desc := "(IIIII)Z" } : Jvm.MethodName) ({ cls := "WellCourtModel", name := "herd", desc := "(IIIII)Z" } : Jvm.MethodName)) ∈ gz_T := gz_at 1262 (by decide +kernel) rfl
theorem gm_1263 : (Jvm.Cond.code ({ cls := "WellCourtModel", name := "herd", desc := "(IIIII)Z" } : Jvm.MethodName) prog_12_method_46_code (6 : Nat) (Option.some Jvm.ClassFile.FieldType.boolean)) ∈ gz_T := gz_at 1263 (by decide +kernel) rfl
theorem gm_1264 : (Jvm.Cond.methodLink "WellCourtLaw" (103 : Nat) ({ cls := "WellCourtModel", name := "drop", desc := "(I)Z" } : Jvm.MethodName)) ∈ gz_T := gz_at 1264 (by decide +kernel) rfl
theorem gm_1265 : (Jvm.Cond.instanceMethod ({ cls := "WellCourtModel", name := "drop", desc := "(I)Z" } : Jvm.MethodName)) ∈ gz_T := gz_at 1265 (by decide +kernel) rfl
theorem gm_1266 : (Jvm.Cond.selects "WellCourtModel" ({ cls := "WellCourtModel", name := "drop", desc := "(I)Z" } : Jvm.MethodName) ({ cls := "WellCourtModel", name := "drop", desc := "(I)Z" } : Jvm.MethodName)) ∈ gz_T := gz_at 1266 (by decide +kernel) rfl
theorem gm_1267 : (Jvm.Cond.code ({ cls := "WellCourtModel", name := "drop", desc := "(I)Z" } : Jvm.MethodName) prog_12_method_47_code (2 : Nat) (Option.some Jvm.ClassFile.FieldType.boolean)) ∈ gz_T := gz_at 1267 (by decide +kernel) rfl
theorem dL_law_600 : decode cL_law 600 = .ok (.aload_n 1, 1) := by decide +kernel
theorem dL_law_601 : decode cL_law 601 = .ok (.aload_n 0, 1) := by decide +kernel
theorem dL_law_602 : decode cL_law 602 = .ok (.iload 4, 2) := by decide +kernel
theorem dL_law_604 : decode cL_law 604 = .ok (.iconst 1, 1) := by decide +kernel
theorem dL_law_605 : decode cL_law 605 = .ok (.iadd, 1) := by decide +kernel
theorem dL_law_606 : decode cL_law 606 = .ok (.iaload, 1) := by decide +kernel
theorem dL_law_607 : decode cL_law 607 = .ok (.invokevirtual 78, 3) := by decide +kernel
theorem dL_law_610 : decode cL_law 610 = .ok (.pop, 1) := by decide +kernel
theorem dL_law_611 : decode cL_law 611 = .ok (.aload_n 2, 1) := by decide +kernel
theorem dL_law_612 : decode cL_law 612 = .ok (.aload_n 0, 1) := by decide +kernel
theorem dL_law_613 : decode cL_law 613 = .ok (.iload 4, 2) := by decide +kernel
theorem dL_law_615 : decode cL_law 615 = .ok (.iconst 1, 1) := by decide +kernel
theorem dL_law_616 : decode cL_law 616 = .ok (.iadd, 1) := by decide +kernel
theorem dL_law_617 : decode cL_law 617 = .ok (.iaload, 1) := by decide +kernel
theorem dL_law_618 : decode cL_law 618 = .ok (.invokevirtual 81, 3) := by decide +kernel
theorem dL_law_621 : decode cL_law 621 = .ok (.pop, 1) := by decide +kernel
theorem dL_law_622 : decode cL_law 622 = .ok (.goto 406, 3) := by decide +kernel
theorem dL_law_625 : decode cL_law 625 = .ok (.aload_n 1, 1) := by decide +kernel
theorem dL_law_626 : decode cL_law 626 = .ok (.aload_n 0, 1) := by decide +kernel
theorem dL_law_627 : decode cL_law 627 = .ok (.iload 4, 2) := by decide +kernel
theorem dL_law_629 : decode cL_law 629 = .ok (.iconst 1, 1) := by decide +kernel
theorem dL_law_630 : decode cL_law 630 = .ok (.iadd, 1) := by decide +kernel
theorem dL_law_631 : decode cL_law 631 = .ok (.iaload, 1) := by decide +kernel
theorem dL_law_632 : decode cL_law 632 = .ok (.aload_n 0, 1) := by decide +kernel
theorem dL_law_633 : decode cL_law 633 = .ok (.iload 4, 2) := by decide +kernel
theorem dL_law_635 : decode cL_law 635 = .ok (.iconst 2, 1) := by decide +kernel
theorem dL_law_636 : decode cL_law 636 = .ok (.iadd, 1) := by decide +kernel
theorem dL_law_637 : decode cL_law 637 = .ok (.iaload, 1) := by decide +kernel
theorem dL_law_638 : decode cL_law 638 = .ok (.aload_n 3, 1) := by decide +kernel
theorem dL_law_639 : decode cL_law 639 = .ok (.invokestatic 82, 3) := by decide +kernel
theorem dL_law_642 : decode cL_law 642 = .ok (.istore 5, 2) := by decide +kernel
theorem dL_law_644 : decode cL_law 644 = .ok (.aload_n 2, 1) := by decide +kernel
theorem dL_law_645 : decode cL_law 645 = .ok (.aload_n 0, 1) := by decide +kernel
theorem dL_law_646 : decode cL_law 646 = .ok (.iload 4, 2) := by decide +kernel
theorem dL_law_648 : decode cL_law 648 = .ok (.iconst 1, 1) := by decide +kernel
theorem dL_law_649 : decode cL_law 649 = .ok (.iadd, 1) := by decide +kernel
theorem dL_law_650 : decode cL_law 650 = .ok (.iaload, 1) := by decide +kernel
theorem dL_law_651 : decode cL_law 651 = .ok (.aload_n 0, 1) := by decide +kernel
theorem dL_law_652 : decode cL_law 652 = .ok (.iload 4, 2) := by decide +kernel
theorem dL_law_654 : decode cL_law 654 = .ok (.iconst 2, 1) := by decide +kernel
theorem dL_law_655 : decode cL_law 655 = .ok (.iadd, 1) := by decide +kernel
theorem dL_law_656 : decode cL_law 656 = .ok (.iaload, 1) := by decide +kernel
theorem dL_law_657 : decode cL_law 657 = .ok (.invokevirtual 87, 3) := by decide +kernel
theorem dL_law_660 : decode cL_law 660 = .ok (.istore 6, 2) := by decide +kernel
theorem dL_law_662 : decode cL_law 662 = .ok (.aload_n 2, 1) := by decide +kernel
theorem dL_law_663 : decode cL_law 663 = .ok (.invokevirtual 88, 3) := by decide +kernel
theorem dL_law_666 : decode cL_law 666 = .ok (.iload 5, 2) := by decide +kernel
theorem dL_law_668 : decode cL_law 668 = .ok (.if_icmp .eq 5, 3) := by decide +kernel
theorem dL_law_671 : decode cL_law 671 = .ok (.iconst 0, 1) := by decide +kernel
theorem dL_law_672 : decode cL_law 672 = .ok (.ireturn, 1) := by decide +kernel
theorem dL_law_673 : decode cL_law 673 = .ok (.iload 5, 2) := by decide +kernel
theorem dL_law_675 : decode cL_law 675 = .ok (.ifCond .ne 15, 3) := by decide +kernel
theorem dL_law_678 : decode cL_law 678 = .ok (.aload_n 3, 1) := by decide +kernel
theorem dL_law_679 : decode cL_law 679 = .ok (.iconst 0, 1) := by decide +kernel
theorem dL_law_680 : decode cL_law 680 = .ok (.laload, 1) := by decide +kernel
theorem dL_law_681 : decode cL_law 681 = .ok (.iload 6, 2) := by decide +kernel
theorem dL_law_683 : decode cL_law 683 = .ok (.i2l, 1) := by decide +kernel
theorem dL_law_684 : decode cL_law 684 = .ok (.lcmp, 1) := by decide +kernel
theorem dL_law_685 : decode cL_law 685 = .ok (.ifCond .eq 5, 3) := by decide +kernel
theorem dL_law_688 : decode cL_law 688 = .ok (.iconst 0, 1) := by decide +kernel
theorem dL_law_689 : decode cL_law 689 = .ok (.ireturn, 1) := by decide +kernel
theorem dL_law_690 : decode cL_law 690 = .ok (.goto 338, 3) := by decide +kernel
theorem dL_law_693 : decode cL_law 693 = .ok (.aload_n 1, 1) := by decide +kernel
theorem dL_law_694 : decode cL_law 694 = .ok (.aload_n 0, 1) := by decide +kernel
theorem dL_law_695 : decode cL_law 695 = .ok (.iload 4, 2) := by decide +kernel
theorem dL_law_697 : decode cL_law 697 = .ok (.iconst 1, 1) := by decide +kernel
theorem dL_law_698 : decode cL_law 698 = .ok (.iadd, 1) := by decide +kernel
theorem dL_law_699 : decode cL_law 699 = .ok (.iaload, 1) := by decide +kernel
theorem dL_law_700 : decode cL_law 700 = .ok (.aload_n 0, 1) := by decide +kernel
theorem dL_law_701 : decode cL_law 701 = .ok (.iload 4, 2) := by decide +kernel
theorem dL_law_703 : decode cL_law 703 = .ok (.iconst 2, 1) := by decide +kernel
theorem dL_law_704 : decode cL_law 704 = .ok (.iadd, 1) := by decide +kernel
theorem dL_law_705 : decode cL_law 705 = .ok (.iaload, 1) := by decide +kernel
theorem dL_law_706 : decode cL_law 706 = .ok (.aload_n 0, 1) := by decide +kernel
theorem dL_law_707 : decode cL_law 707 = .ok (.iload 4, 2) := by decide +kernel
theorem dL_law_709 : decode cL_law 709 = .ok (.iconst 3, 1) := by decide +kernel
theorem dL_law_710 : decode cL_law 710 = .ok (.iadd, 1) := by decide +kernel
theorem dL_law_711 : decode cL_law 711 = .ok (.iaload, 1) := by decide +kernel
theorem dL_law_712 : decode cL_law 712 = .ok (.aload_n 0, 1) := by decide +kernel
theorem dL_law_713 : decode cL_law 713 = .ok (.iload 4, 2) := by decide +kernel
theorem dL_law_715 : decode cL_law 715 = .ok (.iconst 4, 1) := by decide +kernel
theorem dL_law_716 : decode cL_law 716 = .ok (.iadd, 1) := by decide +kernel
theorem dL_law_717 : decode cL_law 717 = .ok (.iaload, 1) := by decide +kernel
theorem dL_law_718 : decode cL_law 718 = .ok (.aload_n 0, 1) := by decide +kernel
theorem dL_law_719 : decode cL_law 719 = .ok (.iload 4, 2) := by decide +kernel
theorem dL_law_721 : decode cL_law 721 = .ok (.iconst 5, 1) := by decide +kernel
theorem dL_law_722 : decode cL_law 722 = .ok (.iadd, 1) := by decide +kernel
theorem dL_law_723 : decode cL_law 723 = .ok (.iaload, 1) := by decide +kernel
theorem dL_law_724 : decode cL_law 724 = .ok (.invokevirtual 91, 3) := by decide +kernel
theorem dL_law_727 : decode cL_law 727 = .ok (.pop, 1) := by decide +kernel
theorem dL_law_728 : decode cL_law 728 = .ok (.aload_n 2, 1) := by decide +kernel
theorem dL_law_729 : decode cL_law 729 = .ok (.aload_n 0, 1) := by decide +kernel
theorem dL_law_730 : decode cL_law 730 = .ok (.iload 4, 2) := by decide +kernel
theorem dL_law_732 : decode cL_law 732 = .ok (.iconst 1, 1) := by decide +kernel
theorem dL_law_733 : decode cL_law 733 = .ok (.iadd, 1) := by decide +kernel
theorem dL_law_734 : decode cL_law 734 = .ok (.iaload, 1) := by decide +kernel
theorem dL_law_735 : decode cL_law 735 = .ok (.aload_n 0, 1) := by decide +kernel
theorem dL_law_736 : decode cL_law 736 = .ok (.iload 4, 2) := by decide +kernel
theorem dL_law_738 : decode cL_law 738 = .ok (.iconst 2, 1) := by decide +kernel
theorem dL_law_739 : decode cL_law 739 = .ok (.iadd, 1) := by decide +kernel
theorem dL_law_740 : decode cL_law 740 = .ok (.iaload, 1) := by decide +kernel
theorem dL_law_741 : decode cL_law 741 = .ok (.aload_n 0, 1) := by decide +kernel
theorem dL_law_742 : decode cL_law 742 = .ok (.iload 4, 2) := by decide +kernel
theorem dL_law_744 : decode cL_law 744 = .ok (.iconst 3, 1) := by decide +kernel
theorem dL_law_745 : decode cL_law 745 = .ok (.iadd, 1) := by decide +kernel
theorem dL_law_746 : decode cL_law 746 = .ok (.iaload, 1) := by decide +kernel
theorem dL_law_747 : decode cL_law 747 = .ok (.aload_n 0, 1) := by decide +kernel
theorem dL_law_748 : decode cL_law 748 = .ok (.iload 4, 2) := by decide +kernel
theorem dL_law_750 : decode cL_law 750 = .ok (.iconst 4, 1) := by decide +kernel
theorem dL_law_751 : decode cL_law 751 = .ok (.iadd, 1) := by decide +kernel
theorem dL_law_752 : decode cL_law 752 = .ok (.iaload, 1) := by decide +kernel
theorem dL_law_753 : decode cL_law 753 = .ok (.aload_n 0, 1) := by decide +kernel
theorem dL_law_754 : decode cL_law 754 = .ok (.iload 4, 2) := by decide +kernel
theorem dL_law_756 : decode cL_law 756 = .ok (.iconst 5, 1) := by decide +kernel
theorem dL_law_757 : decode cL_law 757 = .ok (.iadd, 1) := by decide +kernel
theorem dL_law_758 : decode cL_law 758 = .ok (.iaload, 1) := by decide +kernel
theorem dL_law_759 : decode cL_law 759 = .ok (.invokevirtual 94, 3) := by decide +kernel
theorem dL_law_762 : decode cL_law 762 = .ok (.pop, 1) := by decide +kernel
theorem dL_law_763 : decode cL_law 763 = .ok (.goto 265, 3) := by decide +kernel
theorem dL_law_766 : decode cL_law 766 = .ok (.aload_n 1, 1) := by decide +kernel
theorem dL_law_767 : decode cL_law 767 = .ok (.aload_n 0, 1) := by decide +kernel
theorem dL_law_768 : decode cL_law 768 = .ok (.iload 4, 2) := by decide +kernel
theorem dL_law_770 : decode cL_law 770 = .ok (.iconst 1, 1) := by decide +kernel
theorem dL_law_771 : decode cL_law 771 = .ok (.iadd, 1) := by decide +kernel
theorem dL_law_772 : decode cL_law 772 = .ok (.iaload, 1) := by decide +kernel
theorem dL_law_773 : decode cL_law 773 = .ok (.aload_n 0, 1) := by decide +kernel
theorem dL_law_774 : decode cL_law 774 = .ok (.iload 4, 2) := by decide +kernel
theorem dL_law_776 : decode cL_law 776 = .ok (.iconst 2, 1) := by decide +kernel
theorem dL_law_777 : decode cL_law 777 = .ok (.iadd, 1) := by decide +kernel
theorem dL_law_778 : decode cL_law 778 = .ok (.iaload, 1) := by decide +kernel
theorem dL_law_779 : decode cL_law 779 = .ok (.aload_n 0, 1) := by decide +kernel
theorem dL_law_780 : decode cL_law 780 = .ok (.iload 4, 2) := by decide +kernel
theorem dL_law_782 : decode cL_law 782 = .ok (.iconst 3, 1) := by decide +kernel
theorem dL_law_783 : decode cL_law 783 = .ok (.iadd, 1) := by decide +kernel
theorem dL_law_784 : decode cL_law 784 = .ok (.iaload, 1) := by decide +kernel
theorem dL_law_785 : decode cL_law 785 = .ok (.aload_n 0, 1) := by decide +kernel
theorem dL_law_786 : decode cL_law 786 = .ok (.iload 4, 2) := by decide +kernel
theorem dL_law_788 : decode cL_law 788 = .ok (.iconst 4, 1) := by decide +kernel
theorem dL_law_789 : decode cL_law 789 = .ok (.iadd, 1) := by decide +kernel
theorem dL_law_790 : decode cL_law 790 = .ok (.iaload, 1) := by decide +kernel
theorem dL_law_791 : decode cL_law 791 = .ok (.aload_n 0, 1) := by decide +kernel
theorem dL_law_792 : decode cL_law 792 = .ok (.iload 4, 2) := by decide +kernel
theorem dL_law_794 : decode cL_law 794 = .ok (.iconst 5, 1) := by decide +kernel
theorem dL_law_795 : decode cL_law 795 = .ok (.iadd, 1) := by decide +kernel
theorem dL_law_796 : decode cL_law 796 = .ok (.iaload, 1) := by decide +kernel
theorem dL_law_797 : decode cL_law 797 = .ok (.invokevirtual 95, 3) := by decide +kernel
theorem dL_law_800 : decode cL_law 800 = .ok (.pop, 1) := by decide +kernel
theorem dL_law_801 : decode cL_law 801 = .ok (.aload_n 2, 1) := by decide +kernel
theorem dL_law_802 : decode cL_law 802 = .ok (.aload_n 0, 1) := by decide +kernel
theorem dL_law_803 : decode cL_law 803 = .ok (.iload 4, 2) := by decide +kernel
theorem dL_law_805 : decode cL_law 805 = .ok (.iconst 1, 1) := by decide +kernel
theorem dL_law_806 : decode cL_law 806 = .ok (.iadd, 1) := by decide +kernel
theorem dL_law_807 : decode cL_law 807 = .ok (.iaload, 1) := by decide +kernel
theorem dL_law_808 : decode cL_law 808 = .ok (.aload_n 0, 1) := by decide +kernel
theorem dL_law_809 : decode cL_law 809 = .ok (.iload 4, 2) := by decide +kernel
theorem dL_law_811 : decode cL_law 811 = .ok (.iconst 2, 1) := by decide +kernel
theorem dL_law_812 : decode cL_law 812 = .ok (.iadd, 1) := by decide +kernel
theorem dL_law_813 : decode cL_law 813 = .ok (.iaload, 1) := by decide +kernel
theorem dL_law_814 : decode cL_law 814 = .ok (.aload_n 0, 1) := by decide +kernel
theorem dL_law_815 : decode cL_law 815 = .ok (.iload 4, 2) := by decide +kernel
theorem dL_law_817 : decode cL_law 817 = .ok (.iconst 3, 1) := by decide +kernel
theorem dL_law_818 : decode cL_law 818 = .ok (.iadd, 1) := by decide +kernel
theorem dL_law_819 : decode cL_law 819 = .ok (.iaload, 1) := by decide +kernel
theorem dL_law_820 : decode cL_law 820 = .ok (.aload_n 0, 1) := by decide +kernel
theorem dL_law_821 : decode cL_law 821 = .ok (.iload 4, 2) := by decide +kernel
theorem dL_law_823 : decode cL_law 823 = .ok (.iconst 4, 1) := by decide +kernel
theorem dL_law_824 : decode cL_law 824 = .ok (.iadd, 1) := by decide +kernel
theorem dL_law_825 : decode cL_law 825 = .ok (.iaload, 1) := by decide +kernel
theorem dL_law_826 : decode cL_law 826 = .ok (.aload_n 0, 1) := by decide +kernel
theorem dL_law_827 : decode cL_law 827 = .ok (.iload 4, 2) := by decide +kernel
theorem dL_law_829 : decode cL_law 829 = .ok (.iconst 5, 1) := by decide +kernel
theorem dL_law_830 : decode cL_law 830 = .ok (.iadd, 1) := by decide +kernel
theorem dL_law_831 : decode cL_law 831 = .ok (.iaload, 1) := by decide +kernel
theorem dL_law_832 : decode cL_law 832 = .ok (.invokevirtual 99, 3) := by decide +kernel
theorem dL_law_835 : decode cL_law 835 = .ok (.pop, 1) := by decide +kernel
theorem dL_law_836 : decode cL_law 836 = .ok (.goto 192, 3) := by decide +kernel
theorem dL_law_839 : decode cL_law 839 = .ok (.aload_n 1, 1) := by decide +kernel
theorem dL_law_840 : decode cL_law 840 = .ok (.aload_n 0, 1) := by decide +kernel
theorem dL_law_841 : decode cL_law 841 = .ok (.iload 4, 2) := by decide +kernel
theorem dL_law_843 : decode cL_law 843 = .ok (.iconst 1, 1) := by decide +kernel
theorem dL_law_844 : decode cL_law 844 = .ok (.iadd, 1) := by decide +kernel
theorem dL_law_845 : decode cL_law 845 = .ok (.iaload, 1) := by decide +kernel
theorem dL_law_846 : decode cL_law 846 = .ok (.invokevirtual 100, 3) := by decide +kernel
theorem dL_law_849 : decode cL_law 849 = .ok (.pop, 1) := by decide +kernel
theorem dL_law_850 : decode cL_law 850 = .ok (.aload_n 2, 1) := by decide +kernel
theorem dL_law_851 : decode cL_law 851 = .ok (.aload_n 0, 1) := by decide +kernel
theorem dL_law_852 : decode cL_law 852 = .ok (.iload 4, 2) := by decide +kernel
theorem dL_law_854 : decode cL_law 854 = .ok (.iconst 1, 1) := by decide +kernel
theorem dL_law_855 : decode cL_law 855 = .ok (.iadd, 1) := by decide +kernel
theorem dL_law_856 : decode cL_law 856 = .ok (.iaload, 1) := by decide +kernel
theorem dL_law_857 : decode cL_law 857 = .ok (.invokevirtual 103, 3) := by decide +kernel
theorem dL_law_860 : decode cL_law 860 = .ok (.pop, 1) := by decide +kernel
theorem dL_law_861 : decode cL_law 861 = .ok (.goto 167, 3) := by decide +kernel
set_option maxHeartbeats 4000000 in
set_option maxRecDepth 100000 in
theorem law_c12 {p : Program} {e : Env} {s : State} {m : MethodId} {below : List Frame} {meth : Method} {c : Code} (l : Launch) (hlt : l.stackTraces = false) {b L : Nat} {xs : Nat → Int32} (C0 : lw_At p s m meth c b L xs) (G : va_G) (cy : Nat → ClassId) (sK sV : Nat → Nat) (hK : va_K G vwCl (gzK cy) s) (hov : gOv s) (A : Nat → Prop) (hA : ∀ q, s.heap.size ≤ q → A q) (hAn : ∀ q, A q → s.heap.size ≤ q) (hE : gE sK sV A s s.heap) (aX aM : Nat → Nat → Nat) (o : Nat) (hAp : gAp aX aM o) (hmX : ∀ k i, i < cnX k → A (aX k i)) (hmM : ∀ k i, i < cnM k → A (aM k i)) (hAo : A o) (sx sm : gS) (f : Nat → Int64) (hBX : gBd bX sx) (hIM : mInv sm) (hRel : lRel sx sm) (iv : Int32) (hi0 : 0 ≤ iv.toInt) (hi1 : iv.toInt + 6 ≤ (L : Int)) (hLb : L ≤ 3072) (cells slots : Nat) (hcl : cells + 1 ≤ 601024) (hsl : slots + 6 ≤ 7293034) (H : Heap) (locs : List Loc) (ls : Array Slot) (hW : gWd G cy aX aM o sx sm f H) (hS : va_S A s.heap H locs) (hl : lv_has ls 7 [(4, .int iv), (3, .ref o), (2, .ref (aM 0 0)), (1, .ref (aX 0 0)), (0, .ref b)]) (hnext : (∀ (sx sm : gS) (f : Nat → Int64) (H : Heap) (locs : List Loc) (ls : Array Slot) (cells1 slots1 : Nat), gBd bX sx → mInv sm → lRel sx sm → cells1 ≤ cells + 1 → slots1 ≤ slots + 6 → gWd G cy aX aM o sx sm f H → va_S A s.heap H locs → lv_has ls 7 [(4, .int iv), (3, .ref o), (2, .ref (aM 0 0)), (1, .ref (aX 0 0)), (0, .ref b)] → W p l e room_1 s m #[Value.ref b] below meth c H locs cells1 slots1 (lw_Z below #[Value.ref b] s) (F0 m 1028 ls []))) : W p l e room_1 s m #[Value.ref b] below meth c H locs cells slots (lw_Z below #[Value.ref b] s) (F0 m 600 ls []) := by
  obtain ⟨hx, hb, hr, hml, hown, hts0, hX, hbl, hlocks, hgv⟩ := id C0
  have hts : ∀ w ∈ gz_T, w.before #[Value.ref b] s = true := fun w h => hts0 w (List.mem_filter.mp h).1
  have hown : s.vm.findClass RL = some m.cls := hown
  have hbA : ¬ A b := fun q => Nat.not_le.mpr hbl (hAn b q)
  have t1 : (iv + 1).toInt = iv.toInt + 1 := gz_addP rfl (by decide) (by omega) (by omega)
  have t2 : (iv + 2).toInt = iv.toInt + 2 := gz_addP rfl (by decide) (by omega) (by omega)
  have t3 : (iv + 3).toInt = iv.toInt + 3 := gz_addP rfl (by decide) (by omega) (by omega)
  have t4 : (iv + 4).toInt = iv.toInt + 4 := gz_addP rfl (by decide) (by omega) (by omega)
  have t5 : (iv + 5).toInt = iv.toInt + 5 := gz_addP rfl (by decide) (by omega) (by omega)
  obtain ⟨rs, hLa, hLM, hru, hwf, hun⟩ := hRel.law
  have bk28 : (0 : Int) ≤ (sm 0 0 28).toInt ∧ (sm 0 0 28).toInt ≤ (1 : Int) := hIM 0 0 28
  have hbk : (sm 0 0 28).toInt = (((sm 0 0 28).toNatClampNeg : Nat) : Int) := (gs_cl bk28.1).symm
  refine lv_aload_n hx hb dL_law_600 rfl (lv_at hl 3 rfl) ?_
  refine lv_aload_n hx hb dL_law_601 rfl (lv_at hl 4 rfl) ?_
  refine lv_iload hx hb dL_law_602 (lv_at hl 0 rfl) ?_
  refine lv_iconst (v := 1) hx hb dL_law_604 (by decide) ?_
  refine lv_iadd hx hb dL_law_605 ?_
  refine va_sld hx hb hX hbl hbA hS (vp_in_iff.mpr ⟨by omega, by omega⟩) dL_law_606 ?_
  refine lv_topi (fun x_1 ex_1 => ?_)
  refine gw_callX (va_runV (As := [.int x_1]) (rest := []) ⟨hx, hb, hml, hown, hts⟩ (s_report l G cy sK sV aX H.size sx hBX x_1 x_1.toInt rfl ) ⟨(gz_cb (n := 1) hts gm_659 gm_1 gm_662 ⟨by decide +kernel, by decide +kernel, by decide +kernel⟩ ⟨Nat.le_of_ble_eq_true rfl, Nat.le_of_ble_eq_true rfl⟩), hts _ gm_660, hts _ gm_661⟩ (gs_preV hK hov hE hAp.1 hW.1 hmX hS hA 0 0 (by decide) rfl rfl) rfl rfl hl.1 rfl (lv_room (Nat.le_of_ble_eq_true rfl)) dL_law_607 ⟨(by show cells ≤ 601024; omega), (by show slots ≤ 7293034; omega)⟩) hAp hmX hW hS hA (fun r_2 st_2 H locs hw_2 hW hS => ?_)
  obtain ⟨n_2, hw_2⟩ := hw_2
  refine lv_pop hx hb dL_law_610 rfl ?_
  refine lv_aload_n hx hb dL_law_611 rfl (lv_at hl 2 rfl) ?_
  refine lv_aload_n hx hb dL_law_612 rfl (lv_at hl 4 rfl) ?_
  refine lv_iload hx hb dL_law_613 (lv_at hl 0 rfl) ?_
  refine lv_iconst (v := 1) hx hb dL_law_615 (by decide) ?_
  refine lv_iadd hx hb dL_law_616 ?_
  refine va_sld hx hb hX hbl hbA hS (vp_in_iff.mpr ⟨by omega, by omega⟩) dL_law_617 ?_
  refine lv_topi (fun x_3 ex_3 => ?_)
  have ex_3 : x_1 = x_3 := ex_1.trans ex_3.symm
  subst ex_3
  refine gw_callM (va_runV (As := [.int x_1]) (rest := []) ⟨hx, hb, hml, hown, hts⟩ (m_report l G cy sK sV aM H.size sm hIM x_1 x_1.toInt rfl ) ⟨(gz_cb (n := 1) hts gm_1248 gm_12 gm_1251 ⟨by decide +kernel, by decide +kernel, by decide +kernel⟩ ⟨Nat.le_of_ble_eq_true rfl, Nat.le_of_ble_eq_true rfl⟩), hts _ gm_1249, hts _ gm_1250⟩ (gs_preV hK hov hE hAp.2.1 hW.2.1 hmM hS hA 0 0 (by decide) rfl rfl) rfl rfl hl.1 rfl (lv_room (Nat.le_of_ble_eq_true rfl)) dL_law_618 ⟨(by show cells ≤ 601024; omega), (by show slots ≤ 7293034; omega)⟩) hAp hmM hW hS hA (fun r_4 st_4 H locs hw_4 hW hS => ?_)
  obtain ⟨n_4, hw_4⟩ := hw_4
  obtain ⟨hRel, hEq⟩ := rel_report (rX := r_2) (rM := r_4) (x := x_1) hRel hBX hIM n_2 n_4  hw_2 hw_4
  have hBX := n_2.1
  have hIM := mInv.keep n_4 hIM
  refine lv_pop hx hb dL_law_621 rfl ?_
  refine lv_goto (tgt := 1028) hx hb dL_law_622 (by decide) ?_
  exact hnext st_2 st_4 f H _ ls (cells) (slots) hBX hIM hRel (by omega) (by omega) hW hS (lv_sub hl [0, 1, 2, 3, 4] rfl)

set_option maxHeartbeats 4000000 in
set_option maxRecDepth 100000 in
theorem law_c13 {p : Program} {e : Env} {s : State} {m : MethodId} {below : List Frame} {meth : Method} {c : Code} (l : Launch) (hlt : l.stackTraces = false) {b L : Nat} {xs : Nat → Int32} (C0 : lw_At p s m meth c b L xs) (G : va_G) (cy : Nat → ClassId) (sK sV : Nat → Nat) (hK : va_K G vwCl (gzK cy) s) (hov : gOv s) (A : Nat → Prop) (hA : ∀ q, s.heap.size ≤ q → A q) (hAn : ∀ q, A q → s.heap.size ≤ q) (hE : gE sK sV A s s.heap) (aX aM : Nat → Nat → Nat) (o : Nat) (hAp : gAp aX aM o) (hmX : ∀ k i, i < cnX k → A (aX k i)) (hmM : ∀ k i, i < cnM k → A (aM k i)) (hAo : A o) (sx sm : gS) (f : Nat → Int64) (hBX : gBd bX sx) (hIM : mInv sm) (hRel : lRel sx sm) (iv : Int32) (hi0 : 0 ≤ iv.toInt) (hi1 : iv.toInt + 6 ≤ (L : Int)) (hLb : L ≤ 3072) (cells slots : Nat) (hcl : cells + 1 ≤ 601024) (hsl : slots + 6 ≤ 7293034) (H : Heap) (locs : List Loc) (ls : Array Slot) (hW : gWd G cy aX aM o sx sm f H) (hS : va_S A s.heap H locs) (hl : lv_has ls 7 [(4, .int iv), (3, .ref o), (2, .ref (aM 0 0)), (1, .ref (aX 0 0)), (0, .ref b)]) (hnext : (∀ (sx sm : gS) (f : Nat → Int64) (H : Heap) (locs : List Loc) (ls : Array Slot) (cells1 slots1 : Nat), gBd bX sx → mInv sm → lRel sx sm → cells1 ≤ cells + 1 → slots1 ≤ slots + 6 → gWd G cy aX aM o sx sm f H → va_S A s.heap H locs → lv_has ls 7 [(4, .int iv), (3, .ref o), (2, .ref (aM 0 0)), (1, .ref (aX 0 0)), (0, .ref b)] → W p l e room_1 s m #[Value.ref b] below meth c H locs cells1 slots1 (lw_Z below #[Value.ref b] s) (F0 m 1028 ls []))) : W p l e room_1 s m #[Value.ref b] below meth c H locs cells slots (lw_Z below #[Value.ref b] s) (F0 m 625 ls []) := by
  obtain ⟨hx, hb, hr, hml, hown, hts0, hX, hbl, hlocks, hgv⟩ := id C0
  have hts : ∀ w ∈ gz_T, w.before #[Value.ref b] s = true := fun w h => hts0 w (List.mem_filter.mp h).1
  have hown : s.vm.findClass RL = some m.cls := hown
  have hbA : ¬ A b := fun q => Nat.not_le.mpr hbl (hAn b q)
  have t1 : (iv + 1).toInt = iv.toInt + 1 := gz_addP rfl (by decide) (by omega) (by omega)
  have t2 : (iv + 2).toInt = iv.toInt + 2 := gz_addP rfl (by decide) (by omega) (by omega)
  have t3 : (iv + 3).toInt = iv.toInt + 3 := gz_addP rfl (by decide) (by omega) (by omega)
  have t4 : (iv + 4).toInt = iv.toInt + 4 := gz_addP rfl (by decide) (by omega) (by omega)
  have t5 : (iv + 5).toInt = iv.toInt + 5 := gz_addP rfl (by decide) (by omega) (by omega)
  obtain ⟨rs, hLa, hLM, hru, hwf, hun⟩ := hRel.law
  have bk28 : (0 : Int) ≤ (sm 0 0 28).toInt ∧ (sm 0 0 28).toInt ≤ (1 : Int) := hIM 0 0 28
  have hbk : (sm 0 0 28).toInt = (((sm 0 0 28).toNatClampNeg : Nat) : Int) := (gs_cl bk28.1).symm
  refine lv_aload_n hx hb dL_law_625 rfl (lv_at hl 3 rfl) ?_
  refine lv_aload_n hx hb dL_law_626 rfl (lv_at hl 4 rfl) ?_
  refine lv_iload hx hb dL_law_627 (lv_at hl 0 rfl) ?_
  refine lv_iconst (v := 1) hx hb dL_law_629 (by decide) ?_
  refine lv_iadd hx hb dL_law_630 ?_
  refine va_sld hx hb hX hbl hbA hS (vp_in_iff.mpr ⟨by omega, by omega⟩) dL_law_631 ?_
  refine lv_topi (fun x_1 ex_1 => ?_)
  refine lv_aload_n hx hb dL_law_632 rfl (lv_at hl 4 rfl) ?_
  refine lv_iload hx hb dL_law_633 (lv_at hl 0 rfl) ?_
  refine lv_iconst (v := 2) hx hb dL_law_635 (by decide) ?_
  refine lv_iadd hx hb dL_law_636 ?_
  refine va_sld hx hb hX hbl hbA hS (vp_in_iff.mpr ⟨by omega, by omega⟩) dL_law_637 ?_
  refine lv_topi (fun x_2 ex_2 => ?_)
  refine lv_aload_n hx hb dL_law_638 rfl (lv_at hl 1 rfl) ?_
  refine gw_callO (vx_runSW (As := [.ref (aX 0 0), .int x_1, .int x_2, .ref o]) (rest := []) ⟨hx, hb, hml, hown, hts⟩ (h_drawn l hlt G cy sK sV aX o H.size sx f hBX x_1 x_2 x_1.toInt x_2.toInt rfl rfl ) (gz_cwSW (n := 4) (rm := ({ frames := 7, cells := 1, slots := 6, locals := 130 } : Room)) (hh := [(0, 10, 13, 13)]) hts gm_739 gm_740 gm_0 gm_741 ⟨by decide +kernel, by decide +kernel, by decide +kernel⟩ ⟨Nat.le_of_ble_eq_true rfl, Nat.le_of_ble_eq_true rfl⟩) (gw_preO hK hov hE hAp hmX hAo hW hS hA) rfl rfl hl.1 rfl (lv_room (Nat.le_of_ble_eq_true rfl)) dL_law_639 ⟨(by show cells + 1 ≤ 601024; omega), (by show slots + 6 ≤ 7293034; omega)⟩) hAp hmX hAo hW hS hA (fun r_3 st_3 f_3 H locs hw_3 hW hS => ?_)
  obtain ⟨n_3, hw_3⟩ := hw_3
  refine lv_istore (lv' := [(5, .int r_3), (4, .int iv), (3, .ref o), (2, .ref (aM 0 0)), (1, .ref (aX 0 0)), (0, .ref b)]) hx hb dL_law_642 hl (by decide) rfl (fun ls hl => ?_)
  refine lv_aload_n hx hb dL_law_644 rfl (lv_at hl 3 rfl) ?_
  refine lv_aload_n hx hb dL_law_645 rfl (lv_at hl 5 rfl) ?_
  refine lv_iload hx hb dL_law_646 (lv_at hl 1 rfl) ?_
  refine lv_iconst (v := 1) hx hb dL_law_648 (by decide) ?_
  refine lv_iadd hx hb dL_law_649 ?_
  refine va_sld hx hb hX hbl hbA hS (vp_in_iff.mpr ⟨by omega, by omega⟩) dL_law_650 ?_
  refine lv_topi (fun x_4 ex_4 => ?_)
  have ex_4 : x_1 = x_4 := ex_1.trans ex_4.symm
  subst ex_4
  refine lv_aload_n hx hb dL_law_651 rfl (lv_at hl 5 rfl) ?_
  refine lv_iload hx hb dL_law_652 (lv_at hl 1 rfl) ?_
  refine lv_iconst (v := 2) hx hb dL_law_654 (by decide) ?_
  refine lv_iadd hx hb dL_law_655 ?_
  refine va_sld hx hb hX hbl hbA hS (vp_in_iff.mpr ⟨by omega, by omega⟩) dL_law_656 ?_
  refine lv_topi (fun x_5 ex_5 => ?_)
  have ex_5 : x_2 = x_5 := ex_2.trans ex_5.symm
  subst ex_5
  refine gw_callM (va_runV (As := [.int x_1, .int x_2]) (rest := []) ⟨hx, hb, hml, hown, hts⟩ (m_drawn l G cy sK sV aM H.size sm hIM x_1 x_2 x_1.toInt x_2.toInt rfl rfl ) ⟨(gz_cb (n := 2) hts gm_1252 gm_12 gm_1255 ⟨by decide +kernel, by decide +kernel, by decide +kernel⟩ ⟨Nat.le_of_ble_eq_true rfl, Nat.le_of_ble_eq_true rfl⟩), hts _ gm_1253, hts _ gm_1254⟩ (gs_preV hK hov hE hAp.2.1 hW.2.1 hmM hS hA 0 0 (by decide) rfl rfl) rfl rfl hl.1 rfl (lv_room (Nat.le_of_ble_eq_true rfl)) dL_law_657 ⟨(by show cells + 1 ≤ 601024; omega), (by show slots + 6 ≤ 7293034; omega)⟩) hAp hmM hW hS hA (fun r_6 st_6 H locs hw_6 hW hS => ?_)
  obtain ⟨n_6, hw_6⟩ := hw_6
  obtain ⟨hRel, hT9, hV9⟩ := rel_drawn (rX := r_3) (rM := r_6) (x := x_1) (y := x_2) hRel hBX hIM n_3 n_6  hw_3 hw_6
  have hBX := n_3.1
  have hIM := mInv.keep n_6 hIM
  refine lv_istore (lv' := [(6, .int r_6), (5, .int r_3), (4, .int iv), (3, .ref o), (2, .ref (aM 0 0)), (1, .ref (aX 0 0)), (0, .ref b)]) hx hb dL_law_660 hl (by decide) rfl (fun ls hl => ?_)
  refine lv_aload_n hx hb dL_law_662 rfl (lv_at hl 4 rfl) ?_
  refine gw_callM (va_runV (As := []) (rest := []) ⟨hx, hb, hml, hown, hts⟩ (m_thrown l G cy sK sV aM H.size st_6 hIM  ) ⟨(gz_cb (n := 0) hts gm_891 gm_12 gm_894 ⟨by decide +kernel, by decide +kernel, by decide +kernel⟩ ⟨Nat.le_of_ble_eq_true rfl, Nat.le_of_ble_eq_true rfl⟩), hts _ gm_892, hts _ gm_893⟩ (gs_preV hK hov hE hAp.2.1 hW.2.1 hmM hS hA 0 0 (by decide) rfl rfl) rfl rfl hl.1 rfl (lv_room (Nat.le_of_ble_eq_true rfl)) dL_law_663 ⟨(by show cells + 1 ≤ 601024; omega), (by show slots + 6 ≤ 7293034; omega)⟩) hAp hmM hW hS hA (fun r_7 st_7 H locs hw_7 hW hS => ?_)
  obtain ⟨n_7, hw_7⟩ := hw_7
  have n_7 := gBN.nil n_7
  subst n_7
  refine lv_iload hx hb dL_law_666 (lv_at hl 1 rfl) ?_
  refine lv_icmp_eq (tgt := 673) hx hb dL_law_668 (by decide) (fun c_8 => ?_) (fun c_8 => ?_)
  · have ic_8 := gz_eq (rfl : r_7.toInt = r_7.toInt) (rfl : r_3.toInt = r_3.toInt) c_8
    refine lv_iload hx hb dL_law_673 (lv_at hl 1 rfl) ?_
    refine lv_if_ne (tgt := 690) hx hb dL_law_675 (by decide) (fun c_9 => ?_) (fun c_9 => ?_)
    · have ic_9 := gz_ne (rfl : r_3.toInt = r_3.toInt) (by decide : (0 : Int32).toInt = 0) c_9
      refine lv_goto (tgt := 1028) hx hb dL_law_690 (by decide) ?_
      exact hnext st_3 st_6 f_3 H _ ls (cells + 1) (slots + 6) hBX hIM hRel (by omega) (by omega) hW hS (lv_sub hl [2, 3, 4, 5, 6] rfl)
    · have ic_9 := gz_eqn (rfl : r_3.toInt = r_3.toInt) (by decide : (0 : Int32).toInt = 0) c_9
      refine lv_aload_n hx hb dL_law_678 rfl (lv_at hl 3 rfl) ?_
      refine lv_iconst (v := 0) hx hb dL_law_679 (by decide) ?_
      refine gw_lald hx hb hK hW dL_law_680 ?_
      refine lv_topl (fun x_10 ex_10 => ?_)
      refine lv_iload hx hb dL_law_681 (lv_at hl 0 rfl) ?_
      obtain ⟨x_11, ex_11⟩ : ∃ y : Int64, (r_6 : Int32).toInt64 = y := ⟨_, rfl⟩
      refine lv_i2l hx hb dL_law_683 ex_11 ?_
      refine W.lcmp hx hb dL_law_684 ?_
      refine lv_topi (fun x_12 ex_12 => ?_)
      have hL_x_12 : x_12.toInt = 0 := (gs_cmp0 ex_12).mpr ((ex_10.trans (hV9 (eqI (by have h0 : (0 : Int32).toInt = 0 := (by decide); omega)))).trans ex_11)
      refine lv_if_eq (tgt := 690) hx hb dL_law_685 (by decide) (fun c_13 => ?_) (fun c_13 => ?_)
      · have ic_13 := gz_eq (rfl : x_12.toInt = x_12.toInt) (by decide : (0 : Int32).toInt = 0) c_13
        refine lv_goto (tgt := 1028) hx hb dL_law_690 (by decide) ?_
        exact hnext st_3 st_6 f_3 H _ ls (cells + 1) (slots + 6) hBX hIM hRel (by omega) (by omega) hW hS (lv_sub hl [2, 3, 4, 5, 6] rfl)
      · have ic_13 := gz_ne (rfl : x_12.toInt = x_12.toInt) (by decide : (0 : Int32).toInt = 0) c_13
        refine lv_iconst (v := 0) hx hb dL_law_688 (by decide) ?_
        exfalso; omega
  · have ic_8 := gz_ne (rfl : r_7.toInt = r_7.toInt) (rfl : r_3.toInt = r_3.toInt) c_8
    refine lv_iconst (v := 0) hx hb dL_law_671 (by decide) ?_
    exfalso; have h9 := congrArg Int32.toInt (hw_7.trans hT9); omega

set_option maxHeartbeats 4000000 in
set_option maxRecDepth 100000 in
theorem law_c14 {p : Program} {e : Env} {s : State} {m : MethodId} {below : List Frame} {meth : Method} {c : Code} (l : Launch) (hlt : l.stackTraces = false) {b L : Nat} {xs : Nat → Int32} (C0 : lw_At p s m meth c b L xs) (G : va_G) (cy : Nat → ClassId) (sK sV : Nat → Nat) (hK : va_K G vwCl (gzK cy) s) (hov : gOv s) (A : Nat → Prop) (hA : ∀ q, s.heap.size ≤ q → A q) (hAn : ∀ q, A q → s.heap.size ≤ q) (hE : gE sK sV A s s.heap) (aX aM : Nat → Nat → Nat) (o : Nat) (hAp : gAp aX aM o) (hmX : ∀ k i, i < cnX k → A (aX k i)) (hmM : ∀ k i, i < cnM k → A (aM k i)) (hAo : A o) (sx sm : gS) (f : Nat → Int64) (hBX : gBd bX sx) (hIM : mInv sm) (hRel : lRel sx sm) (iv : Int32) (hi0 : 0 ≤ iv.toInt) (hi1 : iv.toInt + 6 ≤ (L : Int)) (hLb : L ≤ 3072) (cells slots : Nat) (hcl : cells + 1 ≤ 601024) (hsl : slots + 6 ≤ 7293034) (H : Heap) (locs : List Loc) (ls : Array Slot) (hW : gWd G cy aX aM o sx sm f H) (hS : va_S A s.heap H locs) (hl : lv_has ls 7 [(4, .int iv), (3, .ref o), (2, .ref (aM 0 0)), (1, .ref (aX 0 0)), (0, .ref b)]) (hnext : (∀ (sx sm : gS) (f : Nat → Int64) (H : Heap) (locs : List Loc) (ls : Array Slot) (cells1 slots1 : Nat), gBd bX sx → mInv sm → lRel sx sm → cells1 ≤ cells + 1 → slots1 ≤ slots + 6 → gWd G cy aX aM o sx sm f H → va_S A s.heap H locs → lv_has ls 7 [(4, .int iv), (3, .ref o), (2, .ref (aM 0 0)), (1, .ref (aX 0 0)), (0, .ref b)] → W p l e room_1 s m #[Value.ref b] below meth c H locs cells1 slots1 (lw_Z below #[Value.ref b] s) (F0 m 1028 ls []))) : W p l e room_1 s m #[Value.ref b] below meth c H locs cells slots (lw_Z below #[Value.ref b] s) (F0 m 693 ls []) := by
  obtain ⟨hx, hb, hr, hml, hown, hts0, hX, hbl, hlocks, hgv⟩ := id C0
  have hts : ∀ w ∈ gz_T, w.before #[Value.ref b] s = true := fun w h => hts0 w (List.mem_filter.mp h).1
  have hown : s.vm.findClass RL = some m.cls := hown
  have hbA : ¬ A b := fun q => Nat.not_le.mpr hbl (hAn b q)
  have t1 : (iv + 1).toInt = iv.toInt + 1 := gz_addP rfl (by decide) (by omega) (by omega)
  have t2 : (iv + 2).toInt = iv.toInt + 2 := gz_addP rfl (by decide) (by omega) (by omega)
  have t3 : (iv + 3).toInt = iv.toInt + 3 := gz_addP rfl (by decide) (by omega) (by omega)
  have t4 : (iv + 4).toInt = iv.toInt + 4 := gz_addP rfl (by decide) (by omega) (by omega)
  have t5 : (iv + 5).toInt = iv.toInt + 5 := gz_addP rfl (by decide) (by omega) (by omega)
  obtain ⟨rs, hLa, hLM, hru, hwf, hun⟩ := hRel.law
  have bk28 : (0 : Int) ≤ (sm 0 0 28).toInt ∧ (sm 0 0 28).toInt ≤ (1 : Int) := hIM 0 0 28
  have hbk : (sm 0 0 28).toInt = (((sm 0 0 28).toNatClampNeg : Nat) : Int) := (gs_cl bk28.1).symm
  refine lv_aload_n hx hb dL_law_693 rfl (lv_at hl 3 rfl) ?_
  refine lv_aload_n hx hb dL_law_694 rfl (lv_at hl 4 rfl) ?_
  refine lv_iload hx hb dL_law_695 (lv_at hl 0 rfl) ?_
  refine lv_iconst (v := 1) hx hb dL_law_697 (by decide) ?_
  refine lv_iadd hx hb dL_law_698 ?_
  refine va_sld hx hb hX hbl hbA hS (vp_in_iff.mpr ⟨by omega, by omega⟩) dL_law_699 ?_
  refine lv_topi (fun x_1 ex_1 => ?_)
  refine lv_aload_n hx hb dL_law_700 rfl (lv_at hl 4 rfl) ?_
  refine lv_iload hx hb dL_law_701 (lv_at hl 0 rfl) ?_
  refine lv_iconst (v := 2) hx hb dL_law_703 (by decide) ?_
  refine lv_iadd hx hb dL_law_704 ?_
  refine va_sld hx hb hX hbl hbA hS (vp_in_iff.mpr ⟨by omega, by omega⟩) dL_law_705 ?_
  refine lv_topi (fun x_2 ex_2 => ?_)
  refine lv_aload_n hx hb dL_law_706 rfl (lv_at hl 4 rfl) ?_
  refine lv_iload hx hb dL_law_707 (lv_at hl 0 rfl) ?_
  refine lv_iconst (v := 3) hx hb dL_law_709 (by decide) ?_
  refine lv_iadd hx hb dL_law_710 ?_
  refine va_sld hx hb hX hbl hbA hS (vp_in_iff.mpr ⟨by omega, by omega⟩) dL_law_711 ?_
  refine lv_topi (fun x_3 ex_3 => ?_)
  refine lv_aload_n hx hb dL_law_712 rfl (lv_at hl 4 rfl) ?_
  refine lv_iload hx hb dL_law_713 (lv_at hl 0 rfl) ?_
  refine lv_iconst (v := 4) hx hb dL_law_715 (by decide) ?_
  refine lv_iadd hx hb dL_law_716 ?_
  refine va_sld hx hb hX hbl hbA hS (vp_in_iff.mpr ⟨by omega, by omega⟩) dL_law_717 ?_
  refine lv_topi (fun x_4 ex_4 => ?_)
  refine lv_aload_n hx hb dL_law_718 rfl (lv_at hl 4 rfl) ?_
  refine lv_iload hx hb dL_law_719 (lv_at hl 0 rfl) ?_
  refine lv_iconst (v := 5) hx hb dL_law_721 (by decide) ?_
  refine lv_iadd hx hb dL_law_722 ?_
  refine va_sld hx hb hX hbl hbA hS (vp_in_iff.mpr ⟨by omega, by omega⟩) dL_law_723 ?_
  refine lv_topi (fun x_5 ex_5 => ?_)
  refine gw_callX (va_runV (As := [.int x_1, .int x_2, .int x_3, .int x_4, .int x_5]) (rest := []) ⟨hx, hb, hml, hown, hts⟩ (s_judge l G cy sK sV aX H.size sx hBX x_1 x_2 x_3 x_4 x_5 x_1.toInt x_2.toInt x_3.toInt x_4.toInt x_5.toInt rfl rfl rfl rfl rfl ) ⟨(gz_cb (n := 5) hts gm_667 gm_1 gm_670 ⟨by decide +kernel, by decide +kernel, by decide +kernel⟩ ⟨Nat.le_of_ble_eq_true rfl, Nat.le_of_ble_eq_true rfl⟩), hts _ gm_668, hts _ gm_669⟩ (gs_preV hK hov hE hAp.1 hW.1 hmX hS hA 0 0 (by decide) rfl rfl) rfl rfl hl.1 rfl (lv_room (Nat.le_of_ble_eq_true rfl)) dL_law_724 ⟨(by show cells ≤ 601024; omega), (by show slots ≤ 7293034; omega)⟩) hAp hmX hW hS hA (fun r_6 st_6 H locs hw_6 hW hS => ?_)
  obtain ⟨n_6, hw_6⟩ := hw_6
  refine lv_pop hx hb dL_law_727 rfl ?_
  refine lv_aload_n hx hb dL_law_728 rfl (lv_at hl 2 rfl) ?_
  refine lv_aload_n hx hb dL_law_729 rfl (lv_at hl 4 rfl) ?_
  refine lv_iload hx hb dL_law_730 (lv_at hl 0 rfl) ?_
  refine lv_iconst (v := 1) hx hb dL_law_732 (by decide) ?_
  refine lv_iadd hx hb dL_law_733 ?_
  refine va_sld hx hb hX hbl hbA hS (vp_in_iff.mpr ⟨by omega, by omega⟩) dL_law_734 ?_
  refine lv_topi (fun x_7 ex_7 => ?_)
  have ex_7 : x_1 = x_7 := ex_1.trans ex_7.symm
  subst ex_7
  refine lv_aload_n hx hb dL_law_735 rfl (lv_at hl 4 rfl) ?_
  refine lv_iload hx hb dL_law_736 (lv_at hl 0 rfl) ?_
  refine lv_iconst (v := 2) hx hb dL_law_738 (by decide) ?_
  refine lv_iadd hx hb dL_law_739 ?_
  refine va_sld hx hb hX hbl hbA hS (vp_in_iff.mpr ⟨by omega, by omega⟩) dL_law_740 ?_
  refine lv_topi (fun x_8 ex_8 => ?_)
  have ex_8 : x_2 = x_8 := ex_2.trans ex_8.symm
  subst ex_8
  refine lv_aload_n hx hb dL_law_741 rfl (lv_at hl 4 rfl) ?_
  refine lv_iload hx hb dL_law_742 (lv_at hl 0 rfl) ?_
  refine lv_iconst (v := 3) hx hb dL_law_744 (by decide) ?_
  refine lv_iadd hx hb dL_law_745 ?_
  refine va_sld hx hb hX hbl hbA hS (vp_in_iff.mpr ⟨by omega, by omega⟩) dL_law_746 ?_
  refine lv_topi (fun x_9 ex_9 => ?_)
  have ex_9 : x_3 = x_9 := ex_3.trans ex_9.symm
  subst ex_9
  refine lv_aload_n hx hb dL_law_747 rfl (lv_at hl 4 rfl) ?_
  refine lv_iload hx hb dL_law_748 (lv_at hl 0 rfl) ?_
  refine lv_iconst (v := 4) hx hb dL_law_750 (by decide) ?_
  refine lv_iadd hx hb dL_law_751 ?_
  refine va_sld hx hb hX hbl hbA hS (vp_in_iff.mpr ⟨by omega, by omega⟩) dL_law_752 ?_
  refine lv_topi (fun x_10 ex_10 => ?_)
  have ex_10 : x_4 = x_10 := ex_4.trans ex_10.symm
  subst ex_10
  refine lv_aload_n hx hb dL_law_753 rfl (lv_at hl 4 rfl) ?_
  refine lv_iload hx hb dL_law_754 (lv_at hl 0 rfl) ?_
  refine lv_iconst (v := 5) hx hb dL_law_756 (by decide) ?_
  refine lv_iadd hx hb dL_law_757 ?_
  refine va_sld hx hb hX hbl hbA hS (vp_in_iff.mpr ⟨by omega, by omega⟩) dL_law_758 ?_
  refine lv_topi (fun x_11 ex_11 => ?_)
  have ex_11 : x_5 = x_11 := ex_5.trans ex_11.symm
  subst ex_11
  refine gw_callM (va_runV (As := [.int x_1, .int x_2, .int x_3, .int x_4, .int x_5]) (rest := []) ⟨hx, hb, hml, hown, hts⟩ (m_judge l G cy sK sV aM H.size sm hIM x_1 x_2 x_3 x_4 x_5 x_1.toInt x_2.toInt x_3.toInt x_4.toInt x_5.toInt rfl rfl rfl rfl rfl ) ⟨(gz_cb (n := 5) hts gm_1256 gm_12 gm_1259 ⟨by decide +kernel, by decide +kernel, by decide +kernel⟩ ⟨Nat.le_of_ble_eq_true rfl, Nat.le_of_ble_eq_true rfl⟩), hts _ gm_1257, hts _ gm_1258⟩ (gs_preV hK hov hE hAp.2.1 hW.2.1 hmM hS hA 0 0 (by decide) rfl rfl) rfl rfl hl.1 rfl (lv_room (Nat.le_of_ble_eq_true rfl)) dL_law_759 ⟨(by show cells ≤ 601024; omega), (by show slots ≤ 7293034; omega)⟩) hAp hmM hW hS hA (fun r_12 st_12 H locs hw_12 hW hS => ?_)
  obtain ⟨n_12, hw_12⟩ := hw_12
  obtain ⟨hRel, hEq⟩ := rel_judge (rX := r_6) (rM := r_12) (x := x_1) (y := x_2) (w := x_3) (v := x_4) (t := x_5) hRel hBX hIM n_6 n_12  hw_6 hw_12
  have hBX := n_6.1
  have hIM := mInv.keep n_12 hIM
  refine lv_pop hx hb dL_law_762 rfl ?_
  refine lv_goto (tgt := 1028) hx hb dL_law_763 (by decide) ?_
  exact hnext st_6 st_12 f H _ ls (cells) (slots) hBX hIM hRel (by omega) (by omega) hW hS (lv_sub hl [0, 1, 2, 3, 4] rfl)

set_option maxHeartbeats 4000000 in
set_option maxRecDepth 100000 in
theorem law_c15 {p : Program} {e : Env} {s : State} {m : MethodId} {below : List Frame} {meth : Method} {c : Code} (l : Launch) (hlt : l.stackTraces = false) {b L : Nat} {xs : Nat → Int32} (C0 : lw_At p s m meth c b L xs) (G : va_G) (cy : Nat → ClassId) (sK sV : Nat → Nat) (hK : va_K G vwCl (gzK cy) s) (hov : gOv s) (A : Nat → Prop) (hA : ∀ q, s.heap.size ≤ q → A q) (hAn : ∀ q, A q → s.heap.size ≤ q) (hE : gE sK sV A s s.heap) (aX aM : Nat → Nat → Nat) (o : Nat) (hAp : gAp aX aM o) (hmX : ∀ k i, i < cnX k → A (aX k i)) (hmM : ∀ k i, i < cnM k → A (aM k i)) (hAo : A o) (sx sm : gS) (f : Nat → Int64) (hBX : gBd bX sx) (hIM : mInv sm) (hRel : lRel sx sm) (iv : Int32) (hi0 : 0 ≤ iv.toInt) (hi1 : iv.toInt + 6 ≤ (L : Int)) (hLb : L ≤ 3072) (cells slots : Nat) (hcl : cells + 1 ≤ 601024) (hsl : slots + 6 ≤ 7293034) (H : Heap) (locs : List Loc) (ls : Array Slot) (hW : gWd G cy aX aM o sx sm f H) (hS : va_S A s.heap H locs) (hl : lv_has ls 7 [(4, .int iv), (3, .ref o), (2, .ref (aM 0 0)), (1, .ref (aX 0 0)), (0, .ref b)]) (hnext : (∀ (sx sm : gS) (f : Nat → Int64) (H : Heap) (locs : List Loc) (ls : Array Slot) (cells1 slots1 : Nat), gBd bX sx → mInv sm → lRel sx sm → cells1 ≤ cells + 1 → slots1 ≤ slots + 6 → gWd G cy aX aM o sx sm f H → va_S A s.heap H locs → lv_has ls 7 [(4, .int iv), (3, .ref o), (2, .ref (aM 0 0)), (1, .ref (aX 0 0)), (0, .ref b)] → W p l e room_1 s m #[Value.ref b] below meth c H locs cells1 slots1 (lw_Z below #[Value.ref b] s) (F0 m 1028 ls []))) : W p l e room_1 s m #[Value.ref b] below meth c H locs cells slots (lw_Z below #[Value.ref b] s) (F0 m 766 ls []) := by
  obtain ⟨hx, hb, hr, hml, hown, hts0, hX, hbl, hlocks, hgv⟩ := id C0
  have hts : ∀ w ∈ gz_T, w.before #[Value.ref b] s = true := fun w h => hts0 w (List.mem_filter.mp h).1
  have hown : s.vm.findClass RL = some m.cls := hown
  have hbA : ¬ A b := fun q => Nat.not_le.mpr hbl (hAn b q)
  have t1 : (iv + 1).toInt = iv.toInt + 1 := gz_addP rfl (by decide) (by omega) (by omega)
  have t2 : (iv + 2).toInt = iv.toInt + 2 := gz_addP rfl (by decide) (by omega) (by omega)
  have t3 : (iv + 3).toInt = iv.toInt + 3 := gz_addP rfl (by decide) (by omega) (by omega)
  have t4 : (iv + 4).toInt = iv.toInt + 4 := gz_addP rfl (by decide) (by omega) (by omega)
  have t5 : (iv + 5).toInt = iv.toInt + 5 := gz_addP rfl (by decide) (by omega) (by omega)
  obtain ⟨rs, hLa, hLM, hru, hwf, hun⟩ := hRel.law
  have bk28 : (0 : Int) ≤ (sm 0 0 28).toInt ∧ (sm 0 0 28).toInt ≤ (1 : Int) := hIM 0 0 28
  have hbk : (sm 0 0 28).toInt = (((sm 0 0 28).toNatClampNeg : Nat) : Int) := (gs_cl bk28.1).symm
  refine lv_aload_n hx hb dL_law_766 rfl (lv_at hl 3 rfl) ?_
  refine lv_aload_n hx hb dL_law_767 rfl (lv_at hl 4 rfl) ?_
  refine lv_iload hx hb dL_law_768 (lv_at hl 0 rfl) ?_
  refine lv_iconst (v := 1) hx hb dL_law_770 (by decide) ?_
  refine lv_iadd hx hb dL_law_771 ?_
  refine va_sld hx hb hX hbl hbA hS (vp_in_iff.mpr ⟨by omega, by omega⟩) dL_law_772 ?_
  refine lv_topi (fun x_1 ex_1 => ?_)
  refine lv_aload_n hx hb dL_law_773 rfl (lv_at hl 4 rfl) ?_
  refine lv_iload hx hb dL_law_774 (lv_at hl 0 rfl) ?_
  refine lv_iconst (v := 2) hx hb dL_law_776 (by decide) ?_
  refine lv_iadd hx hb dL_law_777 ?_
  refine va_sld hx hb hX hbl hbA hS (vp_in_iff.mpr ⟨by omega, by omega⟩) dL_law_778 ?_
  refine lv_topi (fun x_2 ex_2 => ?_)
  refine lv_aload_n hx hb dL_law_779 rfl (lv_at hl 4 rfl) ?_
  refine lv_iload hx hb dL_law_780 (lv_at hl 0 rfl) ?_
  refine lv_iconst (v := 3) hx hb dL_law_782 (by decide) ?_
  refine lv_iadd hx hb dL_law_783 ?_
  refine va_sld hx hb hX hbl hbA hS (vp_in_iff.mpr ⟨by omega, by omega⟩) dL_law_784 ?_
  refine lv_topi (fun x_3 ex_3 => ?_)
  refine lv_aload_n hx hb dL_law_785 rfl (lv_at hl 4 rfl) ?_
  refine lv_iload hx hb dL_law_786 (lv_at hl 0 rfl) ?_
  refine lv_iconst (v := 4) hx hb dL_law_788 (by decide) ?_
  refine lv_iadd hx hb dL_law_789 ?_
  refine va_sld hx hb hX hbl hbA hS (vp_in_iff.mpr ⟨by omega, by omega⟩) dL_law_790 ?_
  refine lv_topi (fun x_4 ex_4 => ?_)
  refine lv_aload_n hx hb dL_law_791 rfl (lv_at hl 4 rfl) ?_
  refine lv_iload hx hb dL_law_792 (lv_at hl 0 rfl) ?_
  refine lv_iconst (v := 5) hx hb dL_law_794 (by decide) ?_
  refine lv_iadd hx hb dL_law_795 ?_
  refine va_sld hx hb hX hbl hbA hS (vp_in_iff.mpr ⟨by omega, by omega⟩) dL_law_796 ?_
  refine lv_topi (fun x_5 ex_5 => ?_)
  refine gw_callX (va_runV (As := [.int x_1, .int x_2, .int x_3, .int x_4, .int x_5]) (rest := []) ⟨hx, hb, hml, hown, hts⟩ (s_herd l G cy sK sV aX H.size sx hBX x_1 x_2 x_3 x_4 x_5 x_1.toInt x_2.toInt x_3.toInt x_4.toInt x_5.toInt rfl rfl rfl rfl rfl ) ⟨(gz_cb (n := 5) hts gm_689 gm_1 gm_692 ⟨by decide +kernel, by decide +kernel, by decide +kernel⟩ ⟨Nat.le_of_ble_eq_true rfl, Nat.le_of_ble_eq_true rfl⟩), hts _ gm_690, hts _ gm_691⟩ (gs_preV hK hov hE hAp.1 hW.1 hmX hS hA 0 0 (by decide) rfl rfl) rfl rfl hl.1 rfl (lv_room (Nat.le_of_ble_eq_true rfl)) dL_law_797 ⟨(by show cells ≤ 601024; omega), (by show slots ≤ 7293034; omega)⟩) hAp hmX hW hS hA (fun r_6 st_6 H locs hw_6 hW hS => ?_)
  obtain ⟨n_6, hw_6⟩ := hw_6
  refine lv_pop hx hb dL_law_800 rfl ?_
  refine lv_aload_n hx hb dL_law_801 rfl (lv_at hl 2 rfl) ?_
  refine lv_aload_n hx hb dL_law_802 rfl (lv_at hl 4 rfl) ?_
  refine lv_iload hx hb dL_law_803 (lv_at hl 0 rfl) ?_
  refine lv_iconst (v := 1) hx hb dL_law_805 (by decide) ?_
  refine lv_iadd hx hb dL_law_806 ?_
  refine va_sld hx hb hX hbl hbA hS (vp_in_iff.mpr ⟨by omega, by omega⟩) dL_law_807 ?_
  refine lv_topi (fun x_7 ex_7 => ?_)
  have ex_7 : x_1 = x_7 := ex_1.trans ex_7.symm
  subst ex_7
  refine lv_aload_n hx hb dL_law_808 rfl (lv_at hl 4 rfl) ?_
  refine lv_iload hx hb dL_law_809 (lv_at hl 0 rfl) ?_
  refine lv_iconst (v := 2) hx hb dL_law_811 (by decide) ?_
  refine lv_iadd hx hb dL_law_812 ?_
  refine va_sld hx hb hX hbl hbA hS (vp_in_iff.mpr ⟨by omega, by omega⟩) dL_law_813 ?_
  refine lv_topi (fun x_8 ex_8 => ?_)
  have ex_8 : x_2 = x_8 := ex_2.trans ex_8.symm
  subst ex_8
  refine lv_aload_n hx hb dL_law_814 rfl (lv_at hl 4 rfl) ?_
  refine lv_iload hx hb dL_law_815 (lv_at hl 0 rfl) ?_
  refine lv_iconst (v := 3) hx hb dL_law_817 (by decide) ?_
  refine lv_iadd hx hb dL_law_818 ?_
  refine va_sld hx hb hX hbl hbA hS (vp_in_iff.mpr ⟨by omega, by omega⟩) dL_law_819 ?_
  refine lv_topi (fun x_9 ex_9 => ?_)
  have ex_9 : x_3 = x_9 := ex_3.trans ex_9.symm
  subst ex_9
  refine lv_aload_n hx hb dL_law_820 rfl (lv_at hl 4 rfl) ?_
  refine lv_iload hx hb dL_law_821 (lv_at hl 0 rfl) ?_
  refine lv_iconst (v := 4) hx hb dL_law_823 (by decide) ?_
  refine lv_iadd hx hb dL_law_824 ?_
  refine va_sld hx hb hX hbl hbA hS (vp_in_iff.mpr ⟨by omega, by omega⟩) dL_law_825 ?_
  refine lv_topi (fun x_10 ex_10 => ?_)
  have ex_10 : x_4 = x_10 := ex_4.trans ex_10.symm
  subst ex_10
  refine lv_aload_n hx hb dL_law_826 rfl (lv_at hl 4 rfl) ?_
  refine lv_iload hx hb dL_law_827 (lv_at hl 0 rfl) ?_
  refine lv_iconst (v := 5) hx hb dL_law_829 (by decide) ?_
  refine lv_iadd hx hb dL_law_830 ?_
  refine va_sld hx hb hX hbl hbA hS (vp_in_iff.mpr ⟨by omega, by omega⟩) dL_law_831 ?_
  refine lv_topi (fun x_11 ex_11 => ?_)
  have ex_11 : x_5 = x_11 := ex_5.trans ex_11.symm
  subst ex_11
  refine gw_callM (va_runV (As := [.int x_1, .int x_2, .int x_3, .int x_4, .int x_5]) (rest := []) ⟨hx, hb, hml, hown, hts⟩ (m_herd l G cy sK sV aM H.size sm hIM x_1 x_2 x_3 x_4 x_5 x_1.toInt x_2.toInt x_3.toInt x_4.toInt x_5.toInt rfl rfl rfl rfl rfl ) ⟨(gz_cb (n := 5) hts gm_1260 gm_12 gm_1263 ⟨by decide +kernel, by decide +kernel, by decide +kernel⟩ ⟨Nat.le_of_ble_eq_true rfl, Nat.le_of_ble_eq_true rfl⟩), hts _ gm_1261, hts _ gm_1262⟩ (gs_preV hK hov hE hAp.2.1 hW.2.1 hmM hS hA 0 0 (by decide) rfl rfl) rfl rfl hl.1 rfl (lv_room (Nat.le_of_ble_eq_true rfl)) dL_law_832 ⟨(by show cells ≤ 601024; omega), (by show slots ≤ 7293034; omega)⟩) hAp hmM hW hS hA (fun r_12 st_12 H locs hw_12 hW hS => ?_)
  obtain ⟨n_12, hw_12⟩ := hw_12
  have hRel := rel_herd (rX := r_6) (rM := r_12) (x := x_1) (y := x_2) (w := x_3) (v := x_4) (t := x_5) hRel hBX hIM n_6 n_12  hw_6 hw_12
  have hBX := n_6.1
  have hIM := mInv.keep n_12 hIM
  refine lv_pop hx hb dL_law_835 rfl ?_
  refine lv_goto (tgt := 1028) hx hb dL_law_836 (by decide) ?_
  exact hnext st_6 st_12 f H _ ls (cells) (slots) hBX hIM hRel (by omega) (by omega) hW hS (lv_sub hl [0, 1, 2, 3, 4] rfl)

set_option maxHeartbeats 4000000 in
set_option maxRecDepth 100000 in
theorem law_c16 {p : Program} {e : Env} {s : State} {m : MethodId} {below : List Frame} {meth : Method} {c : Code} (l : Launch) (hlt : l.stackTraces = false) {b L : Nat} {xs : Nat → Int32} (C0 : lw_At p s m meth c b L xs) (G : va_G) (cy : Nat → ClassId) (sK sV : Nat → Nat) (hK : va_K G vwCl (gzK cy) s) (hov : gOv s) (A : Nat → Prop) (hA : ∀ q, s.heap.size ≤ q → A q) (hAn : ∀ q, A q → s.heap.size ≤ q) (hE : gE sK sV A s s.heap) (aX aM : Nat → Nat → Nat) (o : Nat) (hAp : gAp aX aM o) (hmX : ∀ k i, i < cnX k → A (aX k i)) (hmM : ∀ k i, i < cnM k → A (aM k i)) (hAo : A o) (sx sm : gS) (f : Nat → Int64) (hBX : gBd bX sx) (hIM : mInv sm) (hRel : lRel sx sm) (iv : Int32) (hi0 : 0 ≤ iv.toInt) (hi1 : iv.toInt + 6 ≤ (L : Int)) (hLb : L ≤ 3072) (cells slots : Nat) (hcl : cells + 1 ≤ 601024) (hsl : slots + 6 ≤ 7293034) (H : Heap) (locs : List Loc) (ls : Array Slot) (hW : gWd G cy aX aM o sx sm f H) (hS : va_S A s.heap H locs) (hl : lv_has ls 7 [(4, .int iv), (3, .ref o), (2, .ref (aM 0 0)), (1, .ref (aX 0 0)), (0, .ref b)]) (hnext : (∀ (sx sm : gS) (f : Nat → Int64) (H : Heap) (locs : List Loc) (ls : Array Slot) (cells1 slots1 : Nat), gBd bX sx → mInv sm → lRel sx sm → cells1 ≤ cells + 1 → slots1 ≤ slots + 6 → gWd G cy aX aM o sx sm f H → va_S A s.heap H locs → lv_has ls 7 [(4, .int iv), (3, .ref o), (2, .ref (aM 0 0)), (1, .ref (aX 0 0)), (0, .ref b)] → W p l e room_1 s m #[Value.ref b] below meth c H locs cells1 slots1 (lw_Z below #[Value.ref b] s) (F0 m 1028 ls []))) : W p l e room_1 s m #[Value.ref b] below meth c H locs cells slots (lw_Z below #[Value.ref b] s) (F0 m 839 ls []) := by
  obtain ⟨hx, hb, hr, hml, hown, hts0, hX, hbl, hlocks, hgv⟩ := id C0
  have hts : ∀ w ∈ gz_T, w.before #[Value.ref b] s = true := fun w h => hts0 w (List.mem_filter.mp h).1
  have hown : s.vm.findClass RL = some m.cls := hown
  have hbA : ¬ A b := fun q => Nat.not_le.mpr hbl (hAn b q)
  have t1 : (iv + 1).toInt = iv.toInt + 1 := gz_addP rfl (by decide) (by omega) (by omega)
  have t2 : (iv + 2).toInt = iv.toInt + 2 := gz_addP rfl (by decide) (by omega) (by omega)
  have t3 : (iv + 3).toInt = iv.toInt + 3 := gz_addP rfl (by decide) (by omega) (by omega)
  have t4 : (iv + 4).toInt = iv.toInt + 4 := gz_addP rfl (by decide) (by omega) (by omega)
  have t5 : (iv + 5).toInt = iv.toInt + 5 := gz_addP rfl (by decide) (by omega) (by omega)
  obtain ⟨rs, hLa, hLM, hru, hwf, hun⟩ := hRel.law
  have bk28 : (0 : Int) ≤ (sm 0 0 28).toInt ∧ (sm 0 0 28).toInt ≤ (1 : Int) := hIM 0 0 28
  have hbk : (sm 0 0 28).toInt = (((sm 0 0 28).toNatClampNeg : Nat) : Int) := (gs_cl bk28.1).symm
  refine lv_aload_n hx hb dL_law_839 rfl (lv_at hl 3 rfl) ?_
  refine lv_aload_n hx hb dL_law_840 rfl (lv_at hl 4 rfl) ?_
  refine lv_iload hx hb dL_law_841 (lv_at hl 0 rfl) ?_
  refine lv_iconst (v := 1) hx hb dL_law_843 (by decide) ?_
  refine lv_iadd hx hb dL_law_844 ?_
  refine va_sld hx hb hX hbl hbA hS (vp_in_iff.mpr ⟨by omega, by omega⟩) dL_law_845 ?_
  refine lv_topi (fun x_1 ex_1 => ?_)
  refine gw_callX (va_runV (As := [.int x_1]) (rest := []) ⟨hx, hb, hml, hown, hts⟩ (s_drop l G cy sK sV aX H.size sx hBX x_1 x_1.toInt rfl ) ⟨(gz_cb (n := 1) hts gm_700 gm_1 gm_703 ⟨by decide +kernel, by decide +kernel, by decide +kernel⟩ ⟨Nat.le_of_ble_eq_true rfl, Nat.le_of_ble_eq_true rfl⟩), hts _ gm_701, hts _ gm_702⟩ (gs_preV hK hov hE hAp.1 hW.1 hmX hS hA 0 0 (by decide) rfl rfl) rfl rfl hl.1 rfl (lv_room (Nat.le_of_ble_eq_true rfl)) dL_law_846 ⟨(by show cells ≤ 601024; omega), (by show slots ≤ 7293034; omega)⟩) hAp hmX hW hS hA (fun r_2 st_2 H locs hw_2 hW hS => ?_)
  obtain ⟨n_2, hw_2⟩ := hw_2
  refine lv_pop hx hb dL_law_849 rfl ?_
  refine lv_aload_n hx hb dL_law_850 rfl (lv_at hl 2 rfl) ?_
  refine lv_aload_n hx hb dL_law_851 rfl (lv_at hl 4 rfl) ?_
  refine lv_iload hx hb dL_law_852 (lv_at hl 0 rfl) ?_
  refine lv_iconst (v := 1) hx hb dL_law_854 (by decide) ?_
  refine lv_iadd hx hb dL_law_855 ?_
  refine va_sld hx hb hX hbl hbA hS (vp_in_iff.mpr ⟨by omega, by omega⟩) dL_law_856 ?_
  refine lv_topi (fun x_3 ex_3 => ?_)
  have ex_3 : x_1 = x_3 := ex_1.trans ex_3.symm
  subst ex_3
  refine gw_callM (va_runV (As := [.int x_1]) (rest := []) ⟨hx, hb, hml, hown, hts⟩ (m_drop l G cy sK sV aM H.size sm hIM x_1 x_1.toInt rfl ) ⟨(gz_cb (n := 1) hts gm_1264 gm_12 gm_1267 ⟨by decide +kernel, by decide +kernel, by decide +kernel⟩ ⟨Nat.le_of_ble_eq_true rfl, Nat.le_of_ble_eq_true rfl⟩), hts _ gm_1265, hts _ gm_1266⟩ (gs_preV hK hov hE hAp.2.1 hW.2.1 hmM hS hA 0 0 (by decide) rfl rfl) rfl rfl hl.1 rfl (lv_room (Nat.le_of_ble_eq_true rfl)) dL_law_857 ⟨(by show cells ≤ 601024; omega), (by show slots ≤ 7293034; omega)⟩) hAp hmM hW hS hA (fun r_4 st_4 H locs hw_4 hW hS => ?_)
  obtain ⟨n_4, hw_4⟩ := hw_4
  have hRel := rel_drop (rX := r_2) (rM := r_4) (x := x_1) hRel hBX hIM n_2 n_4  hw_2 hw_4
  have hBX := n_2.1
  have hIM := mInv.keep n_4 hIM
  refine lv_pop hx hb dL_law_860 rfl ?_
  refine lv_goto (tgt := 1028) hx hb dL_law_861 (by decide) ?_
  exact hnext st_2 st_4 f H _ ls (cells) (slots) hBX hIM hRel (by omega) (by omega) hW hS (lv_sub hl [0, 1, 2, 3, 4] rfl)

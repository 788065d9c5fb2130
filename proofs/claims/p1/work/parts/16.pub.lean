theorem gm_332 : (Jvm.Cond.methodLink "WellCourt" (89 : Nat) ({ cls := "WellCourt$Tape", name := "append", desc := "(I)V" } : Jvm.MethodName)) ∈ gz_T := gz_at 332 (by decide +kernel) rfl
theorem gm_333 : (Jvm.Cond.instanceMethod ({ cls := "WellCourt$Tape", name := "append", desc := "(I)V" } : Jvm.MethodName)) ∈ gz_T := gz_at 333 (by decide +kernel) rfl
theorem gm_334 : (Jvm.Cond.selects "WellCourt$Tape" ({ cls := "WellCourt$Tape", name := "append", desc := "(I)V" } : Jvm.MethodName) ({ cls := "WellCourt$Tape", name := "append", desc := "(I)V" } : Jvm.MethodName)) ∈ gz_T := gz_at 334 (by decide +kernel) rfl
theorem gm_335 : (Jvm.Cond.code ({ cls := "WellCourt$Tape", name := "append", desc := "(I)V" } : Jvm.MethodName) prog_10_method_2_code (3 : Nat) (Option.none : Option Jvm.ClassFile.FieldType)) ∈ gz_T := gz_at 335 (by decide +kernel) rfl
theorem gm_351 : (Jvm.Cond.methodLink "WellCourt" (100 : Nat) ({ cls := "WellCourt", name := "isWithin", desc := "(III)Z" } : Jvm.MethodName)) ∈ gz_T := gz_at 351 (by decide +kernel) rfl
theorem gm_352 : (Jvm.Cond.static ({ cls := "WellCourt", name := "isWithin", desc := "(III)Z" } : Jvm.MethodName)) ∈ gz_T := gz_at 352 (by decide +kernel) rfl
theorem gm_353 : (Jvm.Cond.code ({ cls := "WellCourt", name := "isWithin", desc := "(III)Z" } : Jvm.MethodName) prog_1_method_29_code (3 : Nat) (Option.some Jvm.ClassFile.FieldType.boolean)) ∈ gz_T := gz_at 353 (by decide +kernel) rfl
theorem gm_358 : (Jvm.Cond.methodLink "WellCourt" (117 : Nat) ({ cls := "WellCourt$Law", name := "clear", desc := "()V" } : Jvm.MethodName)) ∈ gz_T := gz_at 358 (by decide +kernel) rfl
theorem gm_359 : (Jvm.Cond.instanceMethod ({ cls := "WellCourt$Law", name := "clear", desc := "()V" } : Jvm.MethodName)) ∈ gz_T := gz_at 359 (by decide +kernel) rfl
theorem gm_360 : (Jvm.Cond.selects "WellCourt$Law" ({ cls := "WellCourt$Law", name := "clear", desc := "()V" } : Jvm.MethodName) ({ cls := "WellCourt$Law", name := "clear", desc := "()V" } : Jvm.MethodName)) ∈ gz_T := gz_at 360 (by decide +kernel) rfl
theorem gm_361 : (Jvm.Cond.code ({ cls := "WellCourt$Law", name := "clear", desc := "()V" } : Jvm.MethodName) prog_6_method_2_code (1 : Nat) (Option.none : Option Jvm.ClassFile.FieldType)) ∈ gz_T := gz_at 361 (by decide +kernel) rfl
theorem gm_363 : (Jvm.Cond.methodLink "WellCourt" (120 : Nat) ({ cls := "WellCourt$Reader", name := "readText", desc := "(LWellCourt$Law;)Z" } : Jvm.MethodName)) ∈ gz_T := gz_at 363 (by decide +kernel) rfl
theorem gm_364 : (Jvm.Cond.instanceMethod ({ cls := "WellCourt$Reader", name := "readText", desc := "(LWellCourt$Law;)Z" } : Jvm.MethodName)) ∈ gz_T := gz_at 364 (by decide +kernel) rfl
theorem gm_365 : (Jvm.Cond.selects "WellCourt$Reader" ({ cls := "WellCourt$Reader", name := "readText", desc := "(LWellCourt$Law;)Z" } : Jvm.MethodName) ({ cls := "WellCourt$Reader", name := "readText", desc := "(LWellCourt$Law;)Z" } : Jvm.MethodName)) ∈ gz_T := gz_at 365 (by decide +kernel) rfl
theorem gm_366 : (Jvm.Cond.code ({ cls := "WellCourt$Reader", name := "readText", desc := "(LWellCourt$Law;)Z" } : Jvm.MethodName) prog_9_method_2_code (4 : Nat) (Option.some Jvm.ClassFile.FieldType.boolean)) ∈ gz_T := gz_at 366 (by decide +kernel) rfl
theorem gm_486 : (Jvm.Cond.static ({ cls := "WellCourt", name := "isClan", desc := "(I)Z" } : Jvm.MethodName)) ∈ gz_T := gz_at 486 (by decide +kernel) rfl
theorem gm_487 : (Jvm.Cond.code ({ cls := "WellCourt", name := "isClan", desc := "(I)Z" } : Jvm.MethodName) prog_1_method_31_code (1 : Nat) (Option.some Jvm.ClassFile.FieldType.boolean)) ∈ gz_T := gz_at 487 (by decide +kernel) rfl
theorem gm_532 : (Jvm.Cond.methodLink "WellCourt" (130 : Nat) ({ cls := "WellCourt$Calendar", name := "tellTurns", desc := "(LWellCourt$Law;I)V" } : Jvm.MethodName)) ∈ gz_T := gz_at 532 (by decide +kernel) rfl
theorem gm_533 : (Jvm.Cond.instanceMethod ({ cls := "WellCourt$Calendar", name := "tellTurns", desc := "(LWellCourt$Law;I)V" } : Jvm.MethodName)) ∈ gz_T := gz_at 533 (by decide +kernel) rfl
theorem gm_534 : (Jvm.Cond.selects "WellCourt$Calendar" ({ cls := "WellCourt$Calendar", name := "tellTurns", desc := "(LWellCourt$Law;I)V" } : Jvm.MethodName) ({ cls := "WellCourt$Calendar", name := "tellTurns", desc := "(LWellCourt$Law;I)V" } : Jvm.MethodName)) ∈ gz_T := gz_at 534 (by decide +kernel) rfl
theorem gm_535 : (Jvm.Cond.code ({ cls := "WellCourt$Calendar", name := "tellTurns", desc := "(LWellCourt$Law;I)V" } : Jvm.MethodName) prog_2_method_3_code (5 : Nat) (Option.none : Option Jvm.ClassFile.FieldType)) ∈ gz_T := gz_at 535 (by decide +kernel) rfl
theorem gm_543 : (Jvm.Cond.methodLink "WellCourt" (134 : Nat) ({ cls := "WellCourt", name := "settleToday", desc := "()V" } : Jvm.MethodName)) ∈ gz_T := gz_at 543 (by decide +kernel) rfl
theorem gm_545 : (Jvm.Cond.instanceMethod ({ cls := "WellCourt", name := "settleToday", desc := "()V" } : Jvm.MethodName)) ∈ gz_T := gz_at 545 (by decide +kernel) rfl
theorem gm_546 : (Jvm.Cond.code ({ cls := "WellCourt", name := "settleToday", desc := "()V" } : Jvm.MethodName) prog_1_method_24_code (1 : Nat) (Option.none : Option Jvm.ClassFile.FieldType)) ∈ gz_T := gz_at 546 (by decide +kernel) rfl
theorem gm_575 : (Jvm.Cond.methodLink "WellCourt" (140 : Nat) ({ cls := "WellCourt$Day", name := "grow", desc := "(LWellCourt$Day;LWellCourt$Land;)V" } : Jvm.MethodName)) ∈ gz_T := gz_at 575 (by decide +kernel) rfl
theorem gm_576 : (Jvm.Cond.instanceMethod ({ cls := "WellCourt$Day", name := "grow", desc := "(LWellCourt$Day;LWellCourt$Land;)V" } : Jvm.MethodName)) ∈ gz_T := gz_at 576 (by decide +kernel) rfl
theorem gm_577 : (Jvm.Cond.selects "WellCourt$Day" ({ cls := "WellCourt$Day", name := "grow", desc := "(LWellCourt$Day;LWellCourt$Land;)V" } : Jvm.MethodName) ({ cls := "WellCourt$Day", name := "grow", desc := "(LWellCourt$Day;LWellCourt$Land;)V" } : Jvm.MethodName)) ∈ gz_T := gz_at 577 (by decide +kernel) rfl
theorem gm_578 : (Jvm.Cond.code ({ cls := "WellCourt$Day", name := "grow", desc := "(LWellCourt$Day;LWellCourt$Land;)V" } : Jvm.MethodName) prog_3_method_3_code (4 : Nat) (Option.none : Option Jvm.ClassFile.FieldType)) ∈ gz_T := gz_at 578 (by decide +kernel) rfl
theorem gm_587 : (Jvm.Cond.methodLink "WellCourt" (144 : Nat) ({ cls := "WellCourt", name := "isWellThere", desc := "(I)Z" } : Jvm.MethodName)) ∈ gz_T := gz_at 587 (by decide +kernel) rfl
theorem gm_589 : (Jvm.Cond.instanceMethod ({ cls := "WellCourt", name := "isWellThere", desc := "(I)Z" } : Jvm.MethodName)) ∈ gz_T := gz_at 589 (by decide +kernel) rfl
theorem gm_590 : (Jvm.Cond.code ({ cls := "WellCourt", name := "isWellThere", desc := "(I)Z" } : Jvm.MethodName) prog_1_method_25_code (2 : Nat) (Option.some Jvm.ClassFile.FieldType.boolean)) ∈ gz_T := gz_at 590 (by decide +kernel) rfl
theorem gm_595 : (Jvm.Cond.methodLink "WellCourt" (147 : Nat) ({ cls := "WellCourt$Calendar", name := "ownerOn", desc := "(II)I" } : Jvm.MethodName)) ∈ gz_T := gz_at 595 (by decide +kernel) rfl
theorem gm_600 : (Jvm.Cond.methodLink "WellCourt" (151 : Nat) ({ cls := "WellCourt", name := "isClan", desc := "(I)Z" } : Jvm.MethodName)) ∈ gz_T := gz_at 600 (by decide +kernel) rfl
theorem gm_630 : (Jvm.Cond.methodLink "WellCourt" (157 : Nat) ({ cls := "WellCourt$Calendar", name := "exchange", desc := "(III)I" } : Jvm.MethodName)) ∈ gz_T := gz_at 630 (by decide +kernel) rfl
theorem gm_631 : (Jvm.Cond.instanceMethod ({ cls := "WellCourt$Calendar", name := "exchange", desc := "(III)I" } : Jvm.MethodName)) ∈ gz_T := gz_at 631 (by decide +kernel) rfl
theorem gm_632 : (Jvm.Cond.selects "WellCourt$Calendar" ({ cls := "WellCourt$Calendar", name := "exchange", desc := "(III)I" } : Jvm.MethodName) ({ cls := "WellCourt$Calendar", name := "exchange", desc := "(III)I" } : Jvm.MethodName)) ∈ gz_T := gz_at 632 (by decide +kernel) rfl
theorem gm_633 : (Jvm.Cond.code ({ cls := "WellCourt$Calendar", name := "exchange", desc := "(III)I" } : Jvm.MethodName) prog_2_method_5_code (6 : Nat) (Option.some Jvm.ClassFile.FieldType.int)) ∈ gz_T := gz_at 633 (by decide +kernel) rfl
theorem gm_639 : (Jvm.Cond.methodLink "WellCourt" (161 : Nat) ({ cls := "WellCourt", name := "canBeDrawn", desc := "(III)Z" } : Jvm.MethodName)) ∈ gz_T := gz_at 639 (by decide +kernel) rfl
theorem gm_641 : (Jvm.Cond.instanceMethod ({ cls := "WellCourt", name := "canBeDrawn", desc := "(III)Z" } : Jvm.MethodName)) ∈ gz_T := gz_at 641 (by decide +kernel) rfl
theorem gm_642 : (Jvm.Cond.code ({ cls := "WellCourt", name := "canBeDrawn", desc := "(III)Z" } : Jvm.MethodName) prog_1_method_27_code (4 : Nat) (Option.some Jvm.ClassFile.FieldType.boolean)) ∈ gz_T := gz_at 642 (by decide +kernel) rfl
theorem gm_663 : (Jvm.Cond.methodLink "WellCourt" (175 : Nat) ({ cls := "WellCourt$Ledger", name := "has", desc := "(I)Z" } : Jvm.MethodName)) ∈ gz_T := gz_at 663 (by decide +kernel) rfl
theorem gm_664 : (Jvm.Cond.instanceMethod ({ cls := "WellCourt$Ledger", name := "has", desc := "(I)Z" } : Jvm.MethodName)) ∈ gz_T := gz_at 664 (by decide +kernel) rfl
theorem gm_665 : (Jvm.Cond.selects "WellCourt$Ledger" ({ cls := "WellCourt$Ledger", name := "has", desc := "(I)Z" } : Jvm.MethodName) ({ cls := "WellCourt$Ledger", name := "has", desc := "(I)Z" } : Jvm.MethodName)) ∈ gz_T := gz_at 665 (by decide +kernel) rfl
theorem gm_666 : (Jvm.Cond.code ({ cls := "WellCourt$Ledger", name := "has", desc := "(I)Z" } : Jvm.MethodName) prog_7_method_2_code (2 : Nat) (Option.some Jvm.ClassFile.FieldType.boolean)) ∈ gz_T := gz_at 666 (by decide +kernel) rfl
theorem gm_671 : (Jvm.Cond.methodLink "WellCourt" (191 : Nat) ({ cls := "WellCourt$Ledger", name := "sum", desc := "(IIIZ)I" } : Jvm.MethodName)) ∈ gz_T := gz_at 671 (by decide +kernel) rfl
theorem gm_672 : (Jvm.Cond.instanceMethod ({ cls := "WellCourt$Ledger", name := "sum", desc := "(IIIZ)I" } : Jvm.MethodName)) ∈ gz_T := gz_at 672 (by decide +kernel) rfl
theorem gm_673 : (Jvm.Cond.selects "WellCourt$Ledger" ({ cls := "WellCourt$Ledger", name := "sum", desc := "(IIIZ)I" } : Jvm.MethodName) ({ cls := "WellCourt$Ledger", name := "sum", desc := "(IIIZ)I" } : Jvm.MethodName)) ∈ gz_T := gz_at 673 (by decide +kernel) rfl
theorem gm_674 : (Jvm.Cond.code ({ cls := "WellCourt$Ledger", name := "sum", desc := "(IIIZ)I" } : Jvm.MethodName) prog_7_method_5_code (7 : Nat) (Option.some Jvm.ClassFile.FieldType.int)) ∈ gz_T := gz_at 674 (by decide +kernel) rfl
theorem gm_676 : (Jvm.Cond.methodLink "WellCourt" (195 : Nat) ({ cls := "WellCourt$Ledger", name := "sumKnown", desc := "(IIIZI)I" } : Jvm.MethodName)) ∈ gz_T := gz_at 676 (by decide +kernel) rfl
theorem gm_677 : (Jvm.Cond.instanceMethod ({ cls := "WellCourt$Ledger", name := "sumKnown", desc := "(IIIZI)I" } : Jvm.MethodName)) ∈ gz_T := gz_at 677 (by decide +kernel) rfl
theorem gm_678 : (Jvm.Cond.selects "WellCourt$Ledger" ({ cls := "WellCourt$Ledger", name := "sumKnown", desc := "(IIIZI)I" } : Jvm.MethodName) ({ cls := "WellCourt$Ledger", name := "sumKnown", desc := "(IIIZI)I" } : Jvm.MethodName)) ∈ gz_T := gz_at 678 (by decide +kernel) rfl
theorem gm_679 : (Jvm.Cond.code ({ cls := "WellCourt$Ledger", name := "sumKnown", desc := "(IIIZI)I" } : Jvm.MethodName) prog_7_method_6_code (8 : Nat) (Option.some Jvm.ClassFile.FieldType.int)) ∈ gz_T := gz_at 679 (by decide +kernel) rfl
theorem gm_684 : (Jvm.Cond.methodLink "WellCourt" (199 : Nat) ({ cls := "WellCourt", name := "fine", desc := "(IIII)I" } : Jvm.MethodName)) ∈ gz_T := gz_at 684 (by decide +kernel) rfl
theorem gm_686 : (Jvm.Cond.instanceMethod ({ cls := "WellCourt", name := "fine", desc := "(IIII)I" } : Jvm.MethodName)) ∈ gz_T := gz_at 686 (by decide +kernel) rfl
theorem gm_687 : (Jvm.Cond.code ({ cls := "WellCourt", name := "fine", desc := "(IIII)I" } : Jvm.MethodName) prog_1_method_28_code (7 : Nat) (Option.some Jvm.ClassFile.FieldType.int)) ∈ gz_T := gz_at 687 (by decide +kernel) rfl
theorem gm_688 : (Jvm.Cond.methodLink "WellCourt" (262 : Nat) ({ cls := "java/lang/Math", name := "max", desc := "(II)I" } : Jvm.MethodName)) ∈ gz_T := gz_at 688 (by decide +kernel) rfl
theorem gm_693 : (Jvm.Cond.methodLink "WellCourt" (203 : Nat) ({ cls := "WellCourt", name := "isHerd", desc := "(I)Z" } : Jvm.MethodName)) ∈ gz_T := gz_at 693 (by decide +kernel) rfl
theorem gm_704 : (Jvm.Cond.methodLink "WellCourt" (216 : Nat) ({ cls := "WellCourt$Flock", name := "isThere", desc := "(I)Z" } : Jvm.MethodName)) ∈ gz_T := gz_at 704 (by decide +kernel) rfl
theorem gm_716 : (Jvm.Cond.methodLink "WellCourt" (242 : Nat) ({ cls := "WellCourt$Planner", name := "actOf", desc := "(II)I" } : Jvm.MethodName)) ∈ gz_T := gz_at 716 (by decide +kernel) rfl
theorem gm_717 : (Jvm.Cond.instanceMethod ({ cls := "WellCourt$Planner", name := "actOf", desc := "(II)I" } : Jvm.MethodName)) ∈ gz_T := gz_at 717 (by decide +kernel) rfl
theorem gm_718 : (Jvm.Cond.selects "WellCourt$Planner" ({ cls := "WellCourt$Planner", name := "actOf", desc := "(II)I" } : Jvm.MethodName) ({ cls := "WellCourt$Planner", name := "actOf", desc := "(II)I" } : Jvm.MethodName)) ∈ gz_T := gz_at 718 (by decide +kernel) rfl
theorem gm_719 : (Jvm.Cond.code ({ cls := "WellCourt$Planner", name := "actOf", desc := "(II)I" } : Jvm.MethodName) prog_8_method_4_code (3 : Nat) (Option.some Jvm.ClassFile.FieldType.int)) ∈ gz_T := gz_at 719 (by decide +kernel) rfl
theorem gm_729 : (Jvm.Cond.methodLink "WellCourt" (248 : Nat) ({ cls := "WellCourt$Land", name := "size", desc := "()I" } : Jvm.MethodName)) ∈ gz_T := gz_at 729 (by decide +kernel) rfl
theorem gm_730 : (Jvm.Cond.instanceMethod ({ cls := "WellCourt$Land", name := "size", desc := "()I" } : Jvm.MethodName)) ∈ gz_T := gz_at 730 (by decide +kernel) rfl
theorem gm_731 : (Jvm.Cond.selects "WellCourt$Land" ({ cls := "WellCourt$Land", name := "size", desc := "()I" } : Jvm.MethodName) ({ cls := "WellCourt$Land", name := "size", desc := "()I" } : Jvm.MethodName)) ∈ gz_T := gz_at 731 (by decide +kernel) rfl
theorem gm_732 : (Jvm.Cond.code ({ cls := "WellCourt$Land", name := "size", desc := "()I" } : Jvm.MethodName) prog_5_method_3_code (3 : Nat) (Option.some Jvm.ClassFile.FieldType.int)) ∈ gz_T := gz_at 732 (by decide +kernel) rfl
theorem gm_734 : (Jvm.Cond.methodLink "WellCourt" (229 : Nat) ({ cls := "WellCourt$Flock", name := "size", desc := "()I" } : Jvm.MethodName)) ∈ gz_T := gz_at 734 (by decide +kernel) rfl
theorem gm_735 : (Jvm.Cond.instanceMethod ({ cls := "WellCourt$Flock", name := "size", desc := "()I" } : Jvm.MethodName)) ∈ gz_T := gz_at 735 (by decide +kernel) rfl
theorem gm_736 : (Jvm.Cond.selects "WellCourt$Flock" ({ cls := "WellCourt$Flock", name := "size", desc := "()I" } : Jvm.MethodName) ({ cls := "WellCourt$Flock", name := "size", desc := "()I" } : Jvm.MethodName)) ∈ gz_T := gz_at 736 (by decide +kernel) rfl
theorem gm_737 : (Jvm.Cond.code ({ cls := "WellCourt$Flock", name := "size", desc := "()I" } : Jvm.MethodName) prog_4_method_4_code (3 : Nat) (Option.some Jvm.ClassFile.FieldType.int)) ∈ gz_T := gz_at 737 (by decide +kernel) rfl
theorem gn_40 : (Jvm.Cond.fieldLinkNest "WellCourt" (86 : Nat) "WellCourt$Tape" "size" "I" "WellCourt") ∈ gzN := gz_nest 40 (by decide +kernel) rfl
theorem gn_58 : (Jvm.Cond.fieldLinkNest "WellCourt" (124 : Nat) "WellCourt$Reader" "faultKind" "I" "WellCourt") ∈ gzN := gz_nest 58 (by decide +kernel) rfl
theorem gn_84 : (Jvm.Cond.fieldLinkNest "WellCourt" (104 : Nat) "WellCourt$Land" "cap" "[I" "WellCourt") ∈ gzN := gz_nest 84 (by decide +kernel) rfl
theorem gn_87 : (Jvm.Cond.fieldLinkNest "WellCourt" (108 : Nat) "WellCourt$Land" "rate" "[I" "WellCourt") ∈ gzN := gz_nest 87 (by decide +kernel) rfl
theorem gn_90 : (Jvm.Cond.fieldLinkNest "WellCourt" (220 : Nat) "WellCourt$Land" "wayDays" "[[I" "WellCourt") ∈ gzN := gz_nest 90 (by decide +kernel) rfl
theorem gn_121 : (Jvm.Cond.fieldLinkNest "WellCourt" (111 : Nat) "WellCourt$Day" "level" "[I" "WellCourt") ∈ gzN := gz_nest 121 (by decide +kernel) rfl
theorem gn_124 : (Jvm.Cond.fieldLinkNest "WellCourt" (114 : Nat) "WellCourt$Day" "morning" "[I" "WellCourt") ∈ gzN := gz_nest 124 (by decide +kernel) rfl
theorem gn_144 : (Jvm.Cond.fieldLinkNest "WellCourt" (249 : Nat) "WellCourt$Ledger" "size" "I" "WellCourt") ∈ gzN := gz_nest 144 (by decide +kernel) rfl
theorem gn_190 : (Jvm.Cond.fieldLinkNest "WellCourt" (137 : Nat) "WellCourt$Law" "rules" "I" "WellCourt") ∈ gzN := gz_nest 190 (by decide +kernel) rfl
theorem gn_254 : (Jvm.Cond.fieldLinkNest "WellCourt" (232 : Nat) "WellCourt$Planner" "looks" "I" "WellCourt") ∈ gzN := gz_nest 254 (by decide +kernel) rfl
theorem gn_256 : (Jvm.Cond.fieldLinkNest "WellCourt" (245 : Nat) "WellCourt$Planner" "reach" "I" "WellCourt") ∈ gzN := gz_nest 256 (by decide +kernel) rfl
theorem gs_16 : (Jvm.Cond.selects "WellCourt" ({ cls := "WellCourt", name := "settleToday", desc := "()V" } : Jvm.MethodName) ({ cls := "WellCourt", name := "settleToday", desc := "()V" } : Jvm.MethodName)) ∈ gz_T := gz_sel 16 (by decide +kernel) rfl
theorem gs_17 : (Jvm.Cond.selects "WellCourt" ({ cls := "WellCourt", name := "isWellThere", desc := "(I)Z" } : Jvm.MethodName) ({ cls := "WellCourt", name := "isWellThere", desc := "(I)Z" } : Jvm.MethodName)) ∈ gz_T := gz_sel 17 (by decide +kernel) rfl
theorem gs_19 : (Jvm.Cond.selects "WellCourt" ({ cls := "WellCourt", name := "canBeDrawn", desc := "(III)Z" } : Jvm.MethodName) ({ cls := "WellCourt", name := "canBeDrawn", desc := "(III)Z" } : Jvm.MethodName)) ∈ gz_T := gz_sel 19 (by decide +kernel) rfl
theorem gs_22 : (Jvm.Cond.selects "WellCourt" ({ cls := "WellCourt", name := "fine", desc := "(IIII)I" } : Jvm.MethodName) ({ cls := "WellCourt", name := "fine", desc := "(IIII)I" } : Jvm.MethodName)) ∈ gz_T := gz_sel 22 (by decide +kernel) rfl
theorem dX9_canBeDrawn_0 : decode cX9_canBeDrawn 0 = .ok (.aload_n 0, 1) := by decide +kernel
theorem dX9_canBeDrawn_1 : decode cX9_canBeDrawn 1 = .ok (.iload_n 1, 1) := by decide +kernel
theorem dX9_canBeDrawn_2 : decode cX9_canBeDrawn 2 = .ok (.invokevirtual 144, 3) := by decide +kernel
theorem dX9_canBeDrawn_5 : decode cX9_canBeDrawn 5 = .ok (.ifCond .eq 38, 3) := by decide +kernel
theorem dX9_canBeDrawn_43 : decode cX9_canBeDrawn 43 = .ok (.iconst 0, 1) := by decide +kernel
theorem dX9_canBeDrawn_44 : decode cX9_canBeDrawn 44 = .ok (.ireturn, 1) := by decide +kernel
theorem dX9_count_0 : decode cX9_count 0 = .ok (.iload_n 1, 1) := by decide +kernel
theorem dX9_count_1 : decode cX9_count 1 = .ok (.tableswitch 96 0 6 #[43, 48, 56, 64, 72, 80, 88], 43) := by decide +kernel
theorem dX9_count_44 : decode cX9_count 44 = .ok (.aload_n 0, 1) := by decide +kernel
theorem dX9_count_45 : decode cX9_count 45 = .ok (.getfield 79, 3) := by decide +kernel
theorem dX9_count_48 : decode cX9_count 48 = .ok (.ireturn, 1) := by decide +kernel
theorem dX9_count_49 : decode cX9_count 49 = .ok (.aload_n 0, 1) := by decide +kernel
theorem dX9_count_50 : decode cX9_count 50 = .ok (.getfield 28, 3) := by decide +kernel
theorem dX9_count_53 : decode cX9_count 53 = .ok (.invokevirtual 248, 3) := by decide +kernel
theorem dX9_count_56 : decode cX9_count 56 = .ok (.ireturn, 1) := by decide +kernel
theorem dX9_count_57 : decode cX9_count 57 = .ok (.aload_n 0, 1) := by decide +kernel
theorem dX9_count_58 : decode cX9_count 58 = .ok (.getfield 63, 3) := by decide +kernel
theorem dX9_count_61 : decode cX9_count 61 = .ok (.getfield 137, 3) := by decide +kernel
theorem dX9_count_64 : decode cX9_count 64 = .ok (.ireturn, 1) := by decide +kernel
theorem dX9_count_65 : decode cX9_count 65 = .ok (.aload_n 0, 1) := by decide +kernel
theorem dX9_count_66 : decode cX9_count 66 = .ok (.getfield 56, 3) := by decide +kernel
theorem dX9_count_69 : decode cX9_count 69 = .ok (.invokevirtual 229, 3) := by decide +kernel
theorem dX9_count_72 : decode cX9_count 72 = .ok (.ireturn, 1) := by decide +kernel
theorem dX9_count_73 : decode cX9_count 73 = .ok (.aload_n 0, 1) := by decide +kernel
theorem dX9_count_74 : decode cX9_count 74 = .ok (.getfield 49, 3) := by decide +kernel
theorem dX9_count_77 : decode cX9_count 77 = .ok (.getfield 249, 3) := by decide +kernel
theorem dX9_count_80 : decode cX9_count 80 = .ok (.ireturn, 1) := by decide +kernel
theorem dX9_count_81 : decode cX9_count 81 = .ok (.aload_n 0, 1) := by decide +kernel
theorem dX9_count_82 : decode cX9_count 82 = .ok (.getfield 10, 3) := by decide +kernel
theorem dX9_count_85 : decode cX9_count 85 = .ok (.getfield 86, 3) := by decide +kernel
theorem dX9_count_88 : decode cX9_count 88 = .ok (.ireturn, 1) := by decide +kernel
theorem dX9_count_89 : decode cX9_count 89 = .ok (.aload_n 0, 1) := by decide +kernel
theorem dX9_count_90 : decode cX9_count 90 = .ok (.getfield 75, 3) := by decide +kernel
theorem dX9_count_93 : decode cX9_count 93 = .ok (.getfield 232, 3) := by decide +kernel
theorem dX9_count_96 : decode cX9_count 96 = .ok (.ireturn, 1) := by decide +kernel
theorem dX9_count_97 : decode cX9_count 97 = .ok (.iconst (-1), 1) := by decide +kernel
theorem dX9_count_98 : decode cX9_count 98 = .ok (.ireturn, 1) := by decide +kernel
theorem dX9_draw_0 : decode cX9_draw 0 = .ok (.aload_n 0, 1) := by decide +kernel
theorem dX9_draw_1 : decode cX9_draw 1 = .ok (.iload_n 1, 1) := by decide +kernel
theorem dX9_draw_2 : decode cX9_draw 2 = .ok (.iload_n 2, 1) := by decide +kernel
theorem dX9_draw_3 : decode cX9_draw 3 = .ok (.iload_n 3, 1) := by decide +kernel
theorem dX9_draw_4 : decode cX9_draw 4 = .ok (.invokevirtual 161, 3) := by decide +kernel
theorem dX9_draw_7 : decode cX9_draw 7 = .ok (.ifCond .ne 5, 3) := by decide +kernel
theorem dX9_draw_10 : decode cX9_draw 10 = .ok (.iconst 1, 1) := by decide +kernel
theorem dX9_draw_11 : decode cX9_draw 11 = .ok (.ireturn, 1) := by decide +kernel
theorem dX9_drop_0 : decode cX9_drop 0 = .ok (.iload_n 1, 1) := by decide +kernel
theorem dX9_drop_1 : decode cX9_drop 1 = .ok (.invokestatic 203, 3) := by decide +kernel
theorem dX9_drop_4 : decode cX9_drop 4 = .ok (.ifCond .eq 14, 3) := by decide +kernel
theorem dX9_drop_7 : decode cX9_drop 7 = .ok (.aload_n 0, 1) := by decide +kernel
theorem dX9_drop_8 : decode cX9_drop 8 = .ok (.getfield 56, 3) := by decide +kernel
theorem dX9_drop_11 : decode cX9_drop 11 = .ok (.iload_n 1, 1) := by decide +kernel
theorem dX9_drop_12 : decode cX9_drop 12 = .ok (.invokevirtual 216, 3) := by decide +kernel
theorem dX9_drop_15 : decode cX9_drop 15 = .ok (.ifCond .ne 5, 3) := by decide +kernel
theorem dX9_drop_18 : decode cX9_drop 18 = .ok (.iconst 0, 1) := by decide +kernel
theorem dX9_drop_19 : decode cX9_drop 19 = .ok (.ireturn, 1) := by decide +kernel
theorem dX9_end_0 : decode cX9_end 0 = .ok (.iload_n 1, 1) := by decide +kernel
theorem dX9_end_1 : decode cX9_end 1 = .ok (.ifCond .lt 14, 3) := by decide +kernel
theorem dX9_end_4 : decode cX9_end 4 = .ok (.iload_n 1, 1) := by decide +kernel
theorem dX9_end_5 : decode cX9_end 5 = .ok (.aload_n 0, 1) := by decide +kernel
theorem dX9_end_6 : decode cX9_end 6 = .ok (.getfield 10, 3) := by decide +kernel
theorem dX9_end_9 : decode cX9_end 9 = .ok (.getfield 86, 3) := by decide +kernel
theorem dX9_end_12 : decode cX9_end 12 = .ok (.if_icmp .le 5, 3) := by decide +kernel
theorem dX9_end_15 : decode cX9_end 15 = .ok (.iconst 0, 1) := by decide +kernel
theorem dX9_end_16 : decode cX9_end 16 = .ok (.ireturn, 1) := by decide +kernel
theorem dX9_end_17 : decode cX9_end 17 = .ok (.aload_n 0, 1) := by decide +kernel
theorem dX9_end_18 : decode cX9_end 18 = .ok (.getfield 10, 3) := by decide +kernel
theorem dX9_end_21 : decode cX9_end 21 = .ok (.iload_n 1, 1) := by decide +kernel
theorem dX9_end_22 : decode cX9_end 22 = .ok (.putfield 86, 3) := by decide +kernel
theorem dX9_end_25 : decode cX9_end 25 = .ok (.iconst 1, 1) := by decide +kernel
theorem dX9_end_26 : decode cX9_end 26 = .ok (.ireturn, 1) := by decide +kernel
theorem dX9_far_0 : decode cX9_far 0 = .ok (.aload_n 0, 1) := by decide +kernel
theorem dX9_far_1 : decode cX9_far 1 = .ok (.getfield 75, 3) := by decide +kernel
theorem dX9_far_4 : decode cX9_far 4 = .ok (.getfield 245, 3) := by decide +kernel
theorem dX9_far_7 : decode cX9_far 7 = .ok (.ireturn, 1) := by decide +kernel
theorem dX9_fault_0 : decode cX9_fault 0 = .ok (.aload_n 0, 1) := by decide +kernel
theorem dX9_fault_1 : decode cX9_fault 1 = .ok (.getfield 83, 3) := by decide +kernel
theorem dX9_fault_4 : decode cX9_fault 4 = .ok (.ireturn, 1) := by decide +kernel
theorem dX9_feed_0 : decode cX9_feed 0 = .ok (.aload_n 0, 1) := by decide +kernel
theorem dX9_feed_1 : decode cX9_feed 1 = .ok (.getfield 10, 3) := by decide +kernel
theorem dX9_feed_4 : decode cX9_feed 4 = .ok (.getfield 86, 3) := by decide +kernel
theorem dX9_feed_7 : decode cX9_feed 7 = .ok (.bipush 20, 2) := by decide +kernel
theorem dX9_feed_9 : decode cX9_feed 9 = .ok (.iadd, 1) := by decide +kernel
theorem dX9_feed_10 : decode cX9_feed 10 = .ok (.sipush 800, 3) := by decide +kernel
theorem dX9_feed_13 : decode cX9_feed 13 = .ok (.if_icmp .le 5, 3) := by decide +kernel
theorem dX9_feed_18 : decode cX9_feed 18 = .ok (.aload_n 0, 1) := by decide +kernel
theorem dX9_feed_19 : decode cX9_feed 19 = .ok (.getfield 10, 3) := by decide +kernel
theorem dX9_feed_22 : decode cX9_feed 22 = .ok (.iload_n 1, 1) := by decide +kernel
theorem dX9_feed_23 : decode cX9_feed 23 = .ok (.invokevirtual 89, 3) := by decide +kernel
theorem dX9_feed_26 : decode cX9_feed 26 = .ok (.aload_n 0, 1) := by decide +kernel
theorem dX9_feed_27 : decode cX9_feed 27 = .ok (.getfield 10, 3) := by decide +kernel
theorem dX9_feed_30 : decode cX9_feed 30 = .ok (.iload_n 2, 1) := by decide +kernel
theorem dX9_feed_31 : decode cX9_feed 31 = .ok (.invokevirtual 89, 3) := by decide +kernel
theorem dX9_feed_34 : decode cX9_feed 34 = .ok (.aload_n 0, 1) := by decide +kernel
theorem dX9_feed_35 : decode cX9_feed 35 = .ok (.getfield 10, 3) := by decide +kernel
theorem dX9_feed_38 : decode cX9_feed 38 = .ok (.iload_n 3, 1) := by decide +kernel
theorem dX9_feed_39 : decode cX9_feed 39 = .ok (.invokevirtual 89, 3) := by decide +kernel
theorem dX9_feed_42 : decode cX9_feed 42 = .ok (.aload_n 0, 1) := by decide +kernel
theorem dX9_feed_43 : decode cX9_feed 43 = .ok (.getfield 10, 3) := by decide +kernel
theorem dX9_feed_46 : decode cX9_feed 46 = .ok (.iload 4, 2) := by decide +kernel
theorem dX9_feed_48 : decode cX9_feed 48 = .ok (.invokevirtual 89, 3) := by decide +kernel
theorem dX9_feed_51 : decode cX9_feed 51 = .ok (.aload_n 0, 1) := by decide +kernel
theorem dX9_feed_52 : decode cX9_feed 52 = .ok (.getfield 10, 3) := by decide +kernel
theorem dX9_feed_55 : decode cX9_feed 55 = .ok (.iload 5, 2) := by decide +kernel
theorem dX9_feed_57 : decode cX9_feed 57 = .ok (.invokevirtual 89, 3) := by decide +kernel
theorem dX9_feed_60 : decode cX9_feed 60 = .ok (.aload_n 0, 1) := by decide +kernel
theorem dX9_feed_61 : decode cX9_feed 61 = .ok (.getfield 10, 3) := by decide +kernel
theorem dX9_feed_64 : decode cX9_feed 64 = .ok (.getfield 86, 3) := by decide +kernel
theorem dX9_feed_67 : decode cX9_feed 67 = .ok (.ireturn, 1) := by decide +kernel
theorem dX9_fine_0 : decode cX9_fine 0 = .ok (.aload_n 0, 1) := by decide +kernel
theorem dX9_fine_1 : decode cX9_fine 1 = .ok (.getfield 49, 3) := by decide +kernel
theorem dX9_fine_4 : decode cX9_fine 4 = .ok (.iload_n 1, 1) := by decide +kernel
theorem dX9_fine_5 : decode cX9_fine 5 = .ok (.iload_n 2, 1) := by decide +kernel
theorem dX9_fine_6 : decode cX9_fine 6 = .ok (.iload_n 3, 1) := by decide +kernel
theorem dX9_fine_7 : decode cX9_fine 7 = .ok (.iconst 0, 1) := by decide +kernel
theorem dX9_fine_8 : decode cX9_fine 8 = .ok (.iload 4, 2) := by decide +kernel
theorem dX9_fine_10 : decode cX9_fine 10 = .ok (.invokevirtual 195, 3) := by decide +kernel
theorem dX9_fine_13 : decode cX9_fine 13 = .ok (.istore 5, 2) := by decide +kernel
theorem dX9_fine_15 : decode cX9_fine 15 = .ok (.aload_n 0, 1) := by decide +kernel
theorem dX9_fine_16 : decode cX9_fine 16 = .ok (.getfield 49, 3) := by decide +kernel
theorem dX9_fine_19 : decode cX9_fine 19 = .ok (.iload_n 1, 1) := by decide +kernel
theorem dX9_fine_20 : decode cX9_fine 20 = .ok (.iload_n 2, 1) := by decide +kernel
theorem dX9_fine_21 : decode cX9_fine 21 = .ok (.iload_n 3, 1) := by decide +kernel
theorem dX9_fine_22 : decode cX9_fine 22 = .ok (.iconst 1, 1) := by decide +kernel
theorem dX9_fine_23 : decode cX9_fine 23 = .ok (.iload 4, 2) := by decide +kernel
theorem dX9_fine_25 : decode cX9_fine 25 = .ok (.invokevirtual 195, 3) := by decide +kernel
theorem dX9_fine_28 : decode cX9_fine 28 = .ok (.istore 6, 2) := by decide +kernel
theorem dX9_fine_30 : decode cX9_fine 30 = .ok (.iconst 2, 1) := by decide +kernel
theorem dX9_fine_31 : decode cX9_fine 31 = .ok (.iload 5, 2) := by decide +kernel
theorem dX9_fine_33 : decode cX9_fine 33 = .ok (.imul, 1) := by decide +kernel
theorem dX9_fine_34 : decode cX9_fine 34 = .ok (.iload 6, 2) := by decide +kernel
theorem dX9_fine_36 : decode cX9_fine 36 = .ok (.isub, 1) := by decide +kernel
theorem dX9_fine_37 : decode cX9_fine 37 = .ok (.iconst 0, 1) := by decide +kernel
theorem dX9_fine_38 : decode cX9_fine 38 = .ok (.invokestatic 262, 3) := by decide +kernel
theorem dX9_fine_41 : decode cX9_fine 41 = .ok (.ireturn, 1) := by decide +kernel
theorem dX9_herd_0 : decode cX9_herd 0 = .ok (.iload_n 1, 1) := by decide +kernel
theorem dX9_herd_1 : decode cX9_herd 1 = .ok (.invokestatic 203, 3) := by decide +kernel
theorem dX9_herd_4 : decode cX9_herd 4 = .ok (.ifCond .eq 19, 3) := by decide +kernel
theorem dX9_herd_7 : decode cX9_herd 7 = .ok (.iload_n 2, 1) := by decide +kernel
theorem dX9_herd_8 : decode cX9_herd 8 = .ok (.invokestatic 151, 3) := by decide +kernel
theorem dX9_herd_11 : decode cX9_herd 11 = .ok (.ifCond .eq 12, 3) := by decide +kernel
theorem dX9_herd_14 : decode cX9_herd 14 = .ok (.aload_n 0, 1) := by decide +kernel
theorem dX9_herd_15 : decode cX9_herd 15 = .ok (.iload 5, 2) := by decide +kernel
theorem dX9_herd_17 : decode cX9_herd 17 = .ok (.invokevirtual 144, 3) := by decide +kernel
theorem dX9_herd_20 : decode cX9_herd 20 = .ok (.ifCond .ne 5, 3) := by decide +kernel
theorem dX9_herd_23 : decode cX9_herd 23 = .ok (.iconst 0, 1) := by decide +kernel
theorem dX9_herd_24 : decode cX9_herd 24 = .ok (.ireturn, 1) := by decide +kernel
theorem dX9_judge_0 : decode cX9_judge 0 = .ok (.iload_n 1, 1) := by decide +kernel
theorem dX9_judge_1 : decode cX9_judge 1 = .ok (.invokestatic 151, 3) := by decide +kernel
theorem dX9_judge_4 : decode cX9_judge 4 = .ok (.ifCond .ne 5, 3) := by decide +kernel
theorem dX9_judge_7 : decode cX9_judge 7 = .ok (.iconst (-1), 1) := by decide +kernel
theorem dX9_judge_8 : decode cX9_judge 8 = .ok (.ireturn, 1) := by decide +kernel
theorem dX9_judge_9 : decode cX9_judge 9 = .ok (.iload 5, 2) := by decide +kernel
theorem dX9_judge_11 : decode cX9_judge 11 = .ok (.tableswitch 89 0 3 #[29, 53, 65, 79], 29) := by decide +kernel
theorem dX9_judge_40 : decode cX9_judge 40 = .ok (.aload_n 0, 1) := by decide +kernel
theorem dX9_judge_41 : decode cX9_judge 41 = .ok (.getfield 49, 3) := by decide +kernel
theorem dX9_judge_44 : decode cX9_judge 44 = .ok (.iload_n 1, 1) := by decide +kernel
theorem dX9_judge_45 : decode cX9_judge 45 = .ok (.iload_n 2, 1) := by decide +kernel
theorem dX9_judge_46 : decode cX9_judge 46 = .ok (.iload_n 3, 1) := by decide +kernel
theorem dX9_judge_47 : decode cX9_judge 47 = .ok (.iconst 1, 1) := by decide +kernel
theorem dX9_judge_48 : decode cX9_judge 48 = .ok (.invokevirtual 191, 3) := by decide +kernel
theorem dX9_judge_51 : decode cX9_judge 51 = .ok (.aload_n 0, 1) := by decide +kernel
theorem dX9_judge_52 : decode cX9_judge 52 = .ok (.getfield 49, 3) := by decide +kernel
theorem dX9_judge_55 : decode cX9_judge 55 = .ok (.iload_n 1, 1) := by decide +kernel
theorem dX9_judge_56 : decode cX9_judge 56 = .ok (.iload_n 2, 1) := by decide +kernel
theorem dX9_judge_57 : decode cX9_judge 57 = .ok (.iload_n 3, 1) := by decide +kernel
theorem dX9_judge_58 : decode cX9_judge 58 = .ok (.iconst 0, 1) := by decide +kernel
theorem dX9_judge_59 : decode cX9_judge 59 = .ok (.invokevirtual 191, 3) := by decide +kernel
theorem dX9_judge_62 : decode cX9_judge 62 = .ok (.iadd, 1) := by decide +kernel
theorem dX9_judge_63 : decode cX9_judge 63 = .ok (.ireturn, 1) := by decide +kernel
theorem dX9_judge_64 : decode cX9_judge 64 = .ok (.aload_n 0, 1) := by decide +kernel
theorem dX9_judge_65 : decode cX9_judge 65 = .ok (.getfield 49, 3) := by decide +kernel
theorem dX9_judge_68 : decode cX9_judge 68 = .ok (.iload_n 1, 1) := by decide +kernel
theorem dX9_judge_69 : decode cX9_judge 69 = .ok (.iload_n 2, 1) := by decide +kernel
theorem dX9_judge_70 : decode cX9_judge 70 = .ok (.iload_n 3, 1) := by decide +kernel
theorem dX9_judge_71 : decode cX9_judge 71 = .ok (.iconst 0, 1) := by decide +kernel
theorem dX9_judge_72 : decode cX9_judge 72 = .ok (.invokevirtual 191, 3) := by decide +kernel
theorem dX9_judge_75 : decode cX9_judge 75 = .ok (.ireturn, 1) := by decide +kernel
theorem dX9_judge_76 : decode cX9_judge 76 = .ok (.aload_n 0, 1) := by decide +kernel
theorem dX9_judge_77 : decode cX9_judge 77 = .ok (.getfield 49, 3) := by decide +kernel
theorem dX9_judge_80 : decode cX9_judge 80 = .ok (.iload_n 1, 1) := by decide +kernel
theorem dX9_judge_81 : decode cX9_judge 81 = .ok (.iload_n 2, 1) := by decide +kernel
theorem dX9_judge_82 : decode cX9_judge 82 = .ok (.iload_n 3, 1) := by decide +kernel
theorem dX9_judge_83 : decode cX9_judge 83 = .ok (.iconst 0, 1) := by decide +kernel
theorem dX9_judge_84 : decode cX9_judge 84 = .ok (.iload 4, 2) := by decide +kernel
theorem dX9_judge_86 : decode cX9_judge 86 = .ok (.invokevirtual 195, 3) := by decide +kernel
theorem dX9_judge_89 : decode cX9_judge 89 = .ok (.ireturn, 1) := by decide +kernel
theorem dX9_judge_90 : decode cX9_judge 90 = .ok (.aload_n 0, 1) := by decide +kernel
theorem dX9_judge_91 : decode cX9_judge 91 = .ok (.iload_n 1, 1) := by decide +kernel
theorem dX9_judge_92 : decode cX9_judge 92 = .ok (.iload_n 2, 1) := by decide +kernel
theorem dX9_judge_93 : decode cX9_judge 93 = .ok (.iload_n 3, 1) := by decide +kernel
theorem dX9_judge_94 : decode cX9_judge 94 = .ok (.iload 4, 2) := by decide +kernel
theorem dX9_judge_96 : decode cX9_judge 96 = .ok (.invokevirtual 199, 3) := by decide +kernel
theorem dX9_judge_99 : decode cX9_judge 99 = .ok (.ireturn, 1) := by decide +kernel
theorem dX9_judge_100 : decode cX9_judge 100 = .ok (.iconst (-1), 1) := by decide +kernel
theorem dX9_judge_101 : decode cX9_judge 101 = .ok (.ireturn, 1) := by decide +kernel
theorem dX9_lend_0 : decode cX9_lend 0 = .ok (.iload_n 3, 1) := by decide +kernel
theorem dX9_lend_1 : decode cX9_lend 1 = .ok (.invokestatic 151, 3) := by decide +kernel
theorem dX9_lend_4 : decode cX9_lend 4 = .ok (.ifCond .eq 11, 3) := by decide +kernel
theorem dX9_lend_7 : decode cX9_lend 7 = .ok (.iload_n 2, 1) := by decide +kernel
theorem dX9_lend_8 : decode cX9_lend 8 = .ok (.aload_n 0, 1) := by decide +kernel
theorem dX9_lend_9 : decode cX9_lend 9 = .ok (.getfield 79, 3) := by decide +kernel
theorem dX9_lend_12 : decode cX9_lend 12 = .ok (.if_icmp .gt 5, 3) := by decide +kernel
theorem dX9_lend_15 : decode cX9_lend 15 = .ok (.iconst (-1), 1) := by decide +kernel
theorem dX9_lend_16 : decode cX9_lend 16 = .ok (.ireturn, 1) := by decide +kernel
theorem dX9_lend_17 : decode cX9_lend 17 = .ok (.aload_n 0, 1) := by decide +kernel
theorem dX9_lend_18 : decode cX9_lend 18 = .ok (.getfield 35, 3) := by decide +kernel
theorem dX9_lend_21 : decode cX9_lend 21 = .ok (.iload_n 1, 1) := by decide +kernel
theorem dX9_lend_22 : decode cX9_lend 22 = .ok (.iload_n 2, 1) := by decide +kernel
theorem dX9_lend_23 : decode cX9_lend 23 = .ok (.iload_n 3, 1) := by decide +kernel
theorem dX9_lend_24 : decode cX9_lend 24 = .ok (.invokevirtual 157, 3) := by decide +kernel
theorem dX9_lend_27 : decode cX9_lend 27 = .ok (.ireturn, 1) := by decide +kernel
theorem dX9_may_0 : decode cX9_may 0 = .ok (.aload_n 0, 1) := by decide +kernel
theorem dX9_may_1 : decode cX9_may 1 = .ok (.iload_n 1, 1) := by decide +kernel
theorem dX9_may_2 : decode cX9_may 2 = .ok (.invokevirtual 144, 3) := by decide +kernel
theorem dX9_may_5 : decode cX9_may 5 = .ok (.ifCond .eq 10, 3) := by decide +kernel
theorem dX9_may_15 : decode cX9_may 15 = .ok (.iconst (-1), 1) := by decide +kernel
theorem dX9_may_16 : decode cX9_may 16 = .ok (.ireturn, 1) := by decide +kernel
theorem dX9_next_0 : decode cX9_next 0 = .ok (.aload_n 0, 1) := by decide +kernel
theorem dX9_next_1 : decode cX9_next 1 = .ok (.getfield 79, 3) := by decide +kernel
theorem dX9_next_4 : decode cX9_next 4 = .ok (.sipush 199, 3) := by decide +kernel
theorem dX9_next_7 : decode cX9_next 7 = .ok (.if_icmp .lt 5, 3) := by decide +kernel
theorem dX9_next_12 : decode cX9_next 12 = .ok (.aload_n 0, 1) := by decide +kernel
theorem dX9_next_13 : decode cX9_next 13 = .ok (.dup, 1) := by decide +kernel
theorem dX9_next_14 : decode cX9_next 14 = .ok (.getfield 79, 3) := by decide +kernel
theorem dX9_next_17 : decode cX9_next 17 = .ok (.iconst 1, 1) := by decide +kernel
theorem dX9_next_18 : decode cX9_next 18 = .ok (.iadd, 1) := by decide +kernel
theorem dX9_next_19 : decode cX9_next 19 = .ok (.putfield 79, 3) := by decide +kernel
theorem dX9_next_22 : decode cX9_next 22 = .ok (.aload_n 0, 1) := by decide +kernel
theorem dX9_next_23 : decode cX9_next 23 = .ok (.getfield 42, 3) := by decide +kernel
theorem dX9_next_26 : decode cX9_next 26 = .ok (.aload_n 0, 1) := by decide +kernel
theorem dX9_next_27 : decode cX9_next 27 = .ok (.getfield 42, 3) := by decide +kernel
theorem dX9_next_30 : decode cX9_next 30 = .ok (.aload_n 0, 1) := by decide +kernel
theorem dX9_next_31 : decode cX9_next 31 = .ok (.getfield 28, 3) := by decide +kernel
theorem dX9_next_34 : decode cX9_next 34 = .ok (.invokevirtual 140, 3) := by decide +kernel
theorem dX9_next_37 : decode cX9_next 37 = .ok (.aload_n 0, 1) := by decide +kernel
theorem dX9_next_38 : decode cX9_next 38 = .ok (.invokevirtual 134, 3) := by decide +kernel
theorem dX9_next_41 : decode cX9_next 41 = .ok (.iconst 1, 1) := by decide +kernel
theorem dX9_next_42 : decode cX9_next 42 = .ok (.ireturn, 1) := by decide +kernel
theorem dX9_owner_0 : decode cX9_owner 0 = .ok (.aload_n 0, 1) := by decide +kernel
theorem dX9_owner_1 : decode cX9_owner 1 = .ok (.getfield 35, 3) := by decide +kernel
theorem dX9_owner_4 : decode cX9_owner 4 = .ok (.iload_n 1, 1) := by decide +kernel
theorem dX9_owner_5 : decode cX9_owner 5 = .ok (.iload_n 2, 1) := by decide +kernel
theorem dX9_owner_6 : decode cX9_owner 6 = .ok (.invokevirtual 147, 3) := by decide +kernel
theorem dX9_owner_9 : decode cX9_owner 9 = .ok (.ireturn, 1) := by decide +kernel
theorem dX9_report_0 : decode cX9_report 0 = .ok (.aload_n 0, 1) := by decide +kernel
theorem dX9_report_1 : decode cX9_report 1 = .ok (.getfield 49, 3) := by decide +kernel
theorem dX9_report_4 : decode cX9_report 4 = .ok (.iload_n 1, 1) := by decide +kernel
theorem dX9_report_5 : decode cX9_report 5 = .ok (.invokevirtual 175, 3) := by decide +kernel
theorem dX9_report_8 : decode cX9_report 8 = .ok (.ifCond .eq 18, 3) := by decide +kernel
theorem dX9_report_26 : decode cX9_report 26 = .ok (.iconst 0, 1) := by decide +kernel
theorem dX9_report_27 : decode cX9_report 27 = .ok (.ireturn, 1) := by decide +kernel
theorem dX9_rights_0 : decode cX9_rights 0 = .ok (.aload_n 0, 1) := by decide +kernel
theorem dX9_rights_1 : decode cX9_rights 1 = .ok (.getfield 67, 3) := by decide +kernel
theorem dX9_rights_4 : decode cX9_rights 4 = .ok (.invokevirtual 117, 3) := by decide +kernel
theorem dX9_rights_7 : decode cX9_rights 7 = .ok (.aload_n 0, 1) := by decide +kernel
theorem dX9_rights_8 : decode cX9_rights 8 = .ok (.getfield 21, 3) := by decide +kernel
theorem dX9_rights_11 : decode cX9_rights 11 = .ok (.aload_n 0, 1) := by decide +kernel
theorem dX9_rights_12 : decode cX9_rights 12 = .ok (.getfield 67, 3) := by decide +kernel
theorem dX9_rights_15 : decode cX9_rights 15 = .ok (.invokevirtual 120, 3) := by decide +kernel
theorem dX9_rights_18 : decode cX9_rights 18 = .ok (.istore_n 1, 1) := by decide +kernel
theorem dX9_rights_19 : decode cX9_rights 19 = .ok (.aload_n 0, 1) := by decide +kernel
theorem dX9_rights_20 : decode cX9_rights 20 = .ok (.getfield 10, 3) := by decide +kernel
theorem dX9_rights_23 : decode cX9_rights 23 = .ok (.iconst 0, 1) := by decide +kernel
theorem dX9_rights_24 : decode cX9_rights 24 = .ok (.putfield 86, 3) := by decide +kernel
theorem dX9_rights_27 : decode cX9_rights 27 = .ok (.aload_n 0, 1) := by decide +kernel
theorem dX9_rights_28 : decode cX9_rights 28 = .ok (.aload_n 0, 1) := by decide +kernel
theorem dX9_rights_29 : decode cX9_rights 29 = .ok (.getfield 21, 3) := by decide +kernel
theorem dX9_rights_32 : decode cX9_rights 32 = .ok (.getfield 124, 3) := by decide +kernel
theorem dX9_rights_35 : decode cX9_rights 35 = .ok (.putfield 83, 3) := by decide +kernel
theorem dX9_rights_38 : decode cX9_rights 38 = .ok (.iload_n 1, 1) := by decide +kernel
theorem dX9_rights_39 : decode cX9_rights 39 = .ok (.ifCond .ne 13, 3) := by decide +kernel
theorem dX9_rights_52 : decode cX9_rights 52 = .ok (.aload_n 0, 1) := by decide +kernel
theorem dX9_rights_53 : decode cX9_rights 53 = .ok (.getfield 63, 3) := by decide +kernel
theorem dX9_rights_56 : decode cX9_rights 56 = .ok (.astore_n 2, 1) := by decide +kernel
theorem dX9_rights_57 : decode cX9_rights 57 = .ok (.aload_n 0, 1) := by decide +kernel
theorem dX9_rights_58 : decode cX9_rights 58 = .ok (.aload_n 0, 1) := by decide +kernel
theorem dX9_rights_59 : decode cX9_rights 59 = .ok (.getfield 67, 3) := by decide +kernel
theorem dX9_rights_62 : decode cX9_rights 62 = .ok (.putfield 63, 3) := by decide +kernel
theorem dX9_rights_65 : decode cX9_rights 65 = .ok (.aload_n 0, 1) := by decide +kernel
theorem dX9_rights_66 : decode cX9_rights 66 = .ok (.aload_n 2, 1) := by decide +kernel
theorem dX9_rights_67 : decode cX9_rights 67 = .ok (.putfield 67, 3) := by decide +kernel
theorem dX9_rights_70 : decode cX9_rights 70 = .ok (.aload_n 0, 1) := by decide +kernel
theorem dX9_rights_71 : decode cX9_rights 71 = .ok (.getfield 35, 3) := by decide +kernel
theorem dX9_rights_74 : decode cX9_rights 74 = .ok (.aload_n 0, 1) := by decide +kernel
theorem dX9_rights_75 : decode cX9_rights 75 = .ok (.getfield 63, 3) := by decide +kernel
theorem dX9_rights_78 : decode cX9_rights 78 = .ok (.aload_n 0, 1) := by decide +kernel
theorem dX9_rights_79 : decode cX9_rights 79 = .ok (.getfield 79, 3) := by decide +kernel
theorem dX9_rights_82 : decode cX9_rights 82 = .ok (.invokevirtual 130, 3) := by decide +kernel
theorem dX9_rights_85 : decode cX9_rights 85 = .ok (.aload_n 0, 1) := by decide +kernel
theorem dX9_rights_86 : decode cX9_rights 86 = .ok (.invokevirtual 134, 3) := by decide +kernel
theorem dX9_rights_89 : decode cX9_rights 89 = .ok (.aload_n 0, 1) := by decide +kernel
theorem dX9_rights_90 : decode cX9_rights 90 = .ok (.getfield 63, 3) := by decide +kernel
theorem dX9_rights_93 : decode cX9_rights 93 = .ok (.getfield 137, 3) := by decide +kernel
theorem dX9_rights_96 : decode cX9_rights 96 = .ok (.ireturn, 1) := by decide +kernel
theorem dX9_step_0 : decode cX9_step 0 = .ok (.aload_n 0, 1) := by decide +kernel
theorem dX9_step_1 : decode cX9_step 1 = .ok (.getfield 75, 3) := by decide +kernel
theorem dX9_step_4 : decode cX9_step 4 = .ok (.iload_n 1, 1) := by decide +kernel
theorem dX9_step_5 : decode cX9_step 5 = .ok (.iload_n 2, 1) := by decide +kernel
theorem dX9_step_6 : decode cX9_step 6 = .ok (.invokevirtual 242, 3) := by decide +kernel
theorem dX9_step_9 : decode cX9_step 9 = .ok (.ireturn, 1) := by decide +kernel
theorem dX9_take_0 : decode cX9_take 0 = .ok (.aload_n 0, 1) := by decide +kernel
theorem dX9_take_1 : decode cX9_take 1 = .ok (.iload_n 1, 1) := by decide +kernel
theorem dX9_take_2 : decode cX9_take 2 = .ok (.iload_n 2, 1) := by decide +kernel
theorem dX9_take_3 : decode cX9_take 3 = .ok (.iload_n 3, 1) := by decide +kernel
theorem dX9_take_4 : decode cX9_take 4 = .ok (.invokevirtual 161, 3) := by decide +kernel
theorem dX9_take_7 : decode cX9_take 7 = .ok (.ifCond .ne 5, 3) := by decide +kernel
theorem dX9_take_10 : decode cX9_take 10 = .ok (.iconst 1, 1) := by decide +kernel
theorem dX9_take_11 : decode cX9_take 11 = .ok (.ireturn, 1) := by decide +kernel
theorem dX9_water_0 : decode cX9_water 0 = .ok (.aload_n 0, 1) := by decide +kernel
theorem dX9_water_1 : decode cX9_water 1 = .ok (.iload_n 1, 1) := by decide +kernel
theorem dX9_water_2 : decode cX9_water 2 = .ok (.invokevirtual 144, 3) := by decide +kernel
theorem dX9_water_5 : decode cX9_water 5 = .ok (.ifCond .ne 5, 3) := by decide +kernel
theorem dX9_water_8 : decode cX9_water 8 = .ok (.iconst (-1), 1) := by decide +kernel
theorem dX9_water_9 : decode cX9_water 9 = .ok (.ireturn, 1) := by decide +kernel
theorem dX9_way_0 : decode cX9_way 0 = .ok (.iload_n 1, 1) := by decide +kernel
theorem dX9_way_1 : decode cX9_way 1 = .ok (.invokestatic 93, 3) := by decide +kernel
theorem dX9_way_4 : decode cX9_way 4 = .ok (.ifCond .eq 25, 3) := by decide +kernel
theorem dX9_way_7 : decode cX9_way 7 = .ok (.iload_n 2, 1) := by decide +kernel
theorem dX9_way_8 : decode cX9_way 8 = .ok (.invokestatic 93, 3) := by decide +kernel
theorem dX9_way_11 : decode cX9_way 11 = .ok (.ifCond .eq 18, 3) := by decide +kernel
theorem dX9_way_14 : decode cX9_way 14 = .ok (.iload_n 1, 1) := by decide +kernel
theorem dX9_way_15 : decode cX9_way 15 = .ok (.iload_n 2, 1) := by decide +kernel
theorem dX9_way_16 : decode cX9_way 16 = .ok (.if_icmp .eq 13, 3) := by decide +kernel
theorem dX9_way_19 : decode cX9_way 19 = .ok (.iload_n 3, 1) := by decide +kernel
theorem dX9_way_20 : decode cX9_way 20 = .ok (.iconst 0, 1) := by decide +kernel
theorem dX9_way_21 : decode cX9_way 21 = .ok (.bipush 9, 2) := by decide +kernel
theorem dX9_way_23 : decode cX9_way 23 = .ok (.invokestatic 100, 3) := by decide +kernel
theorem dX9_way_26 : decode cX9_way 26 = .ok (.ifCond .ne 5, 3) := by decide +kernel
theorem dX9_way_29 : decode cX9_way 29 = .ok (.iconst 0, 1) := by decide +kernel
theorem dX9_way_30 : decode cX9_way 30 = .ok (.ireturn, 1) := by decide +kernel
theorem dX9_way_31 : decode cX9_way 31 = .ok (.aload_n 0, 1) := by decide +kernel
theorem dX9_way_32 : decode cX9_way 32 = .ok (.getfield 28, 3) := by decide +kernel
theorem dX9_way_35 : decode cX9_way 35 = .ok (.getfield 220, 3) := by decide +kernel
theorem dX9_way_38 : decode cX9_way 38 = .ok (.iload_n 1, 1) := by decide +kernel
theorem dX9_way_39 : decode cX9_way 39 = .ok (.aaload, 1) := by decide +kernel
theorem dX9_way_40 : decode cX9_way 40 = .ok (.iload_n 2, 1) := by decide +kernel
theorem dX9_way_41 : decode cX9_way 41 = .ok (.iload_n 3, 1) := by decide +kernel
theorem dX9_way_42 : decode cX9_way 42 = .ok (.iastore, 1) := by decide +kernel
theorem dX9_way_43 : decode cX9_way 43 = .ok (.iconst 1, 1) := by decide +kernel
theorem dX9_way_44 : decode cX9_way 44 = .ok (.ireturn, 1) := by decide +kernel
theorem dX9_well_0 : decode cX9_well 0 = .ok (.iload_n 1, 1) := by decide +kernel
theorem dX9_well_1 : decode cX9_well 1 = .ok (.invokestatic 93, 3) := by decide +kernel
theorem dX9_well_4 : decode cX9_well 4 = .ok (.ifCond .eq 14, 3) := by decide +kernel
theorem dX9_well_7 : decode cX9_well 7 = .ok (.aload_n 0, 1) := by decide +kernel
theorem dX9_well_8 : decode cX9_well 8 = .ok (.getfield 28, 3) := by decide +kernel
theorem dX9_well_11 : decode cX9_well 11 = .ok (.iload_n 1, 1) := by decide +kernel
theorem dX9_well_12 : decode cX9_well 12 = .ok (.invokevirtual 97, 3) := by decide +kernel
theorem dX9_well_15 : decode cX9_well 15 = .ok (.ifCond .eq 5, 3) := by decide +kernel
theorem dX9_well_18 : decode cX9_well 18 = .ok (.iconst 0, 1) := by decide +kernel
theorem dX9_well_19 : decode cX9_well 19 = .ok (.ireturn, 1) := by decide +kernel
theorem dX9_well_20 : decode cX9_well 20 = .ok (.iload_n 2, 1) := by decide +kernel
theorem dX9_well_21 : decode cX9_well 21 = .ok (.iconst 1, 1) := by decide +kernel
theorem dX9_well_22 : decode cX9_well 22 = .ok (.sipush 1000, 3) := by decide +kernel
theorem dX9_well_25 : decode cX9_well 25 = .ok (.invokestatic 100, 3) := by decide +kernel
theorem dX9_well_28 : decode cX9_well 28 = .ok (.ifCond .eq 24, 3) := by decide +kernel
theorem dX9_well_31 : decode cX9_well 31 = .ok (.iload_n 3, 1) := by decide +kernel
theorem dX9_well_32 : decode cX9_well 32 = .ok (.iconst 0, 1) := by decide +kernel
theorem dX9_well_33 : decode cX9_well 33 = .ok (.sipush 200, 3) := by decide +kernel
theorem dX9_well_36 : decode cX9_well 36 = .ok (.invokestatic 100, 3) := by decide +kernel
theorem dX9_well_39 : decode cX9_well 39 = .ok (.ifCond .eq 13, 3) := by decide +kernel
theorem dX9_well_42 : decode cX9_well 42 = .ok (.iload 4, 2) := by decide +kernel
theorem dX9_well_44 : decode cX9_well 44 = .ok (.iconst 0, 1) := by decide +kernel
theorem dX9_well_45 : decode cX9_well 45 = .ok (.iload_n 2, 1) := by decide +kernel
theorem dX9_well_46 : decode cX9_well 46 = .ok (.invokestatic 100, 3) := by decide +kernel
theorem dX9_well_49 : decode cX9_well 49 = .ok (.ifCond .ne 5, 3) := by decide +kernel
theorem dX9_well_52 : decode cX9_well 52 = .ok (.iconst 0, 1) := by decide +kernel
theorem dX9_well_53 : decode cX9_well 53 = .ok (.ireturn, 1) := by decide +kernel
theorem dX9_well_54 : decode cX9_well 54 = .ok (.aload_n 0, 1) := by decide +kernel
theorem dX9_well_55 : decode cX9_well 55 = .ok (.getfield 28, 3) := by decide +kernel
theorem dX9_well_58 : decode cX9_well 58 = .ok (.getfield 104, 3) := by decide +kernel
theorem dX9_well_61 : decode cX9_well 61 = .ok (.iload_n 1, 1) := by decide +kernel
theorem dX9_well_62 : decode cX9_well 62 = .ok (.iload_n 2, 1) := by decide +kernel
theorem dX9_well_63 : decode cX9_well 63 = .ok (.iastore, 1) := by decide +kernel
theorem dX9_well_64 : decode cX9_well 64 = .ok (.aload_n 0, 1) := by decide +kernel
theorem dX9_well_65 : decode cX9_well 65 = .ok (.getfield 28, 3) := by decide +kernel
theorem dX9_well_68 : decode cX9_well 68 = .ok (.getfield 108, 3) := by decide +kernel
theorem dX9_well_71 : decode cX9_well 71 = .ok (.iload_n 1, 1) := by decide +kernel
theorem dX9_well_72 : decode cX9_well 72 = .ok (.iload_n 3, 1) := by decide +kernel
theorem dX9_well_73 : decode cX9_well 73 = .ok (.iastore, 1) := by decide +kernel
theorem dX9_well_74 : decode cX9_well 74 = .ok (.aload_n 0, 1) := by decide +kernel
theorem dX9_well_75 : decode cX9_well 75 = .ok (.getfield 42, 3) := by decide +kernel
theorem dX9_well_78 : decode cX9_well 78 = .ok (.getfield 111, 3) := by decide +kernel
theorem dX9_well_81 : decode cX9_well 81 = .ok (.iload_n 1, 1) := by decide +kernel
theorem dX9_well_82 : decode cX9_well 82 = .ok (.iload 4, 2) := by decide +kernel
theorem dX9_well_84 : decode cX9_well 84 = .ok (.iastore, 1) := by decide +kernel
theorem dX9_well_85 : decode cX9_well 85 = .ok (.aload_n 0, 1) := by decide +kernel
theorem dX9_well_86 : decode cX9_well 86 = .ok (.getfield 42, 3) := by decide +kernel
theorem dX9_well_89 : decode cX9_well 89 = .ok (.getfield 114, 3) := by decide +kernel
theorem dX9_well_92 : decode cX9_well 92 = .ok (.iload_n 1, 1) := by decide +kernel
theorem dX9_well_93 : decode cX9_well 93 = .ok (.iload 4, 2) := by decide +kernel
theorem dX9_well_95 : decode cX9_well 95 = .ok (.iastore, 1) := by decide +kernel
theorem dX9_well_96 : decode cX9_well 96 = .ok (.iconst 1, 1) := by decide +kernel
theorem dX9_well_97 : decode cX9_well 97 = .ok (.ireturn, 1) := by decide +kernel
set_option maxHeartbeats 4000000 in
set_option maxRecDepth 100000 in
/-- WellCourt.feed -/
theorem c_feed (l : Launch) (G : va_G) (cy : Nat → ClassId) (sz : Nat) (h0 : Nat) (g0 : Nat) (g1 : Nat) (g2 : Nat) (g3 : Nat) (g4 : Nat) (g5 : Nat) (g6 : Nat) (g7 : Nat) (g8 : Nat) (g9 : Nat) (g10 : Nat) (x : Int32) (y : Int32) (z : Int32) (v : Int32) (t : Int32) (Xx : Int) (Xy : Int) (Xz : Int) (Xv : Int) (Xt : Int) (kx : x.toInt = Xx) (ky : y.toInt = Xy) (kz : z.toInt = Xz) (kv : v.toInt = Xv) (kt : t.toInt = Xt)  : gMi l yX9_feed cX9_feed 6 (some .int) ({ frames := 1, cells := 0, slots := 0, locals := 22 }) G cy sz [.ref h0, .int x, .int y, .int z, .int v, .int t] [(h0, .inr (9, [.ref g0, .ref g1, .ref g2, .ref g3, .ref g4, .ref g5, .ref g6, .ref g7, .ref g8, .ref g9, .int 0, .int 0])), (g0, .inr (8, [.ref g10, .int 0])), (g10, .inl (cy 1, 800, .inl (fun _ => 0)))] (fun (r : Int32) (u : Unit) => r = 20) (fun (u : Unit) => []) := by
  refine gz_start (fun A => gQi G cy _ _ A) (by decide) (Nat.le_of_ble_eq_true rfl) ?_
  intro p e s m below meth c A ls H hx hb hr hml hlocks hin hown hts hK hov hsz hP hD hS hA hl
  have hl : lv_has ls 6 [(0, .ref h0), (1, .int x), (2, .int y), (3, .int z), (4, .int v), (5, .int t)] := hl
  refine lv_aload_n hx hb dX9_feed_0 rfl (lv_at hl 0 rfl) ?_
  refine va_get (ci := 9) (v := .ref g0) (C := RX9) (T := TX9) (N := 12) hx hb hts inX9 hown hK hP 0 rfl rfl 0 (by decide) (hts _ gm_291) (fun _ h9 => h9) rfl dX9_feed_1 ?_
  refine va_getN (host := "WellCourt") (ci := 8) (v := .int 0) (C := RX8) (T := TX8) (N := 2) hx hb hts inX8 hown hK hP 1 rfl rfl 1 (by decide) (va_Nw.use rfl (hov.2.2 _ gn_40)) (fun _ h9 => h9) rfl dX9_feed_4 ?_
  refine lv_bipush (v := 20) hx hb dX9_feed_7 (by decide) ?_
  refine lv_iadd hx hb dX9_feed_9 ?_
  refine lv_topi (fun x_1 ex_1 => ?_)
  obtain rfl : x_1 = (20 : Int32) := ex_1.trans (by decide)
  refine lv_sipush (v := 800) hx hb dX9_feed_10 (by decide) ?_
  refine lv_icmp_le (tgt := 18) hx hb dX9_feed_13 (by decide) (fun _ => ?_) (fun h9 => absurd (by decide) h9)
  refine lv_aload_n hx hb dX9_feed_18 rfl (lv_at hl 0 rfl) ?_
  refine va_get (ci := 9) (v := .ref g0) (C := RX9) (T := TX9) (N := 12) hx hb hts inX9 hown hK hP 0 rfl rfl 0 (by decide) (hts _ gm_291) (fun _ h9 => h9) rfl dX9_feed_19 ?_
  refine lv_iload_n hx hb dX9_feed_22 rfl (lv_at hl 1 rfl) ?_
  refine gz_aftv (va_runV (As := [.int x]) (rest := []) ⟨hx, hb, hml, hown, hts⟩ (c_X8_append l G cy H.size g0 g10 0 (fun _ => 0) x (by decide)) ⟨(gz_cb (n := 1) hts gm_332 gm_2 gm_335 ⟨by decide +kernel, by decide +kernel, by decide +kernel⟩ ⟨Nat.le_of_ble_eq_true rfl, Nat.le_of_ble_eq_true rfl⟩), hts _ gm_333, hts _ gm_334⟩ (gz_preV (ci := 8) (q0 := 0) hK hov hP hD [1, 2] (by decide) rfl rfl rfl) rfl rfl hl.1 rfl (lv_room (Nat.le_of_ble_eq_true rfl)) dX9_feed_23 ⟨Nat.le_of_ble_eq_true rfl, Nat.le_of_ble_eq_true rfl⟩) hP hD hS hA [1, 2] [0] rfl rfl (by decide) (by decide) (fun u_2 H locs hw_2 hP hD hS => ?_)
  have hP : va_P G vwCl [(h0, .inr (9, [.ref g0, .ref g1, .ref g2, .ref g3, .ref g4, .ref g5, .ref g6, .ref g7, .ref g8, .ref g9, .int 0, .int 0])), (g0, .inr (8, [.ref g10, .int (nI (0 + 4))])), (g10, .inl (cy 1, 800, .inl u_2))] H := hP
  have hD : va_D A [(h0, .inr (9, [.ref g0, .ref g1, .ref g2, .ref g3, .ref g4, .ref g5, .ref g6, .ref g7, .ref g8, .ref g9, .int 0, .int 0])), (g0, .inr (8, [.ref g10, .int (nI (0 + 4))])), (g10, .inl (cy 1, 800, .inl u_2))] := hD
  refine lv_aload_n hx hb dX9_feed_26 rfl (lv_at hl 0 rfl) ?_
  refine va_get (ci := 9) (v := .ref g0) (C := RX9) (T := TX9) (N := 12) hx hb hts inX9 hown hK hP 0 rfl rfl 0 (by decide) (hts _ gm_291) (fun _ h9 => h9) rfl dX9_feed_27 ?_
  refine lv_iload_n hx hb dX9_feed_30 rfl (lv_at hl 2 rfl) ?_
  refine gz_aftv (va_runV (As := [.int y]) (rest := []) ⟨hx, hb, hml, hown, hts⟩ (c_X8_append l G cy H.size g0 g10 (0 + 4) u_2 y (by decide)) ⟨(gz_cb (n := 1) hts gm_332 gm_2 gm_335 ⟨by decide +kernel, by decide +kernel, by decide +kernel⟩ ⟨Nat.le_of_ble_eq_true rfl, Nat.le_of_ble_eq_true rfl⟩), hts _ gm_333, hts _ gm_334⟩ (gz_preV (ci := 8) (q0 := 0) hK hov hP hD [1, 2] (by decide) rfl rfl rfl) rfl rfl hl.1 rfl (lv_room (Nat.le_of_ble_eq_true rfl)) dX9_feed_31 ⟨Nat.le_of_ble_eq_true rfl, Nat.le_of_ble_eq_true rfl⟩) hP hD hS hA [1, 2] [0] rfl rfl (by decide) (by decide) (fun u_3 H locs hw_3 hP hD hS => ?_)
  have hP : va_P G vwCl [(h0, .inr (9, [.ref g0, .ref g1, .ref g2, .ref g3, .ref g4, .ref g5, .ref g6, .ref g7, .ref g8, .ref g9, .int 0, .int 0])), (g0, .inr (8, [.ref g10, .int (nI ((0 + 4) + 4))])), (g10, .inl (cy 1, 800, .inl u_3))] H := hP
  have hD : va_D A [(h0, .inr (9, [.ref g0, .ref g1, .ref g2, .ref g3, .ref g4, .ref g5, .ref g6, .ref g7, .ref g8, .ref g9, .int 0, .int 0])), (g0, .inr (8, [.ref g10, .int (nI ((0 + 4) + 4))])), (g10, .inl (cy 1, 800, .inl u_3))] := hD
  refine lv_aload_n hx hb dX9_feed_34 rfl (lv_at hl 0 rfl) ?_
  refine va_get (ci := 9) (v := .ref g0) (C := RX9) (T := TX9) (N := 12) hx hb hts inX9 hown hK hP 0 rfl rfl 0 (by decide) (hts _ gm_291) (fun _ h9 => h9) rfl dX9_feed_35 ?_
  refine lv_iload_n hx hb dX9_feed_38 rfl (lv_at hl 3 rfl) ?_
  refine gz_aftv (va_runV (As := [.int z]) (rest := []) ⟨hx, hb, hml, hown, hts⟩ (c_X8_append l G cy H.size g0 g10 ((0 + 4) + 4) u_3 z (by decide)) ⟨(gz_cb (n := 1) hts gm_332 gm_2 gm_335 ⟨by decide +kernel, by decide +kernel, by decide +kernel⟩ ⟨Nat.le_of_ble_eq_true rfl, Nat.le_of_ble_eq_true rfl⟩), hts _ gm_333, hts _ gm_334⟩ (gz_preV (ci := 8) (q0 := 0) hK hov hP hD [1, 2] (by decide) rfl rfl rfl) rfl rfl hl.1 rfl (lv_room (Nat.le_of_ble_eq_true rfl)) dX9_feed_39 ⟨Nat.le_of_ble_eq_true rfl, Nat.le_of_ble_eq_true rfl⟩) hP hD hS hA [1, 2] [0] rfl rfl (by decide) (by decide) (fun u_4 H locs hw_4 hP hD hS => ?_)
  have hP : va_P G vwCl [(h0, .inr (9, [.ref g0, .ref g1, .ref g2, .ref g3, .ref g4, .ref g5, .ref g6, .ref g7, .ref g8, .ref g9, .int 0, .int 0])), (g0, .inr (8, [.ref g10, .int (nI (((0 + 4) + 4) + 4))])), (g10, .inl (cy 1, 800, .inl u_4))] H := hP
  have hD : va_D A [(h0, .inr (9, [.ref g0, .ref g1, .ref g2, .ref g3, .ref g4, .ref g5, .ref g6, .ref g7, .ref g8, .ref g9, .int 0, .int 0])), (g0, .inr (8, [.ref g10, .int (nI (((0 + 4) + 4) + 4))])), (g10, .inl (cy 1, 800, .inl u_4))] := hD
  refine lv_aload_n hx hb dX9_feed_42 rfl (lv_at hl 0 rfl) ?_
  refine va_get (ci := 9) (v := .ref g0) (C := RX9) (T := TX9) (N := 12) hx hb hts inX9 hown hK hP 0 rfl rfl 0 (by decide) (hts _ gm_291) (fun _ h9 => h9) rfl dX9_feed_43 ?_
  refine lv_iload hx hb dX9_feed_46 (lv_at hl 4 rfl) ?_
  refine gz_aftv (va_runV (As := [.int v]) (rest := []) ⟨hx, hb, hml, hown, hts⟩ (c_X8_append l G cy H.size g0 g10 ((((0 + 4) + 4) + 4)) u_4 v (by decide)) ⟨(gz_cb (n := 1) hts gm_332 gm_2 gm_335 ⟨by decide +kernel, by decide +kernel, by decide +kernel⟩ ⟨Nat.le_of_ble_eq_true rfl, Nat.le_of_ble_eq_true rfl⟩), hts _ gm_333, hts _ gm_334⟩ (gz_preV (ci := 8) (q0 := 0) hK hov hP hD [1, 2] (by decide) rfl rfl rfl) rfl rfl hl.1 rfl (lv_room (Nat.le_of_ble_eq_true rfl)) dX9_feed_48 ⟨Nat.le_of_ble_eq_true rfl, Nat.le_of_ble_eq_true rfl⟩) hP hD hS hA [1, 2] [0] rfl rfl (by decide) (by decide) (fun u_5 H locs hw_5 hP hD hS => ?_)
  have hP : va_P G vwCl [(h0, .inr (9, [.ref g0, .ref g1, .ref g2, .ref g3, .ref g4, .ref g5, .ref g6, .ref g7, .ref g8, .ref g9, .int 0, .int 0])), (g0, .inr (8, [.ref g10, .int (nI (((((0 + 4) + 4) + 4)) + 4))])), (g10, .inl (cy 1, 800, .inl u_5))] H := hP
  have hD : va_D A [(h0, .inr (9, [.ref g0, .ref g1, .ref g2, .ref g3, .ref g4, .ref g5, .ref g6, .ref g7, .ref g8, .ref g9, .int 0, .int 0])), (g0, .inr (8, [.ref g10, .int (nI (((((0 + 4) + 4) + 4)) + 4))])), (g10, .inl (cy 1, 800, .inl u_5))] := hD
  refine lv_aload_n hx hb dX9_feed_51 rfl (lv_at hl 0 rfl) ?_
  refine va_get (ci := 9) (v := .ref g0) (C := RX9) (T := TX9) (N := 12) hx hb hts inX9 hown hK hP 0 rfl rfl 0 (by decide) (hts _ gm_291) (fun _ h9 => h9) rfl dX9_feed_52 ?_
  refine lv_iload hx hb dX9_feed_55 (lv_at hl 5 rfl) ?_
  refine gz_aftv (va_runV (As := [.int t]) (rest := []) ⟨hx, hb, hml, hown, hts⟩ (c_X8_append l G cy H.size g0 g10 ((((((0 + 4) + 4) + 4)) + 4)) u_5 t (by decide)) ⟨(gz_cb (n := 1) hts gm_332 gm_2 gm_335 ⟨by decide +kernel, by decide +kernel, by decide +kernel⟩ ⟨Nat.le_of_ble_eq_true rfl, Nat.le_of_ble_eq_true rfl⟩), hts _ gm_333, hts _ gm_334⟩ (gz_preV (ci := 8) (q0 := 0) hK hov hP hD [1, 2] (by decide) rfl rfl rfl) rfl rfl hl.1 rfl (lv_room (Nat.le_of_ble_eq_true rfl)) dX9_feed_57 ⟨Nat.le_of_ble_eq_true rfl, Nat.le_of_ble_eq_true rfl⟩) hP hD hS hA [1, 2] [0] rfl rfl (by decide) (by decide) (fun u_6 H locs hw_6 hP hD hS => ?_)
  have hP : va_P G vwCl [(h0, .inr (9, [.ref g0, .ref g1, .ref g2, .ref g3, .ref g4, .ref g5, .ref g6, .ref g7, .ref g8, .ref g9, .int 0, .int 0])), (g0, .inr (8, [.ref g10, .int (nI (((((((0 + 4) + 4) + 4)) + 4)) + 4))])), (g10, .inl (cy 1, 800, .inl u_6))] H := hP
  have hD : va_D A [(h0, .inr (9, [.ref g0, .ref g1, .ref g2, .ref g3, .ref g4, .ref g5, .ref g6, .ref g7, .ref g8, .ref g9, .int 0, .int 0])), (g0, .inr (8, [.ref g10, .int (nI (((((((0 + 4) + 4) + 4)) + 4)) + 4))])), (g10, .inl (cy 1, 800, .inl u_6))] := hD
  refine lv_aload_n hx hb dX9_feed_60 rfl (lv_at hl 0 rfl) ?_
  refine va_get (ci := 9) (v := .ref g0) (C := RX9) (T := TX9) (N := 12) hx hb hts inX9 hown hK hP 0 rfl rfl 0 (by decide) (hts _ gm_291) (fun _ h9 => h9) rfl dX9_feed_61 ?_
  refine va_getN (host := "WellCourt") (ci := 8) (v := .int (nI (((((((0 + 4) + 4) + 4)) + 4)) + 4))) (C := RX8) (T := TX8) (N := 2) hx hb hts inX8 hown hK hP 1 rfl rfl 1 (by decide) (va_Nw.use rfl (hov.2.2 _ gn_40)) (fun _ h9 => h9) rfl dX9_feed_64 ?_
  exact gz_iret (cf := (fun (u : Unit) => [])) (post := (fun (r : Int32) (u : Unit) => r = 20)) hx hb hr hlocks hK hP hD hS () [] rfl (by decide) (by decide) rfl (Nat.le_of_ble_eq_true rfl) (Nat.le_of_ble_eq_true rfl) dX9_feed_67

set_option maxHeartbeats 4000000 in
set_option maxRecDepth 100000 in
/-- WellCourt.end -/
theorem c_end (l : Launch) (G : va_G) (cy : Nat → ClassId) (sz : Nat) (h0 : Nat) (g0 : Nat) (g1 : Nat) (g2 : Nat) (g3 : Nat) (g4 : Nat) (g5 : Nat) (g6 : Nat) (g7 : Nat) (g8 : Nat) (g9 : Nat) (g10 : Nat) (x : Int32) (Xx : Int) (kx : x.toInt = Xx)  : gMi l yX9_end cX9_end 2 (some .boolean) ({ frames := 0, cells := 0, slots := 0, locals := 0 }) G cy sz [.ref h0, .int x] [(h0, .inr (9, [.ref g0, .ref g1, .ref g2, .ref g3, .ref g4, .ref g5, .ref g6, .ref g7, .ref g8, .ref g9, .int 0, .int 0])), (g0, .inr (8, [.ref g10, .int 0]))] (fun (r : Int32) (u : Unit) => (r = 1 ∧ (Xx = 0)) ∨ (r = 0 ∧ (¬ Xx = 0))) (fun (u : Unit) => []) := by
  refine gz_start (fun A => gQi G cy _ _ A) (by decide) (Nat.le_of_ble_eq_true rfl) ?_
  intro p e s m below meth c A ls H hx hb hr hml hlocks hin hown hts hK hov hsz hP hD hS hA hl
  have hl : lv_has ls 2 [(0, .ref h0), (1, .int x)] := hl
  refine lv_iload_n hx hb dX9_end_0 rfl (lv_at hl 1 rfl) ?_
  refine lv_if_lt (tgt := 15) hx hb dX9_end_1 (by decide) (fun c_1 => ?_) (fun c_1 => ?_)
  · have ic_1 := gz_lt (rfl : x.toInt = x.toInt) (by decide : (0 : Int32).toInt = 0) c_1
    refine lv_iconst (v := 0) hx hb dX9_end_15 (by decide) ?_
    exact gz_iret (cf := (fun (u : Unit) => [])) (post := (fun (r : Int32) (u : Unit) => (r = 1 ∧ (Xx = 0)) ∨ (r = 0 ∧ (¬ Xx = 0)))) hx hb hr hlocks hK hP hD hS () [] (by decide) (Or.inr (⟨rfl, by omega⟩)) (by decide) rfl (Nat.le_of_ble_eq_true rfl) (Nat.le_of_ble_eq_true rfl) dX9_end_16
  · have ic_1 := gz_nlt (rfl : x.toInt = x.toInt) (by decide : (0 : Int32).toInt = 0) c_1
    refine lv_iload_n hx hb dX9_end_4 rfl (lv_at hl 1 rfl) ?_
    refine lv_aload_n hx hb dX9_end_5 rfl (lv_at hl 0 rfl) ?_
    refine va_get (ci := 9) (v := .ref g0) (C := RX9) (T := TX9) (N := 12) hx hb hts inX9 hown hK hP 0 rfl rfl 0 (by decide) (hts _ gm_291) (fun _ h9 => h9) rfl dX9_end_6 ?_
    refine va_getN (host := "WellCourt") (ci := 8) (v := .int 0) (C := RX8) (T := TX8) (N := 2) hx hb hts inX8 hown hK hP 1 rfl rfl 1 (by decide) (va_Nw.use rfl (hov.2.2 _ gn_40)) (fun _ h9 => h9) rfl dX9_end_9 ?_
    refine lv_icmp_le (tgt := 17) hx hb dX9_end_12 (by decide) (fun c_2 => ?_) (fun c_2 => ?_)
    · have ic_2 := gz_le (rfl : x.toInt = x.toInt) (by decide : (0 : Int32).toInt = 0) c_2
      refine lv_aload_n hx hb dX9_end_17 rfl (lv_at hl 0 rfl) ?_
      refine va_get (ci := 9) (v := .ref g0) (C := RX9) (T := TX9) (N := 12) hx hb hts inX9 hown hK hP 0 rfl rfl 0 (by decide) (hts _ gm_291) (fun _ h9 => h9) rfl dX9_end_18 ?_
      refine lv_iload_n hx hb dX9_end_21 rfl (lv_at hl 1 rfl) ?_
      refine va_putN (host := "WellCourt") (ci := 8) (v := .int x) (ty := .int) (C := RX8) (T := TX8) (N := 2) hx hb hts inX8 tyX8 tyX8_ok nmX8 hown hK hP hD hS 1 rfl rfl 1 (by decide) (va_Nw.use rfl (hov.2.2 _ gn_40)) (fun _ h9 => h9) rfl (by decide +kernel) rfl rfl (Nat.le_of_ble_eq_true rfl) dX9_end_22 (fun H locs hP hD hS => ?_)
      have hP : va_P G vwCl [(h0, .inr (9, [.ref g0, .ref g1, .ref g2, .ref g3, .ref g4, .ref g5, .ref g6, .ref g7, .ref g8, .ref g9, .int 0, .int 0])), (g0, .inr (8, [.ref g10, .int x]))] H := hP
      have hD : va_D A [(h0, .inr (9, [.ref g0, .ref g1, .ref g2, .ref g3, .ref g4, .ref g5, .ref g6, .ref g7, .ref g8, .ref g9, .int 0, .int 0])), (g0, .inr (8, [.ref g10, .int x]))] := hD
      refine lv_iconst (v := 1) hx hb dX9_end_25 (by decide) ?_
      exact gz_iret (cf := (fun (u : Unit) => [])) (post := (fun (r : Int32) (u : Unit) => (r = 1 ∧ (Xx = 0)) ∨ (r = 0 ∧ (¬ Xx = 0)))) hx hb hr hlocks hK hP hD hS () [] (by decide) (Or.inl (⟨rfl, by omega⟩)) (by decide) rfl (Nat.le_of_ble_eq_true rfl) (Nat.le_of_ble_eq_true rfl) dX9_end_26
    · have ic_2 := gz_nle (rfl : x.toInt = x.toInt) (by decide : (0 : Int32).toInt = 0) c_2
      refine lv_iconst (v := 0) hx hb dX9_end_15 (by decide) ?_
      exact gz_iret (cf := (fun (u : Unit) => [])) (post := (fun (r : Int32) (u : Unit) => (r = 1 ∧ (Xx = 0)) ∨ (r = 0 ∧ (¬ Xx = 0)))) hx hb hr hlocks hK hP hD hS () [] (by decide) (Or.inr (⟨rfl, by omega⟩)) (by decide) rfl (Nat.le_of_ble_eq_true rfl) (Nat.le_of_ble_eq_true rfl) dX9_end_16

set_option maxHeartbeats 4000000 in
set_option maxRecDepth 100000 in
/-- WellCourt.well -/
theorem c_well (l : Launch) (G : va_G) (cy : Nat → ClassId) (sz : Nat) (h0 : Nat) (g0 : Nat) (g1 : Nat) (g2 : Nat) (g3 : Nat) (g4 : Nat) (g5 : Nat) (g6 : Nat) (g7 : Nat) (g8 : Nat) (g9 : Nat) (g11 : Nat) (g12 : Nat) (g13 : Nat) (g15 : Nat) (g16 : Nat) (g17 : Nat) (x : Int32) (y : Int32) (z : Int32) (v : Int32) (Xx : Int) (Xy : Int) (Xz : Int) (Xv : Int) (kx : x.toInt = Xx) (ky : y.toInt = Xy) (kz : z.toInt = Xz) (kv : v.toInt = Xv)  : gMi l yX9_well cX9_well 5 (some .boolean) ({ frames := 1, cells := 0, slots := 0, locals := 22 }) G cy sz [.ref h0, .int x, .int y, .int z, .int v] [(h0, .inr (9, [.ref g0, .ref g1, .ref g2, .ref g3, .ref g4, .ref g5, .ref g6, .ref g7, .ref g8, .ref g9, .int 0, .int 0])), (g2, .inr (3, [.ref g11, .ref g12, .ref g13])), (g11, .inl (cy 0, 6, .inl (fun _ => 0))), (g12, .inl (cy 0, 6, .inl (fun _ => 0))), (g4, .inr (1, [.ref g15, .ref g16, .ref g17])), (g15, .inl (cy 0, 6, .inl (fun _ => 0))), (g16, .inl (cy 0, 6, .inl (fun _ => (-1))))] (fun (r : Int32) (u : Unit) => (r = 1 ∧ (0 ≤ Xx ∧ Xx < 6 ∧ 1 ≤ Xy ∧ Xy ≤ 1000 ∧ 0 ≤ Xz ∧ Xz ≤ 200 ∧ 0 ≤ Xv ∧ Xv ≤ Xy)) ∨ (r = 0 ∧ (¬ (0 ≤ Xx ∧ Xx < 6 ∧ 1 ≤ Xy ∧ Xy ≤ 1000 ∧ 0 ≤ Xz ∧ Xz ≤ 200 ∧ 0 ≤ Xv ∧ Xv ≤ Xy)))) (fun (u : Unit) => []) := by
  refine gz_start (fun A => gQi G cy _ _ A) (by decide) (Nat.le_of_ble_eq_true rfl) ?_
  intro p e s m below meth c A ls H hx hb hr hml hlocks hin hown hts hK hov hsz hP hD hS hA hl
  have hl : lv_has ls 5 [(0, .ref h0), (1, .int x), (2, .int y), (3, .int z), (4, .int v)] := hl
  refine lv_iload_n hx hb dX9_well_0 rfl (lv_at hl 1 rfl) ?_
  refine gz_afti (va_runS (As := [.int x]) (rest := []) ⟨hx, hb, hml, hown, hts⟩ (c_isWell l G cy H.size x x.toInt rfl) ⟨(gz_cb (n := 1) hts gm_344 gm_1 gm_346 ⟨by decide +kernel, by decide +kernel, by decide +kernel⟩ ⟨Nat.le_of_ble_eq_true rfl, Nat.le_of_ble_eq_true rfl⟩), hts _ gm_345⟩ (gz_preS hK hov hP hD [] (by decide) rfl) rfl rfl hl.1 rfl (lv_room (Nat.le_of_ble_eq_true rfl)) dX9_well_1 ⟨Nat.le_of_ble_eq_true rfl, Nat.le_of_ble_eq_true rfl⟩) hP hD hS hA [] [0, 1, 2, 3, 4, 5, 6] rfl rfl (by decide) (by decide) (fun r_1 u_1 H locs hw_1 hP hD hS => ?_)
  have hP : va_P G vwCl [(h0, .inr (9, [.ref g0, .ref g1, .ref g2, .ref g3, .ref g4, .ref g5, .ref g6, .ref g7, .ref g8, .ref g9, .int 0, .int 0])), (g2, .inr (3, [.ref g11, .ref g12, .ref g13])), (g11, .inl (cy 0, 6, .inl (fun _ => 0))), (g12, .inl (cy 0, 6, .inl (fun _ => 0))), (g4, .inr (1, [.ref g15, .ref g16, .ref g17])), (g15, .inl (cy 0, 6, .inl (fun _ => 0))), (g16, .inl (cy 0, 6, .inl (fun _ => (-1))))] H := hP
  have hD : va_D A [(h0, .inr (9, [.ref g0, .ref g1, .ref g2, .ref g3, .ref g4, .ref g5, .ref g6, .ref g7, .ref g8, .ref g9, .int 0, .int 0])), (g2, .inr (3, [.ref g11, .ref g12, .ref g13])), (g11, .inl (cy 0, 6, .inl (fun _ => 0))), (g12, .inl (cy 0, 6, .inl (fun _ => 0))), (g4, .inr (1, [.ref g15, .ref g16, .ref g17])), (g15, .inl (cy 0, 6, .inl (fun _ => 0))), (g16, .inl (cy 0, 6, .inl (fun _ => (-1))))] := hD
  rcases hw_1 with ⟨rfl, hw_1_0, hw_1_1⟩ | ⟨rfl, hw_1_0⟩
  · skip
    refine lv_if_eq (tgt := 18) hx hb dX9_well_4 (by decide) (fun h9 => absurd h9 (by decide)) (fun _ => ?_)
    refine lv_aload_n hx hb dX9_well_7 rfl (lv_at hl 0 rfl) ?_
    refine va_get (ci := 9) (v := .ref g2) (C := RX9) (T := TX9) (N := 12) hx hb hts inX9 hown hK hP 0 rfl rfl 2 (by decide) (hts _ gm_293) (fun _ h9 => h9) rfl dX9_well_8 ?_
    refine lv_iload_n hx hb dX9_well_11 rfl (lv_at hl 1 rfl) ?_
    refine gz_afti (va_runV (As := [.int x]) (rest := []) ⟨hx, hb, hml, hown, hts⟩ (c_X3_isThere l G cy H.size g2 g11 g12 g13 x x.toInt rfl (by first | decide | omega) (by first | decide | omega)) ⟨(gz_cb (n := 1) hts gm_347 gm_4 gm_350 ⟨by decide +kernel, by decide +kernel, by decide +kernel⟩ ⟨Nat.le_of_ble_eq_true rfl, Nat.le_of_ble_eq_true rfl⟩), hts _ gm_348, hts _ gm_349⟩ (gz_preV (ci := 3) (q0 := 0) hK hov hP hD [1, 2] (by decide) rfl rfl rfl) rfl rfl hl.1 rfl (lv_room (Nat.le_of_ble_eq_true rfl)) dX9_well_12 ⟨Nat.le_of_ble_eq_true rfl, Nat.le_of_ble_eq_true rfl⟩) hP hD hS hA [1, 2] [0, 3, 4, 5, 6] rfl rfl (by decide) (by decide) (fun r_2 u_2 H locs hw_2 hP hD hS => ?_)
    have hP : va_P G vwCl [(h0, .inr (9, [.ref g0, .ref g1, .ref g2, .ref g3, .ref g4, .ref g5, .ref g6, .ref g7, .ref g8, .ref g9, .int 0, .int 0])), (g12, .inl (cy 0, 6, .inl (fun _ => 0))), (g4, .inr (1, [.ref g15, .ref g16, .ref g17])), (g15, .inl (cy 0, 6, .inl (fun _ => 0))), (g16, .inl (cy 0, 6, .inl (fun _ => (-1)))), (g2, .inr (3, [.ref g11, .ref g12, .ref g13])), (g11, .inl (cy 0, 6, .inl (fun _ => 0)))] H := hP
    have hD : va_D A [(h0, .inr (9, [.ref g0, .ref g1, .ref g2, .ref g3, .ref g4, .ref g5, .ref g6, .ref g7, .ref g8, .ref g9, .int 0, .int 0])), (g12, .inl (cy 0, 6, .inl (fun _ => 0))), (g4, .inr (1, [.ref g15, .ref g16, .ref g17])), (g15, .inl (cy 0, 6, .inl (fun _ => 0))), (g16, .inl (cy 0, 6, .inl (fun _ => (-1)))), (g2, .inr (3, [.ref g11, .ref g12, .ref g13])), (g11, .inl (cy 0, 6, .inl (fun _ => 0)))] := hD
    obtain rfl := hw_2
    refine lv_if_eq (tgt := 20) hx hb dX9_well_15 (by decide) (fun _ => ?_) (fun h9 => absurd (by decide) h9)
    refine lv_iload_n hx hb dX9_well_20 rfl (lv_at hl 2 rfl) ?_
    refine lv_iconst (v := 1) hx hb dX9_well_21 (by decide) ?_
    refine lv_sipush (v := 1000) hx hb dX9_well_22 (by decide) ?_
    refine gz_afti (va_runS (As := [.int y, .int 1, .int 1000]) (rest := []) ⟨hx, hb, hml, hown, hts⟩ (c_isWithin l G cy H.size y 1 1000 y.toInt 1 1000 rfl (by decide) (by decide)) ⟨(gz_cb (n := 3) hts gm_351 gm_1 gm_353 ⟨by decide +kernel, by decide +kernel, by decide +kernel⟩ ⟨Nat.le_of_ble_eq_true rfl, Nat.le_of_ble_eq_true rfl⟩), hts _ gm_352⟩ (gz_preS hK hov hP hD [] (by decide) rfl) rfl rfl hl.1 rfl (lv_room (Nat.le_of_ble_eq_true rfl)) dX9_well_25 ⟨Nat.le_of_ble_eq_true rfl, Nat.le_of_ble_eq_true rfl⟩) hP hD hS hA [] [0, 1, 2, 3, 4, 5, 6] rfl rfl (by decide) (by decide) (fun r_3 u_3 H locs hw_3 hP hD hS => ?_)
    have hP : va_P G vwCl [(h0, .inr (9, [.ref g0, .ref g1, .ref g2, .ref g3, .ref g4, .ref g5, .ref g6, .ref g7, .ref g8, .ref g9, .int 0, .int 0])), (g12, .inl (cy 0, 6, .inl (fun _ => 0))), (g4, .inr (1, [.ref g15, .ref g16, .ref g17])), (g15, .inl (cy 0, 6, .inl (fun _ => 0))), (g16, .inl (cy 0, 6, .inl (fun _ => (-1)))), (g2, .inr (3, [.ref g11, .ref g12, .ref g13])), (g11, .inl (cy 0, 6, .inl (fun _ => 0)))] H := hP
    have hD : va_D A [(h0, .inr (9, [.ref g0, .ref g1, .ref g2, .ref g3, .ref g4, .ref g5, .ref g6, .ref g7, .ref g8, .ref g9, .int 0, .int 0])), (g12, .inl (cy 0, 6, .inl (fun _ => 0))), (g4, .inr (1, [.ref g15, .ref g16, .ref g17])), (g15, .inl (cy 0, 6, .inl (fun _ => 0))), (g16, .inl (cy 0, 6, .inl (fun _ => (-1)))), (g2, .inr (3, [.ref g11, .ref g12, .ref g13])), (g11, .inl (cy 0, 6, .inl (fun _ => 0)))] := hD
    rcases hw_3 with ⟨rfl, hw_3_0, hw_3_1⟩ | ⟨rfl, hw_3_0⟩
    · skip
      refine lv_if_eq (tgt := 52) hx hb dX9_well_28 (by decide) (fun h9 => absurd h9 (by decide)) (fun _ => ?_)
      refine lv_iload_n hx hb dX9_well_31 rfl (lv_at hl 3 rfl) ?_
      refine lv_iconst (v := 0) hx hb dX9_well_32 (by decide) ?_
      refine lv_sipush (v := 200) hx hb dX9_well_33 (by decide) ?_
      refine gz_afti (va_runS (As := [.int z, .int 0, .int 200]) (rest := []) ⟨hx, hb, hml, hown, hts⟩ (c_isWithin l G cy H.size z 0 200 z.toInt 0 200 rfl (by decide) (by decide)) ⟨(gz_cb (n := 3) hts gm_351 gm_1 gm_353 ⟨by decide +kernel, by decide +kernel, by decide +kernel⟩ ⟨Nat.le_of_ble_eq_true rfl, Nat.le_of_ble_eq_true rfl⟩), hts _ gm_352⟩ (gz_preS hK hov hP hD [] (by decide) rfl) rfl rfl hl.1 rfl (lv_room (Nat.le_of_ble_eq_true rfl)) dX9_well_36 ⟨Nat.le_of_ble_eq_true rfl, Nat.le_of_ble_eq_true rfl⟩) hP hD hS hA [] [0, 1, 2, 3, 4, 5, 6] rfl rfl (by decide) (by decide) (fun r_4 u_4 H locs hw_4 hP hD hS => ?_)
      have hP : va_P G vwCl [(h0, .inr (9, [.ref g0, .ref g1, .ref g2, .ref g3, .ref g4, .ref g5, .ref g6, .ref g7, .ref g8, .ref g9, .int 0, .int 0])), (g12, .inl (cy 0, 6, .inl (fun _ => 0))), (g4, .inr (1, [.ref g15, .ref g16, .ref g17])), (g15, .inl (cy 0, 6, .inl (fun _ => 0))), (g16, .inl (cy 0, 6, .inl (fun _ => (-1)))), (g2, .inr (3, [.ref g11, .ref g12, .ref g13])), (g11, .inl (cy 0, 6, .inl (fun _ => 0)))] H := hP
      have hD : va_D A [(h0, .inr (9, [.ref g0, .ref g1, .ref g2, .ref g3, .ref g4, .ref g5, .ref g6, .ref g7, .ref g8, .ref g9, .int 0, .int 0])), (g12, .inl (cy 0, 6, .inl (fun _ => 0))), (g4, .inr (1, [.ref g15, .ref g16, .ref g17])), (g15, .inl (cy 0, 6, .inl (fun _ => 0))), (g16, .inl (cy 0, 6, .inl (fun _ => (-1)))), (g2, .inr (3, [.ref g11, .ref g12, .ref g13])), (g11, .inl (cy 0, 6, .inl (fun _ => 0)))] := hD
      rcases hw_4 with ⟨rfl, hw_4_0, hw_4_1⟩ | ⟨rfl, hw_4_0⟩
      · skip
        refine lv_if_eq (tgt := 52) hx hb dX9_well_39 (by decide) (fun h9 => absurd h9 (by decide)) (fun _ => ?_)
        refine lv_iload hx hb dX9_well_42 (lv_at hl 4 rfl) ?_
        refine lv_iconst (v := 0) hx hb dX9_well_44 (by decide) ?_
        refine lv_iload_n hx hb dX9_well_45 rfl (lv_at hl 2 rfl) ?_
        refine gz_afti (va_runS (As := [.int v, .int 0, .int y]) (rest := []) ⟨hx, hb, hml, hown, hts⟩ (c_isWithin l G cy H.size v 0 y v.toInt 0 y.toInt rfl (by decide) rfl) ⟨(gz_cb (n := 3) hts gm_351 gm_1 gm_353 ⟨by decide +kernel, by decide +kernel, by decide +kernel⟩ ⟨Nat.le_of_ble_eq_true rfl, Nat.le_of_ble_eq_true rfl⟩), hts _ gm_352⟩ (gz_preS hK hov hP hD [] (by decide) rfl) rfl rfl hl.1 rfl (lv_room (Nat.le_of_ble_eq_true rfl)) dX9_well_46 ⟨Nat.le_of_ble_eq_true rfl, Nat.le_of_ble_eq_true rfl⟩) hP hD hS hA [] [0, 1, 2, 3, 4, 5, 6] rfl rfl (by decide) (by decide) (fun r_5 u_5 H locs hw_5 hP hD hS => ?_)
        have hP : va_P G vwCl [(h0, .inr (9, [.ref g0, .ref g1, .ref g2, .ref g3, .ref g4, .ref g5, .ref g6, .ref g7, .ref g8, .ref g9, .int 0, .int 0])), (g12, .inl (cy 0, 6, .inl (fun _ => 0))), (g4, .inr (1, [.ref g15, .ref g16, .ref g17])), (g15, .inl (cy 0, 6, .inl (fun _ => 0))), (g16, .inl (cy 0, 6, .inl (fun _ => (-1)))), (g2, .inr (3, [.ref g11, .ref g12, .ref g13])), (g11, .inl (cy 0, 6, .inl (fun _ => 0)))] H := hP
        have hD : va_D A [(h0, .inr (9, [.ref g0, .ref g1, .ref g2, .ref g3, .ref g4, .ref g5, .ref g6, .ref g7, .ref g8, .ref g9, .int 0, .int 0])), (g12, .inl (cy 0, 6, .inl (fun _ => 0))), (g4, .inr (1, [.ref g15, .ref g16, .ref g17])), (g15, .inl (cy 0, 6, .inl (fun _ => 0))), (g16, .inl (cy 0, 6, .inl (fun _ => (-1)))), (g2, .inr (3, [.ref g11, .ref g12, .ref g13])), (g11, .inl (cy 0, 6, .inl (fun _ => 0)))] := hD
        rcases hw_5 with ⟨rfl, hw_5_0, hw_5_1⟩ | ⟨rfl, hw_5_0⟩
        · skip
          refine lv_if_ne (tgt := 54) hx hb dX9_well_49 (by decide) (fun _ => ?_) (fun h9 => absurd h9 (by decide))
          refine lv_aload_n hx hb dX9_well_54 rfl (lv_at hl 0 rfl) ?_
          refine va_get (ci := 9) (v := .ref g2) (C := RX9) (T := TX9) (N := 12) hx hb hts inX9 hown hK hP 0 rfl rfl 2 (by decide) (hts _ gm_293) (fun _ h9 => h9) rfl dX9_well_55 ?_
          refine va_getN (host := "WellCourt") (ci := 3) (v := .ref g11) (C := RX3) (T := TX3) (N := 3) hx hb hts inX3 hown hK hP 5 rfl rfl 0 (by decide) (va_Nw.use rfl (hov.2.2 _ gn_84)) (fun _ h9 => h9) rfl dX9_well_58 ?_
          refine lv_iload_n hx hb dX9_well_61 rfl (lv_at hl 1 rfl) ?_
          refine lv_iload_n hx hb dX9_well_62 rfl (lv_at hl 2 rfl) ?_
          refine va_iast hx hb hK hP hD hS 6 0 rfl rfl (vp_in_iff.mpr ⟨by omega, by omega⟩) dX9_well_63 (fun H locs hP hD hS => ?_)
          obtain ⟨f_6, ef_6⟩ : ∃ g : Nat → Int32, g = upd (fun _ => 0) (x : Int32).toNatClampNeg y := ⟨_, rfl⟩
          have hP : va_P G vwCl [(h0, .inr (9, [.ref g0, .ref g1, .ref g2, .ref g3, .ref g4, .ref g5, .ref g6, .ref g7, .ref g8, .ref g9, .int 0, .int 0])), (g12, .inl (cy 0, 6, .inl (fun _ => 0))), (g4, .inr (1, [.ref g15, .ref g16, .ref g17])), (g15, .inl (cy 0, 6, .inl (fun _ => 0))), (g16, .inl (cy 0, 6, .inl (fun _ => (-1)))), (g2, .inr (3, [.ref g11, .ref g12, .ref g13])), (g11, .inl (cy 0, 6, .inl f_6))] H := ef_6 ▸ hP
          have hD : va_D A [(h0, .inr (9, [.ref g0, .ref g1, .ref g2, .ref g3, .ref g4, .ref g5, .ref g6, .ref g7, .ref g8, .ref g9, .int 0, .int 0])), (g12, .inl (cy 0, 6, .inl (fun _ => 0))), (g4, .inr (1, [.ref g15, .ref g16, .ref g17])), (g15, .inl (cy 0, 6, .inl (fun _ => 0))), (g16, .inl (cy 0, 6, .inl (fun _ => (-1)))), (g2, .inr (3, [.ref g11, .ref g12, .ref g13])), (g11, .inl (cy 0, 6, .inl f_6))] := ef_6 ▸ hD
          refine lv_aload_n hx hb dX9_well_64 rfl (lv_at hl 0 rfl) ?_
          refine va_get (ci := 9) (v := .ref g2) (C := RX9) (T := TX9) (N := 12) hx hb hts inX9 hown hK hP 0 rfl rfl 2 (by decide) (hts _ gm_293) (fun _ h9 => h9) rfl dX9_well_65 ?_
          refine va_getN (host := "WellCourt") (ci := 3) (v := .ref g12) (C := RX3) (T := TX3) (N := 3) hx hb hts inX3 hown hK hP 5 rfl rfl 1 (by decide) (va_Nw.use rfl (hov.2.2 _ gn_87)) (fun _ h9 => h9) rfl dX9_well_68 ?_
          refine lv_iload_n hx hb dX9_well_71 rfl (lv_at hl 1 rfl) ?_
          refine lv_iload_n hx hb dX9_well_72 rfl (lv_at hl 3 rfl) ?_
          refine va_iast hx hb hK hP hD hS 1 0 rfl rfl (vp_in_iff.mpr ⟨by omega, by omega⟩) dX9_well_73 (fun H locs hP hD hS => ?_)
          obtain ⟨f_7, ef_7⟩ : ∃ g : Nat → Int32, g = upd (fun _ => 0) (x : Int32).toNatClampNeg z := ⟨_, rfl⟩
          have hP : va_P G vwCl [(h0, .inr (9, [.ref g0, .ref g1, .ref g2, .ref g3, .ref g4, .ref g5, .ref g6, .ref g7, .ref g8, .ref g9, .int 0, .int 0])), (g12, .inl (cy 0, 6, .inl f_7)), (g4, .inr (1, [.ref g15, .ref g16, .ref g17])), (g15, .inl (cy 0, 6, .inl (fun _ => 0))), (g16, .inl (cy 0, 6, .inl (fun _ => (-1)))), (g2, .inr (3, [.ref g11, .ref g12, .ref g13])), (g11, .inl (cy 0, 6, .inl f_6))] H := ef_7 ▸ hP
          have hD : va_D A [(h0, .inr (9, [.ref g0, .ref g1, .ref g2, .ref g3, .ref g4, .ref g5, .ref g6, .ref g7, .ref g8, .ref g9, .int 0, .int 0])), (g12, .inl (cy 0, 6, .inl f_7)), (g4, .inr (1, [.ref g15, .ref g16, .ref g17])), (g15, .inl (cy 0, 6, .inl (fun _ => 0))), (g16, .inl (cy 0, 6, .inl (fun _ => (-1)))), (g2, .inr (3, [.ref g11, .ref g12, .ref g13])), (g11, .inl (cy 0, 6, .inl f_6))] := ef_7 ▸ hD
          refine lv_aload_n hx hb dX9_well_74 rfl (lv_at hl 0 rfl) ?_
          refine va_get (ci := 9) (v := .ref g4) (C := RX9) (T := TX9) (N := 12) hx hb hts inX9 hown hK hP 0 rfl rfl 4 (by decide) (hts _ gm_295) (fun _ h9 => h9) rfl dX9_well_75 ?_
          refine va_getN (host := "WellCourt") (ci := 1) (v := .ref g15) (C := RX1) (T := TX1) (N := 3) hx hb hts inX1 hown hK hP 2 rfl rfl 0 (by decide) (va_Nw.use rfl (hov.2.2 _ gn_121)) (fun _ h9 => h9) rfl dX9_well_78 ?_
          refine lv_iload_n hx hb dX9_well_81 rfl (lv_at hl 1 rfl) ?_
          refine lv_iload hx hb dX9_well_82 (lv_at hl 4 rfl) ?_
          refine va_iast hx hb hK hP hD hS 3 0 rfl rfl (vp_in_iff.mpr ⟨by omega, by omega⟩) dX9_well_84 (fun H locs hP hD hS => ?_)
          obtain ⟨f_8, ef_8⟩ : ∃ g : Nat → Int32, g = upd (fun _ => 0) (x : Int32).toNatClampNeg v := ⟨_, rfl⟩
          have hP : va_P G vwCl [(h0, .inr (9, [.ref g0, .ref g1, .ref g2, .ref g3, .ref g4, .ref g5, .ref g6, .ref g7, .ref g8, .ref g9, .int 0, .int 0])), (g12, .inl (cy 0, 6, .inl f_7)), (g4, .inr (1, [.ref g15, .ref g16, .ref g17])), (g15, .inl (cy 0, 6, .inl f_8)), (g16, .inl (cy 0, 6, .inl (fun _ => (-1)))), (g2, .inr (3, [.ref g11, .ref g12, .ref g13])), (g11, .inl (cy 0, 6, .inl f_6))] H := ef_8 ▸ hP
          have hD : va_D A [(h0, .inr (9, [.ref g0, .ref g1, .ref g2, .ref g3, .ref g4, .ref g5, .ref g6, .ref g7, .ref g8, .ref g9, .int 0, .int 0])), (g12, .inl (cy 0, 6, .inl f_7)), (g4, .inr (1, [.ref g15, .ref g16, .ref g17])), (g15, .inl (cy 0, 6, .inl f_8)), (g16, .inl (cy 0, 6, .inl (fun _ => (-1)))), (g2, .inr (3, [.ref g11, .ref g12, .ref g13])), (g11, .inl (cy 0, 6, .inl f_6))] := ef_8 ▸ hD
          refine lv_aload_n hx hb dX9_well_85 rfl (lv_at hl 0 rfl) ?_
          refine va_get (ci := 9) (v := .ref g4) (C := RX9) (T := TX9) (N := 12) hx hb hts inX9 hown hK hP 0 rfl rfl 4 (by decide) (hts _ gm_295) (fun _ h9 => h9) rfl dX9_well_86 ?_
          refine va_getN (host := "WellCourt") (ci := 1) (v := .ref g16) (C := RX1) (T := TX1) (N := 3) hx hb hts inX1 hown hK hP 2 rfl rfl 1 (by decide) (va_Nw.use rfl (hov.2.2 _ gn_124)) (fun _ h9 => h9) rfl dX9_well_89 ?_
          refine lv_iload_n hx hb dX9_well_92 rfl (lv_at hl 1 rfl) ?_
          refine lv_iload hx hb dX9_well_93 (lv_at hl 4 rfl) ?_
          refine va_iast hx hb hK hP hD hS 4 0 rfl rfl (vp_in_iff.mpr ⟨by omega, by omega⟩) dX9_well_95 (fun H locs hP hD hS => ?_)
          obtain ⟨f_9, ef_9⟩ : ∃ g : Nat → Int32, g = upd (fun _ => (-1)) (x : Int32).toNatClampNeg v := ⟨_, rfl⟩
          have hP : va_P G vwCl [(h0, .inr (9, [.ref g0, .ref g1, .ref g2, .ref g3, .ref g4, .ref g5, .ref g6, .ref g7, .ref g8, .ref g9, .int 0, .int 0])), (g12, .inl (cy 0, 6, .inl f_7)), (g4, .inr (1, [.ref g15, .ref g16, .ref g17])), (g15, .inl (cy 0, 6, .inl f_8)), (g16, .inl (cy 0, 6, .inl f_9)), (g2, .inr (3, [.ref g11, .ref g12, .ref g13])), (g11, .inl (cy 0, 6, .inl f_6))] H := ef_9 ▸ hP
          have hD : va_D A [(h0, .inr (9, [.ref g0, .ref g1, .ref g2, .ref g3, .ref g4, .ref g5, .ref g6, .ref g7, .ref g8, .ref g9, .int 0, .int 0])), (g12, .inl (cy 0, 6, .inl f_7)), (g4, .inr (1, [.ref g15, .ref g16, .ref g17])), (g15, .inl (cy 0, 6, .inl f_8)), (g16, .inl (cy 0, 6, .inl f_9)), (g2, .inr (3, [.ref g11, .ref g12, .ref g13])), (g11, .inl (cy 0, 6, .inl f_6))] := ef_9 ▸ hD
          refine lv_iconst (v := 1) hx hb dX9_well_96 (by decide) ?_
          exact gz_iret (cf := (fun (u : Unit) => [])) (post := (fun (r : Int32) (u : Unit) => (r = 1 ∧ (0 ≤ Xx ∧ Xx < 6 ∧ 1 ≤ Xy ∧ Xy ≤ 1000 ∧ 0 ≤ Xz ∧ Xz ≤ 200 ∧ 0 ≤ Xv ∧ Xv ≤ Xy)) ∨ (r = 0 ∧ (¬ (0 ≤ Xx ∧ Xx < 6 ∧ 1 ≤ Xy ∧ Xy ≤ 1000 ∧ 0 ≤ Xz ∧ Xz ≤ 200 ∧ 0 ≤ Xv ∧ Xv ≤ Xy))))) hx hb hr hlocks hK hP hD hS () [] (by decide) (Or.inl (⟨rfl, by omega⟩)) (by decide) rfl (Nat.le_of_ble_eq_true rfl) (Nat.le_of_ble_eq_true rfl) dX9_well_97
        · skip
          refine lv_if_ne (tgt := 54) hx hb dX9_well_49 (by decide) (fun h9 => absurd (by decide) h9) (fun _ => ?_)
          refine lv_iconst (v := 0) hx hb dX9_well_52 (by decide) ?_
          exact gz_iret (cf := (fun (u : Unit) => [])) (post := (fun (r : Int32) (u : Unit) => (r = 1 ∧ (0 ≤ Xx ∧ Xx < 6 ∧ 1 ≤ Xy ∧ Xy ≤ 1000 ∧ 0 ≤ Xz ∧ Xz ≤ 200 ∧ 0 ≤ Xv ∧ Xv ≤ Xy)) ∨ (r = 0 ∧ (¬ (0 ≤ Xx ∧ Xx < 6 ∧ 1 ≤ Xy ∧ Xy ≤ 1000 ∧ 0 ≤ Xz ∧ Xz ≤ 200 ∧ 0 ≤ Xv ∧ Xv ≤ Xy))))) hx hb hr hlocks hK hP hD hS () [] (by decide) (Or.inr (⟨rfl, by omega⟩)) (by decide) rfl (Nat.le_of_ble_eq_true rfl) (Nat.le_of_ble_eq_true rfl) dX9_well_53
      · skip
        refine lv_if_eq (tgt := 52) hx hb dX9_well_39 (by decide) (fun _ => ?_) (fun h9 => absurd (by decide) h9)
        refine lv_iconst (v := 0) hx hb dX9_well_52 (by decide) ?_
        exact gz_iret (cf := (fun (u : Unit) => [])) (post := (fun (r : Int32) (u : Unit) => (r = 1 ∧ (0 ≤ Xx ∧ Xx < 6 ∧ 1 ≤ Xy ∧ Xy ≤ 1000 ∧ 0 ≤ Xz ∧ Xz ≤ 200 ∧ 0 ≤ Xv ∧ Xv ≤ Xy)) ∨ (r = 0 ∧ (¬ (0 ≤ Xx ∧ Xx < 6 ∧ 1 ≤ Xy ∧ Xy ≤ 1000 ∧ 0 ≤ Xz ∧ Xz ≤ 200 ∧ 0 ≤ Xv ∧ Xv ≤ Xy))))) hx hb hr hlocks hK hP hD hS () [] (by decide) (Or.inr (⟨rfl, by omega⟩)) (by decide) rfl (Nat.le_of_ble_eq_true rfl) (Nat.le_of_ble_eq_true rfl) dX9_well_53
    · skip
      refine lv_if_eq (tgt := 52) hx hb dX9_well_28 (by decide) (fun _ => ?_) (fun h9 => absurd (by decide) h9)
      refine lv_iconst (v := 0) hx hb dX9_well_52 (by decide) ?_
      exact gz_iret (cf := (fun (u : Unit) => [])) (post := (fun (r : Int32) (u : Unit) => (r = 1 ∧ (0 ≤ Xx ∧ Xx < 6 ∧ 1 ≤ Xy ∧ Xy ≤ 1000 ∧ 0 ≤ Xz ∧ Xz ≤ 200 ∧ 0 ≤ Xv ∧ Xv ≤ Xy)) ∨ (r = 0 ∧ (¬ (0 ≤ Xx ∧ Xx < 6 ∧ 1 ≤ Xy ∧ Xy ≤ 1000 ∧ 0 ≤ Xz ∧ Xz ≤ 200 ∧ 0 ≤ Xv ∧ Xv ≤ Xy))))) hx hb hr hlocks hK hP hD hS () [] (by decide) (Or.inr (⟨rfl, by omega⟩)) (by decide) rfl (Nat.le_of_ble_eq_true rfl) (Nat.le_of_ble_eq_true rfl) dX9_well_53
  · skip
    refine lv_if_eq (tgt := 18) hx hb dX9_well_4 (by decide) (fun _ => ?_) (fun h9 => absurd (by decide) h9)
    refine lv_iconst (v := 0) hx hb dX9_well_18 (by decide) ?_
    exact gz_iret (cf := (fun (u : Unit) => [])) (post := (fun (r : Int32) (u : Unit) => (r = 1 ∧ (0 ≤ Xx ∧ Xx < 6 ∧ 1 ≤ Xy ∧ Xy ≤ 1000 ∧ 0 ≤ Xz ∧ Xz ≤ 200 ∧ 0 ≤ Xv ∧ Xv ≤ Xy)) ∨ (r = 0 ∧ (¬ (0 ≤ Xx ∧ Xx < 6 ∧ 1 ≤ Xy ∧ Xy ≤ 1000 ∧ 0 ≤ Xz ∧ Xz ≤ 200 ∧ 0 ≤ Xv ∧ Xv ≤ Xy))))) hx hb hr hlocks hK hP hD hS () [] (by decide) (Or.inr (⟨rfl, by omega⟩)) (by decide) rfl (Nat.le_of_ble_eq_true rfl) (Nat.le_of_ble_eq_true rfl) dX9_well_19

set_option maxHeartbeats 4000000 in
set_option maxRecDepth 100000 in
/-- WellCourt.rights -/
theorem c_rights (l : Launch) (G : va_G) (cy : Nat → ClassId) (sz : Nat) (h0 : Nat) (g0 : Nat) (g1 : Nat) (g2 : Nat) (g3 : Nat) (g4 : Nat) (g5 : Nat) (g6 : Nat) (g7 : Nat) (g8 : Nat) (g9 : Nat) (g10 : Nat) (g14 : Nat) (g15 : Nat) (g16 : Nat) (g17 : Nat) (g24 : Nat) (g25 : Nat) (g26 : Nat) (g27 : Nat) (g28 : Nat) (g29 : Nat) (g30 : Nat) (g31 : Nat) (g32 : Nat) (g33 : Nat) (g34 : Nat) (g35 : Nat) (g36 : Nat) (g37 : Nat) (g38 : Nat) (g39 : Nat) (g40 : Nat) (g41 : Nat) (g42 : Nat) (g43 : Nat) (g44 : Nat) (g45 : Nat) (rO : Nat → Nat)  : gMi l yX9_rights cX9_rights 3 (some .int) ({ frames := 4, cells := 0, slots := 0, locals := 87 }) G cy sz [.ref h0] [(h0, .inr (9, [.ref g0, .ref g1, .ref g2, .ref g3, .ref g4, .ref g5, .ref g6, .ref g7, .ref g8, .ref g9, .int 0, .int 0])), (g0, .inr (8, [.ref g10, .int 0])), (g1, .inr (7, [.ref g0, .int 0, .int 0, .int 0, .int 0, .int 0])), (g7, .inr (4, [.int 0, .ref g24, .ref g25, .ref g26, .ref g27, .int 0, .ref g28, .ref g29, .ref g30, .int 0, .ref g31, .ref g32, .ref g33, .ref g34])), (g8, .inr (4, [.int 0, .ref g35, .ref g36, .ref g37, .ref g38, .int 0, .ref g39, .ref g40, .ref g41, .int 0, .ref g42, .ref g43, .ref g44, .ref g45])), (g36, .inl (cy 0, 6, .inl (fun _ => 0))), (g37, .inl (cy 0, 6, .inl (fun _ => 0))), (g38, .inl (cy 0, 6, .inl (fun _ => 0))), (g4, .inr (1, [.ref g15, .ref g16, .ref g17])), (g16, .inl (cy 0, 6, .inl (fun _ => (-1)))), (g17, .inl (cy 0, 6, .inl (fun _ => (-1)))), (g3, .inr (0, [.ref g14])), (g14, .inl (cy 3, 6, .inr (.inr (.inr (.inr (fun i => if i < 6 then some (rO i) else none)))))), ((rO 0), .inl (cy 0, 200, .inl (fun _ => (-1)))), ((rO 1), .inl (cy 0, 200, .inl (fun _ => (-1)))), ((rO 2), .inl (cy 0, 200, .inl (fun _ => (-1)))), ((rO 3), .inl (cy 0, 200, .inl (fun _ => (-1)))), ((rO 4), .inl (cy 0, 200, .inl (fun _ => (-1)))), ((rO 5), .inl (cy 0, 200, .inl (fun _ => (-1))))] (fun (r : Int32) (u : Unit) => r = 0) (fun (u : Unit) => []) := by
  refine gz_start (fun A => gQi G cy _ _ A) (by decide) (Nat.le_of_ble_eq_true rfl) ?_
  intro p e s m below meth c A ls H hx hb hr hml hlocks hin hown hts hK hov hsz hP hD hS hA hl
  have hl : lv_has ls 3 [(0, .ref h0)] := hl
  refine lv_aload_n hx hb dX9_rights_0 rfl (lv_at hl 0 rfl) ?_
  refine va_get (ci := 9) (v := .ref g8) (C := RX9) (T := TX9) (N := 12) hx hb hts inX9 hown hK hP 0 rfl rfl 8 (by decide) (hts _ gm_299) (fun _ h9 => h9) rfl dX9_rights_1 ?_
  refine gz_aftv (va_runV (As := []) (rest := []) ⟨hx, hb, hml, hown, hts⟩ (c_X4_clear l G cy H.size g8 g35 g36 g37 g38 g39 g40 g41 g42 g43 g44 g45 ) ⟨(gz_cb (n := 0) hts gm_358 gm_10 gm_361 ⟨by decide +kernel, by decide +kernel, by decide +kernel⟩ ⟨Nat.le_of_ble_eq_true rfl, Nat.le_of_ble_eq_true rfl⟩), hts _ gm_359, hts _ gm_360⟩ (gz_preV (ci := 4) (q0 := 0) hK hov hP hD [4, 5, 6, 7] (by decide) rfl rfl rfl) rfl rfl hl.1 rfl (lv_room (Nat.le_of_ble_eq_true rfl)) dX9_rights_4 ⟨Nat.le_of_ble_eq_true rfl, Nat.le_of_ble_eq_true rfl⟩) hP hD hS hA [4, 5, 6, 7] [0, 1, 2, 3, 8, 9, 10, 11, 12, 13, 14, 15, 16, 17, 18] rfl rfl (by decide) (by decide) (fun u_1 H locs hw_1 hP hD hS => ?_)
  have hP : va_P G vwCl [(h0, .inr (9, [.ref g0, .ref g1, .ref g2, .ref g3, .ref g4, .ref g5, .ref g6, .ref g7, .ref g8, .ref g9, .int 0, .int 0])), (g0, .inr (8, [.ref g10, .int 0])), (g1, .inr (7, [.ref g0, .int 0, .int 0, .int 0, .int 0, .int 0])), (g7, .inr (4, [.int 0, .ref g24, .ref g25, .ref g26, .ref g27, .int 0, .ref g28, .ref g29, .ref g30, .int 0, .ref g31, .ref g32, .ref g33, .ref g34])), (g4, .inr (1, [.ref g15, .ref g16, .ref g17])), (g16, .inl (cy 0, 6, .inl (fun _ => (-1)))), (g17, .inl (cy 0, 6, .inl (fun _ => (-1)))), (g3, .inr (0, [.ref g14])), (g14, .inl (cy 3, 6, .inr (.inr (.inr (.inr (fun i => if i < 6 then some (rO i) else none)))))), ((rO 0), .inl (cy 0, 200, .inl (fun _ => (-1)))), ((rO 1), .inl (cy 0, 200, .inl (fun _ => (-1)))), ((rO 2), .inl (cy 0, 200, .inl (fun _ => (-1)))), ((rO 3), .inl (cy 0, 200, .inl (fun _ => (-1)))), ((rO 4), .inl (cy 0, 200, .inl (fun _ => (-1)))), ((rO 5), .inl (cy 0, 200, .inl (fun _ => (-1)))), (g8, .inr (4, [.int 0, .ref g35, .ref g36, .ref g37, .ref g38, .int 0, .ref g39, .ref g40, .ref g41, .int 0, .ref g42, .ref g43, .ref g44, .ref g45])), (g36, .inl (cy 0, 6, .inl (fun _ => 0))), (g37, .inl (cy 0, 6, .inl (fun _ => 0))), (g38, .inl (cy 0, 6, .inl (fun _ => 0)))] H := hP
  have hD : va_D A [(h0, .inr (9, [.ref g0, .ref g1, .ref g2, .ref g3, .ref g4, .ref g5, .ref g6, .ref g7, .ref g8, .ref g9, .int 0, .int 0])), (g0, .inr (8, [.ref g10, .int 0])), (g1, .inr (7, [.ref g0, .int 0, .int 0, .int 0, .int 0, .int 0])), (g7, .inr (4, [.int 0, .ref g24, .ref g25, .ref g26, .ref g27, .int 0, .ref g28, .ref g29, .ref g30, .int 0, .ref g31, .ref g32, .ref g33, .ref g34])), (g4, .inr (1, [.ref g15, .ref g16, .ref g17])), (g16, .inl (cy 0, 6, .inl (fun _ => (-1)))), (g17, .inl (cy 0, 6, .inl (fun _ => (-1)))), (g3, .inr (0, [.ref g14])), (g14, .inl (cy 3, 6, .inr (.inr (.inr (.inr (fun i => if i < 6 then some (rO i) else none)))))), ((rO 0), .inl (cy 0, 200, .inl (fun _ => (-1)))), ((rO 1), .inl (cy 0, 200, .inl (fun _ => (-1)))), ((rO 2), .inl (cy 0, 200, .inl (fun _ => (-1)))), ((rO 3), .inl (cy 0, 200, .inl (fun _ => (-1)))), ((rO 4), .inl (cy 0, 200, .inl (fun _ => (-1)))), ((rO 5), .inl (cy 0, 200, .inl (fun _ => (-1)))), (g8, .inr (4, [.int 0, .ref g35, .ref g36, .ref g37, .ref g38, .int 0, .ref g39, .ref g40, .ref g41, .int 0, .ref g42, .ref g43, .ref g44, .ref g45])), (g36, .inl (cy 0, 6, .inl (fun _ => 0))), (g37, .inl (cy 0, 6, .inl (fun _ => 0))), (g38, .inl (cy 0, 6, .inl (fun _ => 0)))] := hD
  refine lv_aload_n hx hb dX9_rights_7 rfl (lv_at hl 0 rfl) ?_
  refine va_get (ci := 9) (v := .ref g1) (C := RX9) (T := TX9) (N := 12) hx hb hts inX9 hown hK hP 0 rfl rfl 1 (by decide) (hts _ gm_292) (fun _ h9 => h9) rfl dX9_rights_8 ?_
  refine lv_aload_n hx hb dX9_rights_11 rfl (lv_at hl 0 rfl) ?_
  refine va_get (ci := 9) (v := .ref g8) (C := RX9) (T := TX9) (N := 12) hx hb hts inX9 hown hK hP 0 rfl rfl 8 (by decide) (hts _ gm_299) (fun _ h9 => h9) rfl dX9_rights_12 ?_
  refine gz_afti (va_runV (As := [.ref g8]) (rest := []) ⟨hx, hb, hml, hown, hts⟩ (c_X7_readText l G cy H.size g1 g0 g10 g8 g35 g36 g37 g38 g39 g40 g41 g42 g43 g44 g45 ) ⟨(gz_cb (n := 1) hts gm_363 gm_3 gm_366 ⟨by decide +kernel, by decide +kernel, by decide +kernel⟩ ⟨Nat.le_of_ble_eq_true rfl, Nat.le_of_ble_eq_true rfl⟩), hts _ gm_364, hts _ gm_365⟩ (gz_preV (ci := 7) (q0 := 0) hK hov hP hD [2, 1, 15] (by decide) rfl rfl rfl) rfl rfl hl.1 rfl (lv_room (Nat.le_of_ble_eq_true rfl)) dX9_rights_15 ⟨Nat.le_of_ble_eq_true rfl, Nat.le_of_ble_eq_true rfl⟩) hP hD hS hA [2, 1, 15] [0, 3, 4, 5, 6, 7, 8, 9, 10, 11, 12, 13, 14, 16, 17, 18] rfl rfl (by decide) (by decide) (fun r_2 u_2 H locs hw_2 hP hD hS => ?_)
  have hP : va_P G vwCl [(h0, .inr (9, [.ref g0, .ref g1, .ref g2, .ref g3, .ref g4, .ref g5, .ref g6, .ref g7, .ref g8, .ref g9, .int 0, .int 0])), (g7, .inr (4, [.int 0, .ref g24, .ref g25, .ref g26, .ref g27, .int 0, .ref g28, .ref g29, .ref g30, .int 0, .ref g31, .ref g32, .ref g33, .ref g34])), (g4, .inr (1, [.ref g15, .ref g16, .ref g17])), (g16, .inl (cy 0, 6, .inl (fun _ => (-1)))), (g17, .inl (cy 0, 6, .inl (fun _ => (-1)))), (g3, .inr (0, [.ref g14])), (g14, .inl (cy 3, 6, .inr (.inr (.inr (.inr (fun i => if i < 6 then some (rO i) else none)))))), ((rO 0), .inl (cy 0, 200, .inl (fun _ => (-1)))), ((rO 1), .inl (cy 0, 200, .inl (fun _ => (-1)))), ((rO 2), .inl (cy 0, 200, .inl (fun _ => (-1)))), ((rO 3), .inl (cy 0, 200, .inl (fun _ => (-1)))), ((rO 4), .inl (cy 0, 200, .inl (fun _ => (-1)))), ((rO 5), .inl (cy 0, 200, .inl (fun _ => (-1)))), (g36, .inl (cy 0, 6, .inl (fun _ => 0))), (g37, .inl (cy 0, 6, .inl (fun _ => 0))), (g38, .inl (cy 0, 6, .inl (fun _ => 0))), (g1, .inr (7, [.ref g0, .int 0, .int 0, .int 0, .int 0, .int 0])), (g0, .inr (8, [.ref g10, .int 0])), (g8, .inr (4, [.int 0, .ref g35, .ref g36, .ref g37, .ref g38, .int 0, .ref g39, .ref g40, .ref g41, .int 0, .ref g42, .ref g43, .ref g44, .ref g45]))] H := hP
  have hD : va_D A [(h0, .inr (9, [.ref g0, .ref g1, .ref g2, .ref g3, .ref g4, .ref g5, .ref g6, .ref g7, .ref g8, .ref g9, .int 0, .int 0])), (g7, .inr (4, [.int 0, .ref g24, .ref g25, .ref g26, .ref g27, .int 0, .ref g28, .ref g29, .ref g30, .int 0, .ref g31, .ref g32, .ref g33, .ref g34])), (g4, .inr (1, [.ref g15, .ref g16, .ref g17])), (g16, .inl (cy 0, 6, .inl (fun _ => (-1)))), (g17, .inl (cy 0, 6, .inl (fun _ => (-1)))), (g3, .inr (0, [.ref g14])), (g14, .inl (cy 3, 6, .inr (.inr (.inr (.inr (fun i => if i < 6 then some (rO i) else none)))))), ((rO 0), .inl (cy 0, 200, .inl (fun _ => (-1)))), ((rO 1), .inl (cy 0, 200, .inl (fun _ => (-1)))), ((rO 2), .inl (cy 0, 200, .inl (fun _ => (-1)))), ((rO 3), .inl (cy 0, 200, .inl (fun _ => (-1)))), ((rO 4), .inl (cy 0, 200, .inl (fun _ => (-1)))), ((rO 5), .inl (cy 0, 200, .inl (fun _ => (-1)))), (g36, .inl (cy 0, 6, .inl (fun _ => 0))), (g37, .inl (cy 0, 6, .inl (fun _ => 0))), (g38, .inl (cy 0, 6, .inl (fun _ => 0))), (g1, .inr (7, [.ref g0, .int 0, .int 0, .int 0, .int 0, .int 0])), (g0, .inr (8, [.ref g10, .int 0])), (g8, .inr (4, [.int 0, .ref g35, .ref g36, .ref g37, .ref g38, .int 0, .ref g39, .ref g40, .ref g41, .int 0, .ref g42, .ref g43, .ref g44, .ref g45]))] := hD
  obtain rfl := hw_2
  refine lv_istore_n (lv' := [(1, .int 1), (0, .ref h0)]) hx hb dX9_rights_18 rfl hl (by decide) rfl (fun ls hl => ?_)
  refine lv_aload_n hx hb dX9_rights_19 rfl (lv_at hl 1 rfl) ?_
  refine va_get (ci := 9) (v := .ref g0) (C := RX9) (T := TX9) (N := 12) hx hb hts inX9 hown hK hP 0 rfl rfl 0 (by decide) (hts _ gm_291) (fun _ h9 => h9) rfl dX9_rights_20 ?_
  refine lv_iconst (v := 0) hx hb dX9_rights_23 (by decide) ?_
  refine va_putN (host := "WellCourt") (ci := 8) (v := .int 0) (ty := .int) (C := RX8) (T := TX8) (N := 2) hx hb hts inX8 tyX8 tyX8_ok nmX8 hown hK hP hD hS 17 rfl rfl 1 (by decide) (va_Nw.use rfl (hov.2.2 _ gn_40)) (fun _ h9 => h9) rfl (by decide +kernel) rfl rfl (Nat.le_of_ble_eq_true rfl) dX9_rights_24 (fun H locs hP hD hS => ?_)
  have hP : va_P G vwCl [(h0, .inr (9, [.ref g0, .ref g1, .ref g2, .ref g3, .ref g4, .ref g5, .ref g6, .ref g7, .ref g8, .ref g9, .int 0, .int 0])), (g7, .inr (4, [.int 0, .ref g24, .ref g25, .ref g26, .ref g27, .int 0, .ref g28, .ref g29, .ref g30, .int 0, .ref g31, .ref g32, .ref g33, .ref g34])), (g4, .inr (1, [.ref g15, .ref g16, .ref g17])), (g16, .inl (cy 0, 6, .inl (fun _ => (-1)))), (g17, .inl (cy 0, 6, .inl (fun _ => (-1)))), (g3, .inr (0, [.ref g14])), (g14, .inl (cy 3, 6, .inr (.inr (.inr (.inr (fun i => if i < 6 then some (rO i) else none)))))), ((rO 0), .inl (cy 0, 200, .inl (fun _ => (-1)))), ((rO 1), .inl (cy 0, 200, .inl (fun _ => (-1)))), ((rO 2), .inl (cy 0, 200, .inl (fun _ => (-1)))), ((rO 3), .inl (cy 0, 200, .inl (fun _ => (-1)))), ((rO 4), .inl (cy 0, 200, .inl (fun _ => (-1)))), ((rO 5), .inl (cy 0, 200, .inl (fun _ => (-1)))), (g36, .inl (cy 0, 6, .inl (fun _ => 0))), (g37, .inl (cy 0, 6, .inl (fun _ => 0))), (g38, .inl (cy 0, 6, .inl (fun _ => 0))), (g1, .inr (7, [.ref g0, .int 0, .int 0, .int 0, .int 0, .int 0])), (g0, .inr (8, [.ref g10, .int 0])), (g8, .inr (4, [.int 0, .ref g35, .ref g36, .ref g37, .ref g38, .int 0, .ref g39, .ref g40, .ref g41, .int 0, .ref g42, .ref g43, .ref g44, .ref g45]))] H := hP
  have hD : va_D A [(h0, .inr (9, [.ref g0, .ref g1, .ref g2, .ref g3, .ref g4, .ref g5, .ref g6, .ref g7, .ref g8, .ref g9, .int 0, .int 0])), (g7, .inr (4, [.int 0, .ref g24, .ref g25, .ref g26, .ref g27, .int 0, .ref g28, .ref g29, .ref g30, .int 0, .ref g31, .ref g32, .ref g33, .ref g34])), (g4, .inr (1, [.ref g15, .ref g16, .ref g17])), (g16, .inl (cy 0, 6, .inl (fun _ => (-1)))), (g17, .inl (cy 0, 6, .inl (fun _ => (-1)))), (g3, .inr (0, [.ref g14])), (g14, .inl (cy 3, 6, .inr (.inr (.inr (.inr (fun i => if i < 6 then some (rO i) else none)))))), ((rO 0), .inl (cy 0, 200, .inl (fun _ => (-1)))), ((rO 1), .inl (cy 0, 200, .inl (fun _ => (-1)))), ((rO 2), .inl (cy 0, 200, .inl (fun _ => (-1)))), ((rO 3), .inl (cy 0, 200, .inl (fun _ => (-1)))), ((rO 4), .inl (cy 0, 200, .inl (fun _ => (-1)))), ((rO 5), .inl (cy 0, 200, .inl (fun _ => (-1)))), (g36, .inl (cy 0, 6, .inl (fun _ => 0))), (g37, .inl (cy 0, 6, .inl (fun _ => 0))), (g38, .inl (cy 0, 6, .inl (fun _ => 0))), (g1, .inr (7, [.ref g0, .int 0, .int 0, .int 0, .int 0, .int 0])), (g0, .inr (8, [.ref g10, .int 0])), (g8, .inr (4, [.int 0, .ref g35, .ref g36, .ref g37, .ref g38, .int 0, .ref g39, .ref g40, .ref g41, .int 0, .ref g42, .ref g43, .ref g44, .ref g45]))] := hD
  refine lv_aload_n hx hb dX9_rights_27 rfl (lv_at hl 1 rfl) ?_
  refine lv_aload_n hx hb dX9_rights_28 rfl (lv_at hl 1 rfl) ?_
  refine va_get (ci := 9) (v := .ref g1) (C := RX9) (T := TX9) (N := 12) hx hb hts inX9 hown hK hP 0 rfl rfl 1 (by decide) (hts _ gm_292) (fun _ h9 => h9) rfl dX9_rights_29 ?_
  refine va_getN (host := "WellCourt") (ci := 7) (v := .int 0) (C := RX7) (T := TX7) (N := 6) hx hb hts inX7 hown hK hP 16 rfl rfl 4 (by decide) (va_Nw.use rfl (hov.2.2 _ gn_58)) (fun _ h9 => h9) rfl dX9_rights_32 ?_
  refine va_put (ci := 9) (v := .int 0) (ty := .int) (C := RX9) (T := TX9) (N := 12) hx hb hts inX9 tyX9 tyX9_ok nmX9 hown hK hP hD hS 0 rfl rfl 11 (by decide) (hts _ gm_302) (fun _ h9 => h9) rfl (by decide +kernel) rfl rfl (Nat.le_of_ble_eq_true rfl) dX9_rights_35 (fun H locs hP hD hS => ?_)
  have hP : va_P G vwCl [(h0, .inr (9, [.ref g0, .ref g1, .ref g2, .ref g3, .ref g4, .ref g5, .ref g6, .ref g7, .ref g8, .ref g9, .int 0, .int 0])), (g7, .inr (4, [.int 0, .ref g24, .ref g25, .ref g26, .ref g27, .int 0, .ref g28, .ref g29, .ref g30, .int 0, .ref g31, .ref g32, .ref g33, .ref g34])), (g4, .inr (1, [.ref g15, .ref g16, .ref g17])), (g16, .inl (cy 0, 6, .inl (fun _ => (-1)))), (g17, .inl (cy 0, 6, .inl (fun _ => (-1)))), (g3, .inr (0, [.ref g14])), (g14, .inl (cy 3, 6, .inr (.inr (.inr (.inr (fun i => if i < 6 then some (rO i) else none)))))), ((rO 0), .inl (cy 0, 200, .inl (fun _ => (-1)))), ((rO 1), .inl (cy 0, 200, .inl (fun _ => (-1)))), ((rO 2), .inl (cy 0, 200, .inl (fun _ => (-1)))), ((rO 3), .inl (cy 0, 200, .inl (fun _ => (-1)))), ((rO 4), .inl (cy 0, 200, .inl (fun _ => (-1)))), ((rO 5), .inl (cy 0, 200, .inl (fun _ => (-1)))), (g36, .inl (cy 0, 6, .inl (fun _ => 0))), (g37, .inl (cy 0, 6, .inl (fun _ => 0))), (g38, .inl (cy 0, 6, .inl (fun _ => 0))), (g1, .inr (7, [.ref g0, .int 0, .int 0, .int 0, .int 0, .int 0])), (g0, .inr (8, [.ref g10, .int 0])), (g8, .inr (4, [.int 0, .ref g35, .ref g36, .ref g37, .ref g38, .int 0, .ref g39, .ref g40, .ref g41, .int 0, .ref g42, .ref g43, .ref g44, .ref g45]))] H := hP
  have hD : va_D A [(h0, .inr (9, [.ref g0, .ref g1, .ref g2, .ref g3, .ref g4, .ref g5, .ref g6, .ref g7, .ref g8, .ref g9, .int 0, .int 0])), (g7, .inr (4, [.int 0, .ref g24, .ref g25, .ref g26, .ref g27, .int 0, .ref g28, .ref g29, .ref g30, .int 0, .ref g31, .ref g32, .ref g33, .ref g34])), (g4, .inr (1, [.ref g15, .ref g16, .ref g17])), (g16, .inl (cy 0, 6, .inl (fun _ => (-1)))), (g17, .inl (cy 0, 6, .inl (fun _ => (-1)))), (g3, .inr (0, [.ref g14])), (g14, .inl (cy 3, 6, .inr (.inr (.inr (.inr (fun i => if i < 6 then some (rO i) else none)))))), ((rO 0), .inl (cy 0, 200, .inl (fun _ => (-1)))), ((rO 1), .inl (cy 0, 200, .inl (fun _ => (-1)))), ((rO 2), .inl (cy 0, 200, .inl (fun _ => (-1)))), ((rO 3), .inl (cy 0, 200, .inl (fun _ => (-1)))), ((rO 4), .inl (cy 0, 200, .inl (fun _ => (-1)))), ((rO 5), .inl (cy 0, 200, .inl (fun _ => (-1)))), (g36, .inl (cy 0, 6, .inl (fun _ => 0))), (g37, .inl (cy 0, 6, .inl (fun _ => 0))), (g38, .inl (cy 0, 6, .inl (fun _ => 0))), (g1, .inr (7, [.ref g0, .int 0, .int 0, .int 0, .int 0, .int 0])), (g0, .inr (8, [.ref g10, .int 0])), (g8, .inr (4, [.int 0, .ref g35, .ref g36, .ref g37, .ref g38, .int 0, .ref g39, .ref g40, .ref g41, .int 0, .ref g42, .ref g43, .ref g44, .ref g45]))] := hD
  refine lv_iload_n hx hb dX9_rights_38 rfl (lv_at hl 0 rfl) ?_
  refine lv_if_ne (tgt := 52) hx hb dX9_rights_39 (by decide) (fun _ => ?_) (fun h9 => absurd h9 (by decide))
  refine lv_aload_n hx hb dX9_rights_52 rfl (lv_at hl 1 rfl) ?_
  refine va_get (ci := 9) (v := .ref g7) (C := RX9) (T := TX9) (N := 12) hx hb hts inX9 hown hK hP 0 rfl rfl 7 (by decide) (hts _ gm_298) (fun _ h9 => h9) rfl dX9_rights_53 ?_
  refine lv_astore_n (lv' := [(2, .ref g7), (1, .int 1), (0, .ref h0)]) hx hb dX9_rights_56 rfl hl (by decide) rfl (fun ls hl => ?_)
  refine lv_aload_n hx hb dX9_rights_57 rfl (lv_at hl 2 rfl) ?_
  refine lv_aload_n hx hb dX9_rights_58 rfl (lv_at hl 2 rfl) ?_
  refine va_get (ci := 9) (v := .ref g8) (C := RX9) (T := TX9) (N := 12) hx hb hts inX9 hown hK hP 0 rfl rfl 8 (by decide) (hts _ gm_299) (fun _ h9 => h9) rfl dX9_rights_59 ?_
  refine va_put (ci := 9) (v := .ref g8) (ty := .object "WellCourt$Law") (C := RX9) (T := TX9) (N := 12) hx hb hts inX9 tyX9 tyX9_ok nmX9 hown hK hP hD hS 0 rfl rfl 7 (by decide) (hts _ gm_298) (fun _ h9 => h9) rfl (by decide +kernel) rfl rfl (Nat.le_of_ble_eq_true rfl) dX9_rights_62 (fun H locs hP hD hS => ?_)
  have hP : va_P G vwCl [(h0, .inr (9, [.ref g0, .ref g1, .ref g2, .ref g3, .ref g4, .ref g5, .ref g6, .ref g8, .ref g8, .ref g9, .int 0, .int 0])), (g7, .inr (4, [.int 0, .ref g24, .ref g25, .ref g26, .ref g27, .int 0, .ref g28, .ref g29, .ref g30, .int 0, .ref g31, .ref g32, .ref g33, .ref g34])), (g4, .inr (1, [.ref g15, .ref g16, .ref g17])), (g16, .inl (cy 0, 6, .inl (fun _ => (-1)))), (g17, .inl (cy 0, 6, .inl (fun _ => (-1)))), (g3, .inr (0, [.ref g14])), (g14, .inl (cy 3, 6, .inr (.inr (.inr (.inr (fun i => if i < 6 then some (rO i) else none)))))), ((rO 0), .inl (cy 0, 200, .inl (fun _ => (-1)))), ((rO 1), .inl (cy 0, 200, .inl (fun _ => (-1)))), ((rO 2), .inl (cy 0, 200, .inl (fun _ => (-1)))), ((rO 3), .inl (cy 0, 200, .inl (fun _ => (-1)))), ((rO 4), .inl (cy 0, 200, .inl (fun _ => (-1)))), ((rO 5), .inl (cy 0, 200, .inl (fun _ => (-1)))), (g36, .inl (cy 0, 6, .inl (fun _ => 0))), (g37, .inl (cy 0, 6, .inl (fun _ => 0))), (g38, .inl (cy 0, 6, .inl (fun _ => 0))), (g1, .inr (7, [.ref g0, .int 0, .int 0, .int 0, .int 0, .int 0])), (g0, .inr (8, [.ref g10, .int 0])), (g8, .inr (4, [.int 0, .ref g35, .ref g36, .ref g37, .ref g38, .int 0, .ref g39, .ref g40, .ref g41, .int 0, .ref g42, .ref g43, .ref g44, .ref g45]))] H := hP
  have hD : va_D A [(h0, .inr (9, [.ref g0, .ref g1, .ref g2, .ref g3, .ref g4, .ref g5, .ref g6, .ref g8, .ref g8, .ref g9, .int 0, .int 0])), (g7, .inr (4, [.int 0, .ref g24, .ref g25, .ref g26, .ref g27, .int 0, .ref g28, .ref g29, .ref g30, .int 0, .ref g31, .ref g32, .ref g33, .ref g34])), (g4, .inr (1, [.ref g15, .ref g16, .ref g17])), (g16, .inl (cy 0, 6, .inl (fun _ => (-1)))), (g17, .inl (cy 0, 6, .inl (fun _ => (-1)))), (g3, .inr (0, [.ref g14])), (g14, .inl (cy 3, 6, .inr (.inr (.inr (.inr (fun i => if i < 6 then some (rO i) else none)))))), ((rO 0), .inl (cy 0, 200, .inl (fun _ => (-1)))), ((rO 1), .inl (cy 0, 200, .inl (fun _ => (-1)))), ((rO 2), .inl (cy 0, 200, .inl (fun _ => (-1)))), ((rO 3), .inl (cy 0, 200, .inl (fun _ => (-1)))), ((rO 4), .inl (cy 0, 200, .inl (fun _ => (-1)))), ((rO 5), .inl (cy 0, 200, .inl (fun _ => (-1)))), (g36, .inl (cy 0, 6, .inl (fun _ => 0))), (g37, .inl (cy 0, 6, .inl (fun _ => 0))), (g38, .inl (cy 0, 6, .inl (fun _ => 0))), (g1, .inr (7, [.ref g0, .int 0, .int 0, .int 0, .int 0, .int 0])), (g0, .inr (8, [.ref g10, .int 0])), (g8, .inr (4, [.int 0, .ref g35, .ref g36, .ref g37, .ref g38, .int 0, .ref g39, .ref g40, .ref g41, .int 0, .ref g42, .ref g43, .ref g44, .ref g45]))] := hD
  refine lv_aload_n hx hb dX9_rights_65 rfl (lv_at hl 2 rfl) ?_
  refine lv_aload_n hx hb dX9_rights_66 rfl (lv_at hl 0 rfl) ?_
  refine va_put (ci := 9) (v := .ref g7) (ty := .object "WellCourt$Law") (C := RX9) (T := TX9) (N := 12) hx hb hts inX9 tyX9 tyX9_ok nmX9 hown hK hP hD hS 0 rfl rfl 8 (by decide) (hts _ gm_299) (fun _ h9 => h9) rfl (by decide +kernel) rfl rfl (Nat.le_of_ble_eq_true rfl) dX9_rights_67 (fun H locs hP hD hS => ?_)
  have hP : va_P G vwCl [(h0, .inr (9, [.ref g0, .ref g1, .ref g2, .ref g3, .ref g4, .ref g5, .ref g6, .ref g8, .ref g7, .ref g9, .int 0, .int 0])), (g7, .inr (4, [.int 0, .ref g24, .ref g25, .ref g26, .ref g27, .int 0, .ref g28, .ref g29, .ref g30, .int 0, .ref g31, .ref g32, .ref g33, .ref g34])), (g4, .inr (1, [.ref g15, .ref g16, .ref g17])), (g16, .inl (cy 0, 6, .inl (fun _ => (-1)))), (g17, .inl (cy 0, 6, .inl (fun _ => (-1)))), (g3, .inr (0, [.ref g14])), (g14, .inl (cy 3, 6, .inr (.inr (.inr (.inr (fun i => if i < 6 then some (rO i) else none)))))), ((rO 0), .inl (cy 0, 200, .inl (fun _ => (-1)))), ((rO 1), .inl (cy 0, 200, .inl (fun _ => (-1)))), ((rO 2), .inl (cy 0, 200, .inl (fun _ => (-1)))), ((rO 3), .inl (cy 0, 200, .inl (fun _ => (-1)))), ((rO 4), .inl (cy 0, 200, .inl (fun _ => (-1)))), ((rO 5), .inl (cy 0, 200, .inl (fun _ => (-1)))), (g36, .inl (cy 0, 6, .inl (fun _ => 0))), (g37, .inl (cy 0, 6, .inl (fun _ => 0))), (g38, .inl (cy 0, 6, .inl (fun _ => 0))), (g1, .inr (7, [.ref g0, .int 0, .int 0, .int 0, .int 0, .int 0])), (g0, .inr (8, [.ref g10, .int 0])), (g8, .inr (4, [.int 0, .ref g35, .ref g36, .ref g37, .ref g38, .int 0, .ref g39, .ref g40, .ref g41, .int 0, .ref g42, .ref g43, .ref g44, .ref g45]))] H := hP
  have hD : va_D A [(h0, .inr (9, [.ref g0, .ref g1, .ref g2, .ref g3, .ref g4, .ref g5, .ref g6, .ref g8, .ref g7, .ref g9, .int 0, .int 0])), (g7, .inr (4, [.int 0, .ref g24, .ref g25, .ref g26, .ref g27, .int 0, .ref g28, .ref g29, .ref g30, .int 0, .ref g31, .ref g32, .ref g33, .ref g34])), (g4, .inr (1, [.ref g15, .ref g16, .ref g17])), (g16, .inl (cy 0, 6, .inl (fun _ => (-1)))), (g17, .inl (cy 0, 6, .inl (fun _ => (-1)))), (g3, .inr (0, [.ref g14])), (g14, .inl (cy 3, 6, .inr (.inr (.inr (.inr (fun i => if i < 6 then some (rO i) else none)))))), ((rO 0), .inl (cy 0, 200, .inl (fun _ => (-1)))), ((rO 1), .inl (cy 0, 200, .inl (fun _ => (-1)))), ((rO 2), .inl (cy 0, 200, .inl (fun _ => (-1)))), ((rO 3), .inl (cy 0, 200, .inl (fun _ => (-1)))), ((rO 4), .inl (cy 0, 200, .inl (fun _ => (-1)))), ((rO 5), .inl (cy 0, 200, .inl (fun _ => (-1)))), (g36, .inl (cy 0, 6, .inl (fun _ => 0))), (g37, .inl (cy 0, 6, .inl (fun _ => 0))), (g38, .inl (cy 0, 6, .inl (fun _ => 0))), (g1, .inr (7, [.ref g0, .int 0, .int 0, .int 0, .int 0, .int 0])), (g0, .inr (8, [.ref g10, .int 0])), (g8, .inr (4, [.int 0, .ref g35, .ref g36, .ref g37, .ref g38, .int 0, .ref g39, .ref g40, .ref g41, .int 0, .ref g42, .ref g43, .ref g44, .ref g45]))] := hD
  refine lv_aload_n hx hb dX9_rights_70 rfl (lv_at hl 2 rfl) ?_
  refine va_get (ci := 9) (v := .ref g3) (C := RX9) (T := TX9) (N := 12) hx hb hts inX9 hown hK hP 0 rfl rfl 3 (by decide) (hts _ gm_294) (fun _ h9 => h9) rfl dX9_rights_71 ?_
  refine lv_aload_n hx hb dX9_rights_74 rfl (lv_at hl 2 rfl) ?_
  refine va_get (ci := 9) (v := .ref g8) (C := RX9) (T := TX9) (N := 12) hx hb hts inX9 hown hK hP 0 rfl rfl 7 (by decide) (hts _ gm_298) (fun _ h9 => h9) rfl dX9_rights_75 ?_
  refine lv_aload_n hx hb dX9_rights_78 rfl (lv_at hl 2 rfl) ?_
  refine va_get (ci := 9) (v := .int 0) (C := RX9) (T := TX9) (N := 12) hx hb hts inX9 hown hK hP 0 rfl rfl 10 (by decide) (hts _ gm_301) (fun _ h9 => h9) rfl dX9_rights_79 ?_
  refine gz_aftv (va_runV (As := [.ref g8, .int 0]) (rest := []) ⟨hx, hb, hml, hown, hts⟩ (c_X0_tellTurns l G cy H.size g3 g14 rO g8 g35 g36 g37 g38 g39 g40 g41 g42 g43 g44 g45 ) ⟨(gz_cb (n := 2) hts gm_532 gm_5 gm_535 ⟨by decide +kernel, by decide +kernel, by decide +kernel⟩ ⟨Nat.le_of_ble_eq_true rfl, Nat.le_of_ble_eq_true rfl⟩), hts _ gm_533, hts _ gm_534⟩ (gz_preV (ci := 0) (q0 := 0) hK hov hP hD [5, 6, 7, 8, 9, 10, 11, 12, 18, 13] (by decide) rfl rfl rfl) rfl rfl hl.1 rfl (lv_room (Nat.le_of_ble_eq_true rfl)) dX9_rights_82 ⟨Nat.le_of_ble_eq_true rfl, Nat.le_of_ble_eq_true rfl⟩) hP hD hS hA [5, 6, 7, 8, 9, 10, 11, 12, 18, 13] [0, 1, 2, 3, 4, 14, 15, 16, 17] rfl rfl (by decide) (by decide) (fun u_3 H locs hw_3 hP hD hS => ?_)
  have hP : va_P G vwCl [(h0, .inr (9, [.ref g0, .ref g1, .ref g2, .ref g3, .ref g4, .ref g5, .ref g6, .ref g8, .ref g7, .ref g9, .int 0, .int 0])), (g7, .inr (4, [.int 0, .ref g24, .ref g25, .ref g26, .ref g27, .int 0, .ref g28, .ref g29, .ref g30, .int 0, .ref g31, .ref g32, .ref g33, .ref g34])), (g4, .inr (1, [.ref g15, .ref g16, .ref g17])), (g16, .inl (cy 0, 6, .inl (fun _ => (-1)))), (g17, .inl (cy 0, 6, .inl (fun _ => (-1)))), (g37, .inl (cy 0, 6, .inl (fun _ => 0))), (g38, .inl (cy 0, 6, .inl (fun _ => 0))), (g1, .inr (7, [.ref g0, .int 0, .int 0, .int 0, .int 0, .int 0])), (g0, .inr (8, [.ref g10, .int 0])), (g3, .inr (0, [.ref g14])), (g14, .inl (cy 3, 6, .inr (.inr (.inr (.inr (fun i => if i < 6 then some (rO i) else none)))))), ((rO 0), .inl (cy 0, 200, .inl (fun _ => (-1)))), ((rO 1), .inl (cy 0, 200, .inl (fun _ => (-1)))), ((rO 2), .inl (cy 0, 200, .inl (fun _ => (-1)))), ((rO 3), .inl (cy 0, 200, .inl (fun _ => (-1)))), ((rO 4), .inl (cy 0, 200, .inl (fun _ => (-1)))), ((rO 5), .inl (cy 0, 200, .inl (fun _ => (-1)))), (g8, .inr (4, [.int 0, .ref g35, .ref g36, .ref g37, .ref g38, .int 0, .ref g39, .ref g40, .ref g41, .int 0, .ref g42, .ref g43, .ref g44, .ref g45])), (g36, .inl (cy 0, 6, .inl (fun _ => 0)))] H := hP
  have hD : va_D A [(h0, .inr (9, [.ref g0, .ref g1, .ref g2, .ref g3, .ref g4, .ref g5, .ref g6, .ref g8, .ref g7, .ref g9, .int 0, .int 0])), (g7, .inr (4, [.int 0, .ref g24, .ref g25, .ref g26, .ref g27, .int 0, .ref g28, .ref g29, .ref g30, .int 0, .ref g31, .ref g32, .ref g33, .ref g34])), (g4, .inr (1, [.ref g15, .ref g16, .ref g17])), (g16, .inl (cy 0, 6, .inl (fun _ => (-1)))), (g17, .inl (cy 0, 6, .inl (fun _ => (-1)))), (g37, .inl (cy 0, 6, .inl (fun _ => 0))), (g38, .inl (cy 0, 6, .inl (fun _ => 0))), (g1, .inr (7, [.ref g0, .int 0, .int 0, .int 0, .int 0, .int 0])), (g0, .inr (8, [.ref g10, .int 0])), (g3, .inr (0, [.ref g14])), (g14, .inl (cy 3, 6, .inr (.inr (.inr (.inr (fun i => if i < 6 then some (rO i) else none)))))), ((rO 0), .inl (cy 0, 200, .inl (fun _ => (-1)))), ((rO 1), .inl (cy 0, 200, .inl (fun _ => (-1)))), ((rO 2), .inl (cy 0, 200, .inl (fun _ => (-1)))), ((rO 3), .inl (cy 0, 200, .inl (fun _ => (-1)))), ((rO 4), .inl (cy 0, 200, .inl (fun _ => (-1)))), ((rO 5), .inl (cy 0, 200, .inl (fun _ => (-1)))), (g8, .inr (4, [.int 0, .ref g35, .ref g36, .ref g37, .ref g38, .int 0, .ref g39, .ref g40, .ref g41, .int 0, .ref g42, .ref g43, .ref g44, .ref g45])), (g36, .inl (cy 0, 6, .inl (fun _ => 0)))] := hD
  refine lv_aload_n hx hb dX9_rights_85 rfl (lv_at hl 2 rfl) ?_
  refine gz_aftv (va_runV (As := []) (rest := []) ⟨hx, hb, hml, hown, hts⟩ (c_settleToday l G cy H.size h0 g0 g1 g2 g3 g4 g5 g6 g8 g7 g9 0 g14 g15 g16 g17 g35 g36 g37 g38 g39 g40 g41 g42 g43 g44 g45 rO 0 0 (by decide)) ⟨(gz_cb (n := 0) hts gm_543 gm_1 gm_546 ⟨by decide +kernel, by decide +kernel, by decide +kernel⟩ ⟨Nat.le_of_ble_eq_true rfl, Nat.le_of_ble_eq_true rfl⟩), hts _ gm_545, hts _ gs_16⟩ (gz_preV (ci := 9) (q0 := 0) hK hov hP hD [0, 17, 2, 3, 4, 9, 10, 11, 12, 13, 14, 15, 16] (by decide) rfl rfl rfl) rfl rfl hl.1 rfl (lv_room (Nat.le_of_ble_eq_true rfl)) dX9_rights_86 ⟨Nat.le_of_ble_eq_true rfl, Nat.le_of_ble_eq_true rfl⟩) hP hD hS hA [0, 17, 2, 3, 4, 9, 10, 11, 12, 13, 14, 15, 16] [1, 5, 6, 7, 8, 18] rfl rfl (by decide) (by decide) (fun u_4 H locs hw_4 hP hD hS => ?_)
  have hP : va_P G vwCl [(g7, .inr (4, [.int 0, .ref g24, .ref g25, .ref g26, .ref g27, .int 0, .ref g28, .ref g29, .ref g30, .int 0, .ref g31, .ref g32, .ref g33, .ref g34])), (g37, .inl (cy 0, 6, .inl (fun _ => 0))), (g38, .inl (cy 0, 6, .inl (fun _ => 0))), (g1, .inr (7, [.ref g0, .int 0, .int 0, .int 0, .int 0, .int 0])), (g0, .inr (8, [.ref g10, .int 0])), (g36, .inl (cy 0, 6, .inl (fun _ => 0))), (h0, .inr (9, [.ref g0, .ref g1, .ref g2, .ref g3, .ref g4, .ref g5, .ref g6, .ref g8, .ref g7, .ref g9, .int 0, .int 0])), (g8, .inr (4, [.int 0, .ref g35, .ref g36, .ref g37, .ref g38, .int 0, .ref g39, .ref g40, .ref g41, .int 0, .ref g42, .ref g43, .ref g44, .ref g45]))] H := hP
  have hD : va_D A [(g7, .inr (4, [.int 0, .ref g24, .ref g25, .ref g26, .ref g27, .int 0, .ref g28, .ref g29, .ref g30, .int 0, .ref g31, .ref g32, .ref g33, .ref g34])), (g37, .inl (cy 0, 6, .inl (fun _ => 0))), (g38, .inl (cy 0, 6, .inl (fun _ => 0))), (g1, .inr (7, [.ref g0, .int 0, .int 0, .int 0, .int 0, .int 0])), (g0, .inr (8, [.ref g10, .int 0])), (g36, .inl (cy 0, 6, .inl (fun _ => 0))), (h0, .inr (9, [.ref g0, .ref g1, .ref g2, .ref g3, .ref g4, .ref g5, .ref g6, .ref g8, .ref g7, .ref g9, .int 0, .int 0])), (g8, .inr (4, [.int 0, .ref g35, .ref g36, .ref g37, .ref g38, .int 0, .ref g39, .ref g40, .ref g41, .int 0, .ref g42, .ref g43, .ref g44, .ref g45]))] := hD
  refine lv_aload_n hx hb dX9_rights_89 rfl (lv_at hl 2 rfl) ?_
  refine va_get (ci := 9) (v := .ref g8) (C := RX9) (T := TX9) (N := 12) hx hb hts inX9 hown hK hP 6 rfl rfl 7 (by decide) (hts _ gm_298) (fun _ h9 => h9) rfl dX9_rights_90 ?_
  refine va_getN (host := "WellCourt") (ci := 4) (v := .int 0) (C := RX4) (T := TX4) (N := 14) hx hb hts inX4 hown hK hP 7 rfl rfl 0 (by decide) (va_Nw.use rfl (hov.2.2 _ gn_190)) (fun _ h9 => h9) rfl dX9_rights_93 ?_
  exact gz_iret (cf := (fun (u : Unit) => [])) (post := (fun (r : Int32) (u : Unit) => r = 0)) hx hb hr hlocks hK hP hD hS () [] rfl rfl (by decide) rfl (Nat.le_of_ble_eq_true rfl) (Nat.le_of_ble_eq_true rfl) dX9_rights_96

set_option maxHeartbeats 4000000 in
set_option maxRecDepth 100000 in
/-- WellCourt.fault -/
theorem c_fault (l : Launch) (G : va_G) (cy : Nat → ClassId) (sz : Nat) (h0 : Nat) (g0 : Nat) (g1 : Nat) (g2 : Nat) (g3 : Nat) (g4 : Nat) (g5 : Nat) (g6 : Nat) (g7 : Nat) (g8 : Nat) (g9 : Nat)   : gMi l yX9_fault cX9_fault 1 (some .int) ({ frames := 0, cells := 0, slots := 0, locals := 0 }) G cy sz [.ref h0] [(h0, .inr (9, [.ref g0, .ref g1, .ref g2, .ref g3, .ref g4, .ref g5, .ref g6, .ref g7, .ref g8, .ref g9, .int 0, .int 0]))] (fun (r : Int32) (u : Unit) => r = 0) (fun (u : Unit) => []) := by
  refine gz_start (fun A => gQi G cy _ _ A) (by decide) (Nat.le_of_ble_eq_true rfl) ?_
  intro p e s m below meth c A ls H hx hb hr hml hlocks hin hown hts hK hov hsz hP hD hS hA hl
  have hl : lv_has ls 1 [(0, .ref h0)] := hl
  refine lv_aload_n hx hb dX9_fault_0 rfl (lv_at hl 0 rfl) ?_
  refine va_get (ci := 9) (v := .int 0) (C := RX9) (T := TX9) (N := 12) hx hb hts inX9 hown hK hP 0 rfl rfl 11 (by decide) (hts _ gm_302) (fun _ h9 => h9) rfl dX9_fault_1 ?_
  exact gz_iret (cf := (fun (u : Unit) => [])) (post := (fun (r : Int32) (u : Unit) => r = 0)) hx hb hr hlocks hK hP hD hS () [] rfl rfl (by decide) rfl (Nat.le_of_ble_eq_true rfl) (Nat.le_of_ble_eq_true rfl) dX9_fault_4

set_option maxHeartbeats 4000000 in
set_option maxRecDepth 100000 in
/-- WellCourt.next -/
theorem c_next (l : Launch) (G : va_G) (cy : Nat → ClassId) (sz : Nat) (h0 : Nat) (g0 : Nat) (g1 : Nat) (g2 : Nat) (g3 : Nat) (g4 : Nat) (g5 : Nat) (g6 : Nat) (g7 : Nat) (g8 : Nat) (g9 : Nat) (g11 : Nat) (g12 : Nat) (g13 : Nat) (g14 : Nat) (g15 : Nat) (g16 : Nat) (g17 : Nat) (g24 : Nat) (g25 : Nat) (g26 : Nat) (g27 : Nat) (g28 : Nat) (g29 : Nat) (g30 : Nat) (g31 : Nat) (g32 : Nat) (g33 : Nat) (g34 : Nat) (rO : Nat → Nat)  : gMi l yX9_next cX9_next 1 (some .boolean) ({ frames := 4, cells := 0, slots := 0, locals := 87 }) G cy sz [.ref h0] [(h0, .inr (9, [.ref g0, .ref g1, .ref g2, .ref g3, .ref g4, .ref g5, .ref g6, .ref g7, .ref g8, .ref g9, .int 0, .int 0])), (g2, .inr (3, [.ref g11, .ref g12, .ref g13])), (g11, .inl (cy 0, 6, .inl (fun _ => 0))), (g7, .inr (4, [.int 0, .ref g24, .ref g25, .ref g26, .ref g27, .int 0, .ref g28, .ref g29, .ref g30, .int 0, .ref g31, .ref g32, .ref g33, .ref g34])), (g4, .inr (1, [.ref g15, .ref g16, .ref g17])), (g16, .inl (cy 0, 6, .inl (fun _ => (-1)))), (g17, .inl (cy 0, 6, .inl (fun _ => (-1)))), (g3, .inr (0, [.ref g14])), (g14, .inl (cy 3, 6, .inr (.inr (.inr (.inr (fun i => if i < 6 then some (rO i) else none)))))), ((rO 0), .inl (cy 0, 200, .inl (fun _ => (-1)))), ((rO 1), .inl (cy 0, 200, .inl (fun _ => (-1)))), ((rO 2), .inl (cy 0, 200, .inl (fun _ => (-1)))), ((rO 3), .inl (cy 0, 200, .inl (fun _ => (-1)))), ((rO 4), .inl (cy 0, 200, .inl (fun _ => (-1)))), ((rO 5), .inl (cy 0, 200, .inl (fun _ => (-1))))] (fun (r : Int32) (u : Unit) => r = 1) (fun (u : Unit) => []) := by
  refine gz_start (fun A => gQi G cy _ _ A) (by decide) (Nat.le_of_ble_eq_true rfl) ?_
  intro p e s m below meth c A ls H hx hb hr hml hlocks hin hown hts hK hov hsz hP hD hS hA hl
  have hl : lv_has ls 1 [(0, .ref h0)] := hl
  refine lv_aload_n hx hb dX9_next_0 rfl (lv_at hl 0 rfl) ?_
  refine va_get (ci := 9) (v := .int 0) (C := RX9) (T := TX9) (N := 12) hx hb hts inX9 hown hK hP 0 rfl rfl 10 (by decide) (hts _ gm_301) (fun _ h9 => h9) rfl dX9_next_1 ?_
  refine lv_sipush (v := 199) hx hb dX9_next_4 (by decide) ?_
  refine lv_icmp_lt (tgt := 12) hx hb dX9_next_7 (by decide) (fun _ => ?_) (fun h9 => absurd (by decide) h9)
  refine lv_aload_n hx hb dX9_next_12 rfl (lv_at hl 0 rfl) ?_
  refine lv_dup hx hb dX9_next_13 rfl ?_
  refine va_get (ci := 9) (v := .int 0) (C := RX9) (T := TX9) (N := 12) hx hb hts inX9 hown hK hP 0 rfl rfl 10 (by decide) (hts _ gm_301) (fun _ h9 => h9) rfl dX9_next_14 ?_
  refine lv_iconst (v := 1) hx hb dX9_next_17 (by decide) ?_
  refine lv_iadd hx hb dX9_next_18 ?_
  refine lv_topi (fun x_1 ex_1 => ?_)
  obtain rfl : x_1 = (1 : Int32) := ex_1.trans (by decide)
  refine va_put (ci := 9) (v := .int 1) (ty := .int) (C := RX9) (T := TX9) (N := 12) hx hb hts inX9 tyX9 tyX9_ok nmX9 hown hK hP hD hS 0 rfl rfl 10 (by decide) (hts _ gm_301) (fun _ h9 => h9) rfl (by decide +kernel) rfl rfl (Nat.le_of_ble_eq_true rfl) dX9_next_19 (fun H locs hP hD hS => ?_)
  have hP : va_P G vwCl [(h0, .inr (9, [.ref g0, .ref g1, .ref g2, .ref g3, .ref g4, .ref g5, .ref g6, .ref g7, .ref g8, .ref g9, .int 1, .int 0])), (g2, .inr (3, [.ref g11, .ref g12, .ref g13])), (g11, .inl (cy 0, 6, .inl (fun _ => 0))), (g7, .inr (4, [.int 0, .ref g24, .ref g25, .ref g26, .ref g27, .int 0, .ref g28, .ref g29, .ref g30, .int 0, .ref g31, .ref g32, .ref g33, .ref g34])), (g4, .inr (1, [.ref g15, .ref g16, .ref g17])), (g16, .inl (cy 0, 6, .inl (fun _ => (-1)))), (g17, .inl (cy 0, 6, .inl (fun _ => (-1)))), (g3, .inr (0, [.ref g14])), (g14, .inl (cy 3, 6, .inr (.inr (.inr (.inr (fun i => if i < 6 then some (rO i) else none)))))), ((rO 0), .inl (cy 0, 200, .inl (fun _ => (-1)))), ((rO 1), .inl (cy 0, 200, .inl (fun _ => (-1)))), ((rO 2), .inl (cy 0, 200, .inl (fun _ => (-1)))), ((rO 3), .inl (cy 0, 200, .inl (fun _ => (-1)))), ((rO 4), .inl (cy 0, 200, .inl (fun _ => (-1)))), ((rO 5), .inl (cy 0, 200, .inl (fun _ => (-1))))] H := hP
  have hD : va_D A [(h0, .inr (9, [.ref g0, .ref g1, .ref g2, .ref g3, .ref g4, .ref g5, .ref g6, .ref g7, .ref g8, .ref g9, .int 1, .int 0])), (g2, .inr (3, [.ref g11, .ref g12, .ref g13])), (g11, .inl (cy 0, 6, .inl (fun _ => 0))), (g7, .inr (4, [.int 0, .ref g24, .ref g25, .ref g26, .ref g27, .int 0, .ref g28, .ref g29, .ref g30, .int 0, .ref g31, .ref g32, .ref g33, .ref g34])), (g4, .inr (1, [.ref g15, .ref g16, .ref g17])), (g16, .inl (cy 0, 6, .inl (fun _ => (-1)))), (g17, .inl (cy 0, 6, .inl (fun _ => (-1)))), (g3, .inr (0, [.ref g14])), (g14, .inl (cy 3, 6, .inr (.inr (.inr (.inr (fun i => if i < 6 then some (rO i) else none)))))), ((rO 0), .inl (cy 0, 200, .inl (fun _ => (-1)))), ((rO 1), .inl (cy 0, 200, .inl (fun _ => (-1)))), ((rO 2), .inl (cy 0, 200, .inl (fun _ => (-1)))), ((rO 3), .inl (cy 0, 200, .inl (fun _ => (-1)))), ((rO 4), .inl (cy 0, 200, .inl (fun _ => (-1)))), ((rO 5), .inl (cy 0, 200, .inl (fun _ => (-1))))] := hD
  refine lv_aload_n hx hb dX9_next_22 rfl (lv_at hl 0 rfl) ?_
  refine va_get (ci := 9) (v := .ref g4) (C := RX9) (T := TX9) (N := 12) hx hb hts inX9 hown hK hP 0 rfl rfl 4 (by decide) (hts _ gm_295) (fun _ h9 => h9) rfl dX9_next_23 ?_
  refine lv_aload_n hx hb dX9_next_26 rfl (lv_at hl 0 rfl) ?_
  refine va_get (ci := 9) (v := .ref g4) (C := RX9) (T := TX9) (N := 12) hx hb hts inX9 hown hK hP 0 rfl rfl 4 (by decide) (hts _ gm_295) (fun _ h9 => h9) rfl dX9_next_27 ?_
  refine lv_aload_n hx hb dX9_next_30 rfl (lv_at hl 0 rfl) ?_
  refine va_get (ci := 9) (v := .ref g2) (C := RX9) (T := TX9) (N := 12) hx hb hts inX9 hown hK hP 0 rfl rfl 2 (by decide) (hts _ gm_293) (fun _ h9 => h9) rfl dX9_next_31 ?_
  refine gz_aftv (va_runV (As := [.ref g4, .ref g2]) (rest := []) ⟨hx, hb, hml, hown, hts⟩ (c_X1_grow l G cy H.size g4 g15 g16 g17 g4 g2 g11 g12 g13 ) ⟨(gz_cb (n := 2) hts gm_575 gm_7 gm_578 ⟨by decide +kernel, by decide +kernel, by decide +kernel⟩ ⟨Nat.le_of_ble_eq_true rfl, Nat.le_of_ble_eq_true rfl⟩), hts _ gm_576, hts _ gm_577⟩ (gz_preV (ci := 1) (q0 := 0) hK hov hP hD [4, 1, 2] (by decide) rfl rfl rfl) rfl rfl hl.1 rfl (lv_room (Nat.le_of_ble_eq_true rfl)) dX9_next_34 ⟨Nat.le_of_ble_eq_true rfl, Nat.le_of_ble_eq_true rfl⟩) hP hD hS hA [4, 1, 2] [0, 3, 5, 6, 7, 8, 9, 10, 11, 12, 13, 14] rfl rfl (by decide) (by decide) (fun u_2 H locs hw_2 hP hD hS => ?_)
  have hP : va_P G vwCl [(h0, .inr (9, [.ref g0, .ref g1, .ref g2, .ref g3, .ref g4, .ref g5, .ref g6, .ref g7, .ref g8, .ref g9, .int 1, .int 0])), (g7, .inr (4, [.int 0, .ref g24, .ref g25, .ref g26, .ref g27, .int 0, .ref g28, .ref g29, .ref g30, .int 0, .ref g31, .ref g32, .ref g33, .ref g34])), (g16, .inl (cy 0, 6, .inl (fun _ => (-1)))), (g17, .inl (cy 0, 6, .inl (fun _ => (-1)))), (g3, .inr (0, [.ref g14])), (g14, .inl (cy 3, 6, .inr (.inr (.inr (.inr (fun i => if i < 6 then some (rO i) else none)))))), ((rO 0), .inl (cy 0, 200, .inl (fun _ => (-1)))), ((rO 1), .inl (cy 0, 200, .inl (fun _ => (-1)))), ((rO 2), .inl (cy 0, 200, .inl (fun _ => (-1)))), ((rO 3), .inl (cy 0, 200, .inl (fun _ => (-1)))), ((rO 4), .inl (cy 0, 200, .inl (fun _ => (-1)))), ((rO 5), .inl (cy 0, 200, .inl (fun _ => (-1)))), (g4, .inr (1, [.ref g15, .ref g16, .ref g17])), (g2, .inr (3, [.ref g11, .ref g12, .ref g13])), (g11, .inl (cy 0, 6, .inl (fun _ => 0)))] H := hP
  have hD : va_D A [(h0, .inr (9, [.ref g0, .ref g1, .ref g2, .ref g3, .ref g4, .ref g5, .ref g6, .ref g7, .ref g8, .ref g9, .int 1, .int 0])), (g7, .inr (4, [.int 0, .ref g24, .ref g25, .ref g26, .ref g27, .int 0, .ref g28, .ref g29, .ref g30, .int 0, .ref g31, .ref g32, .ref g33, .ref g34])), (g16, .inl (cy 0, 6, .inl (fun _ => (-1)))), (g17, .inl (cy 0, 6, .inl (fun _ => (-1)))), (g3, .inr (0, [.ref g14])), (g14, .inl (cy 3, 6, .inr (.inr (.inr (.inr (fun i => if i < 6 then some (rO i) else none)))))), ((rO 0), .inl (cy 0, 200, .inl (fun _ => (-1)))), ((rO 1), .inl (cy 0, 200, .inl (fun _ => (-1)))), ((rO 2), .inl (cy 0, 200, .inl (fun _ => (-1)))), ((rO 3), .inl (cy 0, 200, .inl (fun _ => (-1)))), ((rO 4), .inl (cy 0, 200, .inl (fun _ => (-1)))), ((rO 5), .inl (cy 0, 200, .inl (fun _ => (-1)))), (g4, .inr (1, [.ref g15, .ref g16, .ref g17])), (g2, .inr (3, [.ref g11, .ref g12, .ref g13])), (g11, .inl (cy 0, 6, .inl (fun _ => 0)))] := hD
  refine lv_aload_n hx hb dX9_next_37 rfl (lv_at hl 0 rfl) ?_
  refine gz_aftv (va_runV (As := []) (rest := []) ⟨hx, hb, hml, hown, hts⟩ (c_settleToday l G cy H.size h0 g0 g1 g2 g3 g4 g5 g6 g7 g8 g9 0 g14 g15 g16 g17 g24 g25 g26 g27 g28 g29 g30 g31 g32 g33 g34 rO 1 1 (by decide)) ⟨(gz_cb (n := 0) hts gm_543 gm_1 gm_546 ⟨by decide +kernel, by decide +kernel, by decide +kernel⟩ ⟨Nat.le_of_ble_eq_true rfl, Nat.le_of_ble_eq_true rfl⟩), hts _ gm_545, hts _ gs_16⟩ (gz_preV (ci := 9) (q0 := 0) hK hov hP hD [0, 1, 12, 2, 3, 4, 5, 6, 7, 8, 9, 10, 11] (by decide) rfl rfl rfl) rfl rfl hl.1 rfl (lv_room (Nat.le_of_ble_eq_true rfl)) dX9_next_38 ⟨Nat.le_of_ble_eq_true rfl, Nat.le_of_ble_eq_true rfl⟩) hP hD hS hA [0, 1, 12, 2, 3, 4, 5, 6, 7, 8, 9, 10, 11] [13, 14] rfl rfl (by decide) (by decide) (fun u_3 H locs hw_3 hP hD hS => ?_)
  have hP : va_P G vwCl [(g2, .inr (3, [.ref g11, .ref g12, .ref g13])), (g11, .inl (cy 0, 6, .inl (fun _ => 0))), (h0, .inr (9, [.ref g0, .ref g1, .ref g2, .ref g3, .ref g4, .ref g5, .ref g6, .ref g7, .ref g8, .ref g9, .int 1, .int 0])), (g7, .inr (4, [.int 0, .ref g24, .ref g25, .ref g26, .ref g27, .int 0, .ref g28, .ref g29, .ref g30, .int 0, .ref g31, .ref g32, .ref g33, .ref g34]))] H := hP
  have hD : va_D A [(g2, .inr (3, [.ref g11, .ref g12, .ref g13])), (g11, .inl (cy 0, 6, .inl (fun _ => 0))), (h0, .inr (9, [.ref g0, .ref g1, .ref g2, .ref g3, .ref g4, .ref g5, .ref g6, .ref g7, .ref g8, .ref g9, .int 1, .int 0])), (g7, .inr (4, [.int 0, .ref g24, .ref g25, .ref g26, .ref g27, .int 0, .ref g28, .ref g29, .ref g30, .int 0, .ref g31, .ref g32, .ref g33, .ref g34]))] := hD
  refine lv_iconst (v := 1) hx hb dX9_next_41 (by decide) ?_
  exact gz_iret (cf := (fun (u : Unit) => [])) (post := (fun (r : Int32) (u : Unit) => r = 1)) hx hb hr hlocks hK hP hD hS () [] (by decide) rfl (by decide) rfl (Nat.le_of_ble_eq_true rfl) (Nat.le_of_ble_eq_true rfl) dX9_next_42

set_option maxHeartbeats 4000000 in
set_option maxRecDepth 100000 in
/-- WellCourt.water -/
theorem c_water (l : Launch) (G : va_G) (cy : Nat → ClassId) (sz : Nat) (h0 : Nat) (g0 : Nat) (g1 : Nat) (g2 : Nat) (g3 : Nat) (g4 : Nat) (g5 : Nat) (g6 : Nat) (g7 : Nat) (g8 : Nat) (g9 : Nat) (g11 : Nat) (g12 : Nat) (g13 : Nat) (x : Int32) (y : Int32) (Xx : Int) (Xy : Int) (kx : x.toInt = Xx) (ky : y.toInt = Xy)  : gMi l yX9_water cX9_water 3 (some .int) ({ frames := 2, cells := 0, slots := 0, locals := 42 }) G cy sz [.ref h0, .int x, .int y] [(h0, .inr (9, [.ref g0, .ref g1, .ref g2, .ref g3, .ref g4, .ref g5, .ref g6, .ref g7, .ref g8, .ref g9, .int 0, .int 0])), (g2, .inr (3, [.ref g11, .ref g12, .ref g13])), (g11, .inl (cy 0, 6, .inl (fun _ => 0)))] (fun (r : Int32) (u : Unit) => r = (-1)) (fun (u : Unit) => []) := by
  refine gz_start (fun A => gQi G cy _ _ A) (by decide) (Nat.le_of_ble_eq_true rfl) ?_
  intro p e s m below meth c A ls H hx hb hr hml hlocks hin hown hts hK hov hsz hP hD hS hA hl
  have hl : lv_has ls 3 [(0, .ref h0), (1, .int x), (2, .int y)] := hl
  refine lv_aload_n hx hb dX9_water_0 rfl (lv_at hl 0 rfl) ?_
  refine lv_iload_n hx hb dX9_water_1 rfl (lv_at hl 1 rfl) ?_
  refine gz_afti (va_runV (As := [.int x]) (rest := []) ⟨hx, hb, hml, hown, hts⟩ (c_isWellThere l G cy H.size h0 g0 g1 g2 g3 g4 g5 g6 g7 g8 g9 g11 g12 g13 x x.toInt rfl) ⟨(gz_cb (n := 1) hts gm_587 gm_1 gm_590 ⟨by decide +kernel, by decide +kernel, by decide +kernel⟩ ⟨Nat.le_of_ble_eq_true rfl, Nat.le_of_ble_eq_true rfl⟩), hts _ gm_589, hts _ gs_17⟩ (gz_preV (ci := 9) (q0 := 0) hK hov hP hD [0, 1, 2] (by decide) rfl rfl rfl) rfl rfl hl.1 rfl (lv_room (Nat.le_of_ble_eq_true rfl)) dX9_water_2 ⟨Nat.le_of_ble_eq_true rfl, Nat.le_of_ble_eq_true rfl⟩) hP hD hS hA [0, 1, 2] [] rfl rfl (by decide) (by decide) (fun r_1 u_1 H locs hw_1 hP hD hS => ?_)
  have hP : va_P G vwCl [(h0, .inr (9, [.ref g0, .ref g1, .ref g2, .ref g3, .ref g4, .ref g5, .ref g6, .ref g7, .ref g8, .ref g9, .int 0, .int 0])), (g2, .inr (3, [.ref g11, .ref g12, .ref g13])), (g11, .inl (cy 0, 6, .inl (fun _ => 0)))] H := hP
  have hD : va_D A [(h0, .inr (9, [.ref g0, .ref g1, .ref g2, .ref g3, .ref g4, .ref g5, .ref g6, .ref g7, .ref g8, .ref g9, .int 0, .int 0])), (g2, .inr (3, [.ref g11, .ref g12, .ref g13])), (g11, .inl (cy 0, 6, .inl (fun _ => 0)))] := hD
  obtain rfl := hw_1
  refine lv_if_ne (tgt := 10) hx hb dX9_water_5 (by decide) (fun h9 => absurd (by decide) h9) (fun _ => ?_)
  refine lv_iconst (v := (-1)) hx hb dX9_water_8 (by decide) ?_
  exact gz_iret (cf := (fun (u : Unit) => [])) (post := (fun (r : Int32) (u : Unit) => r = (-1))) hx hb hr hlocks hK hP hD hS () [] rfl rfl (by decide) rfl (Nat.le_of_ble_eq_true rfl) (Nat.le_of_ble_eq_true rfl) dX9_water_9

set_option maxHeartbeats 4000000 in
set_option maxRecDepth 100000 in
/-- WellCourt.owner -/
theorem c_owner (l : Launch) (G : va_G) (cy : Nat → ClassId) (sz : Nat) (h0 : Nat) (g0 : Nat) (g1 : Nat) (g2 : Nat) (g3 : Nat) (g4 : Nat) (g5 : Nat) (g6 : Nat) (g7 : Nat) (g8 : Nat) (g9 : Nat) (g14 : Nat) (rO : Nat → Nat) (x : Int32) (y : Int32) (Xx : Int) (Xy : Int) (kx : x.toInt = Xx) (ky : y.toInt = Xy) : gMi l yX9_owner cX9_owner 3 (some .int) ({ frames := 2, cells := 0, slots := 0, locals := 42 }) G cy sz [.ref h0, .int x, .int y] [(h0, .inr (9, [.ref g0, .ref g1, .ref g2, .ref g3, .ref g4, .ref g5, .ref g6, .ref g7, .ref g8, .ref g9, .int 0, .int 0])), (g3, .inr (0, [.ref g14])), (g14, .inl (cy 3, 6, .inr (.inr (.inr (.inr (fun i => if i < 6 then some (rO i) else none)))))), ((rO 0), .inl (cy 0, 200, .inl (fun _ => (-1)))), ((rO 1), .inl (cy 0, 200, .inl (fun _ => (-1)))), ((rO 2), .inl (cy 0, 200, .inl (fun _ => (-1)))), ((rO 3), .inl (cy 0, 200, .inl (fun _ => (-1)))), ((rO 4), .inl (cy 0, 200, .inl (fun _ => (-1)))), ((rO 5), .inl (cy 0, 200, .inl (fun _ => (-1))))] (fun (r : Int32) (u : Unit) => r = (-1)) (fun (u : Unit) => []) := by
  refine gz_start (fun A => gQi G cy _ _ A) (by decide) (Nat.le_of_ble_eq_true rfl) ?_
  intro p e s m below meth c A ls H hx hb hr hml hlocks hin hown hts hK hov hsz hP hD hS hA hl
  have hl : lv_has ls 3 [(0, .ref h0), (1, .int x), (2, .int y)] := hl
  refine lv_aload_n hx hb dX9_owner_0 rfl (lv_at hl 0 rfl) ?_
  refine va_get (ci := 9) (v := .ref g3) (C := RX9) (T := TX9) (N := 12) hx hb hts inX9 hown hK hP 0 rfl rfl 3 (by decide) (hts _ gm_294) (fun _ h9 => h9) rfl dX9_owner_1 ?_
  refine lv_iload_n hx hb dX9_owner_4 rfl (lv_at hl 1 rfl) ?_
  refine lv_iload_n hx hb dX9_owner_5 rfl (lv_at hl 2 rfl) ?_
  refine gz_afti (va_runV (As := [.int x, .int y]) (rest := []) ⟨hx, hb, hml, hown, hts⟩ (c_X0_ownerOn l G cy H.size g3 g14 rO x y x.toInt y.toInt rfl rfl) ⟨(gz_cb (n := 2) hts gm_595 gm_5 gm_558 ⟨by decide +kernel, by decide +kernel, by decide +kernel⟩ ⟨Nat.le_of_ble_eq_true rfl, Nat.le_of_ble_eq_true rfl⟩), hts _ gm_556, hts _ gm_557⟩ (gz_preV (ci := 0) (q0 := 0) hK hov hP hD [1, 2, 3, 4, 5, 6, 7, 8] (by decide) rfl rfl rfl) rfl rfl hl.1 rfl (lv_room (Nat.le_of_ble_eq_true rfl)) dX9_owner_6 ⟨Nat.le_of_ble_eq_true rfl, Nat.le_of_ble_eq_true rfl⟩) hP hD hS hA [1, 2, 3, 4, 5, 6, 7, 8] [0] rfl rfl (by decide) (by decide) (fun r_1 u_1 H locs hw_1 hP hD hS => ?_)
  have hP : va_P G vwCl [(h0, .inr (9, [.ref g0, .ref g1, .ref g2, .ref g3, .ref g4, .ref g5, .ref g6, .ref g7, .ref g8, .ref g9, .int 0, .int 0])), (g3, .inr (0, [.ref g14])), (g14, .inl (cy 3, 6, .inr (.inr (.inr (.inr (fun i => if i < 6 then some (rO i) else none)))))), ((rO 0), .inl (cy 0, 200, .inl (fun _ => (-1)))), ((rO 1), .inl (cy 0, 200, .inl (fun _ => (-1)))), ((rO 2), .inl (cy 0, 200, .inl (fun _ => (-1)))), ((rO 3), .inl (cy 0, 200, .inl (fun _ => (-1)))), ((rO 4), .inl (cy 0, 200, .inl (fun _ => (-1)))), ((rO 5), .inl (cy 0, 200, .inl (fun _ => (-1))))] H := hP
  have hD : va_D A [(h0, .inr (9, [.ref g0, .ref g1, .ref g2, .ref g3, .ref g4, .ref g5, .ref g6, .ref g7, .ref g8, .ref g9, .int 0, .int 0])), (g3, .inr (0, [.ref g14])), (g14, .inl (cy 3, 6, .inr (.inr (.inr (.inr (fun i => if i < 6 then some (rO i) else none)))))), ((rO 0), .inl (cy 0, 200, .inl (fun _ => (-1)))), ((rO 1), .inl (cy 0, 200, .inl (fun _ => (-1)))), ((rO 2), .inl (cy 0, 200, .inl (fun _ => (-1)))), ((rO 3), .inl (cy 0, 200, .inl (fun _ => (-1)))), ((rO 4), .inl (cy 0, 200, .inl (fun _ => (-1)))), ((rO 5), .inl (cy 0, 200, .inl (fun _ => (-1))))] := hD
  obtain rfl := hw_1
  exact gz_iret (cf := (fun (u : Unit) => [])) (post := (fun (r : Int32) (u : Unit) => r = (-1))) hx hb hr hlocks hK hP hD hS () [] rfl rfl (by decide) rfl (Nat.le_of_ble_eq_true rfl) (Nat.le_of_ble_eq_true rfl) dX9_owner_9

set_option maxHeartbeats 4000000 in
set_option maxRecDepth 100000 in
/-- WellCourt.may -/
theorem c_may (l : Launch) (G : va_G) (cy : Nat → ClassId) (sz : Nat) (h0 : Nat) (g0 : Nat) (g1 : Nat) (g2 : Nat) (g3 : Nat) (g4 : Nat) (g5 : Nat) (g6 : Nat) (g7 : Nat) (g8 : Nat) (g9 : Nat) (g11 : Nat) (g12 : Nat) (g13 : Nat) (x : Int32) (y : Int32) (Xx : Int) (Xy : Int) (kx : x.toInt = Xx) (ky : y.toInt = Xy)  : gMi l yX9_may cX9_may 3 (some .int) ({ frames := 2, cells := 0, slots := 0, locals := 42 }) G cy sz [.ref h0, .int x, .int y] [(h0, .inr (9, [.ref g0, .ref g1, .ref g2, .ref g3, .ref g4, .ref g5, .ref g6, .ref g7, .ref g8, .ref g9, .int 0, .int 0])), (g2, .inr (3, [.ref g11, .ref g12, .ref g13])), (g11, .inl (cy 0, 6, .inl (fun _ => 0)))] (fun (r : Int32) (u : Unit) => r = (-1)) (fun (u : Unit) => []) := by
  refine gz_start (fun A => gQi G cy _ _ A) (by decide) (Nat.le_of_ble_eq_true rfl) ?_
  intro p e s m below meth c A ls H hx hb hr hml hlocks hin hown hts hK hov hsz hP hD hS hA hl
  have hl : lv_has ls 3 [(0, .ref h0), (1, .int x), (2, .int y)] := hl
  refine lv_aload_n hx hb dX9_may_0 rfl (lv_at hl 0 rfl) ?_
  refine lv_iload_n hx hb dX9_may_1 rfl (lv_at hl 1 rfl) ?_
  refine gz_afti (va_runV (As := [.int x]) (rest := []) ⟨hx, hb, hml, hown, hts⟩ (c_isWellThere l G cy H.size h0 g0 g1 g2 g3 g4 g5 g6 g7 g8 g9 g11 g12 g13 x x.toInt rfl) ⟨(gz_cb (n := 1) hts gm_587 gm_1 gm_590 ⟨by decide +kernel, by decide +kernel, by decide +kernel⟩ ⟨Nat.le_of_ble_eq_true rfl, Nat.le_of_ble_eq_true rfl⟩), hts _ gm_589, hts _ gs_17⟩ (gz_preV (ci := 9) (q0 := 0) hK hov hP hD [0, 1, 2] (by decide) rfl rfl rfl) rfl rfl hl.1 rfl (lv_room (Nat.le_of_ble_eq_true rfl)) dX9_may_2 ⟨Nat.le_of_ble_eq_true rfl, Nat.le_of_ble_eq_true rfl⟩) hP hD hS hA [0, 1, 2] [] rfl rfl (by decide) (by decide) (fun r_1 u_1 H locs hw_1 hP hD hS => ?_)
  have hP : va_P G vwCl [(h0, .inr (9, [.ref g0, .ref g1, .ref g2, .ref g3, .ref g4, .ref g5, .ref g6, .ref g7, .ref g8, .ref g9, .int 0, .int 0])), (g2, .inr (3, [.ref g11, .ref g12, .ref g13])), (g11, .inl (cy 0, 6, .inl (fun _ => 0)))] H := hP
  have hD : va_D A [(h0, .inr (9, [.ref g0, .ref g1, .ref g2, .ref g3, .ref g4, .ref g5, .ref g6, .ref g7, .ref g8, .ref g9, .int 0, .int 0])), (g2, .inr (3, [.ref g11, .ref g12, .ref g13])), (g11, .inl (cy 0, 6, .inl (fun _ => 0)))] := hD
  obtain rfl := hw_1
  refine lv_if_eq (tgt := 15) hx hb dX9_may_5 (by decide) (fun _ => ?_) (fun h9 => absurd (by decide) h9)
  refine lv_iconst (v := (-1)) hx hb dX9_may_15 (by decide) ?_
  exact gz_iret (cf := (fun (u : Unit) => [])) (post := (fun (r : Int32) (u : Unit) => r = (-1))) hx hb hr hlocks hK hP hD hS () [] rfl rfl (by decide) rfl (Nat.le_of_ble_eq_true rfl) (Nat.le_of_ble_eq_true rfl) dX9_may_16

set_option maxHeartbeats 4000000 in
set_option maxRecDepth 100000 in
/-- WellCourt.lend -/
theorem c_lend (l : Launch) (G : va_G) (cy : Nat → ClassId) (sz : Nat) (h0 : Nat) (g0 : Nat) (g1 : Nat) (g2 : Nat) (g3 : Nat) (g4 : Nat) (g5 : Nat) (g6 : Nat) (g7 : Nat) (g8 : Nat) (g9 : Nat) (g14 : Nat) (rO : Nat → Nat) (x : Int32) (y : Int32) (z : Int32) (Xx : Int) (Xy : Int) (Xz : Int) (kx : x.toInt = Xx) (ky : y.toInt = Xy) (kz : z.toInt = Xz) : gMi l yX9_lend cX9_lend 4 (some .int) ({ frames := 3, cells := 0, slots := 0, locals := 67 }) G cy sz [.ref h0, .int x, .int y, .int z] [(h0, .inr (9, [.ref g0, .ref g1, .ref g2, .ref g3, .ref g4, .ref g5, .ref g6, .ref g7, .ref g8, .ref g9, .int 0, .int 0])), (g3, .inr (0, [.ref g14])), (g14, .inl (cy 3, 6, .inr (.inr (.inr (.inr (fun i => if i < 6 then some (rO i) else none)))))), ((rO 0), .inl (cy 0, 200, .inl (fun _ => (-1)))), ((rO 1), .inl (cy 0, 200, .inl (fun _ => (-1)))), ((rO 2), .inl (cy 0, 200, .inl (fun _ => (-1)))), ((rO 3), .inl (cy 0, 200, .inl (fun _ => (-1)))), ((rO 4), .inl (cy 0, 200, .inl (fun _ => (-1)))), ((rO 5), .inl (cy 0, 200, .inl (fun _ => (-1))))] (fun (r : Int32) (u : Unit) => r = (-1)) (fun (u : Unit) => []) := by
  refine gz_start (fun A => gQi G cy _ _ A) (by decide) (Nat.le_of_ble_eq_true rfl) ?_
  intro p e s m below meth c A ls H hx hb hr hml hlocks hin hown hts hK hov hsz hP hD hS hA hl
  have hl : lv_has ls 4 [(0, .ref h0), (1, .int x), (2, .int y), (3, .int z)] := hl
  refine lv_iload_n hx hb dX9_lend_0 rfl (lv_at hl 3 rfl) ?_
  refine gz_afti (va_runS (As := [.int z]) (rest := []) ⟨hx, hb, hml, hown, hts⟩ (c_isClan l G cy H.size z z.toInt rfl) ⟨(gz_cb (n := 1) hts gm_600 gm_1 gm_487 ⟨by decide +kernel, by decide +kernel, by decide +kernel⟩ ⟨Nat.le_of_ble_eq_true rfl, Nat.le_of_ble_eq_true rfl⟩), hts _ gm_486⟩ (gz_preS hK hov hP hD [] (by decide) rfl) rfl rfl hl.1 rfl (lv_room (Nat.le_of_ble_eq_true rfl)) dX9_lend_1 ⟨Nat.le_of_ble_eq_true rfl, Nat.le_of_ble_eq_true rfl⟩) hP hD hS hA [] [0, 1, 2, 3, 4, 5, 6, 7, 8] rfl rfl (by decide) (by decide) (fun r_1 u_1 H locs hw_1 hP hD hS => ?_)
  have hP : va_P G vwCl [(h0, .inr (9, [.ref g0, .ref g1, .ref g2, .ref g3, .ref g4, .ref g5, .ref g6, .ref g7, .ref g8, .ref g9, .int 0, .int 0])), (g3, .inr (0, [.ref g14])), (g14, .inl (cy 3, 6, .inr (.inr (.inr (.inr (fun i => if i < 6 then some (rO i) else none)))))), ((rO 0), .inl (cy 0, 200, .inl (fun _ => (-1)))), ((rO 1), .inl (cy 0, 200, .inl (fun _ => (-1)))), ((rO 2), .inl (cy 0, 200, .inl (fun _ => (-1)))), ((rO 3), .inl (cy 0, 200, .inl (fun _ => (-1)))), ((rO 4), .inl (cy 0, 200, .inl (fun _ => (-1)))), ((rO 5), .inl (cy 0, 200, .inl (fun _ => (-1))))] H := hP
  have hD : va_D A [(h0, .inr (9, [.ref g0, .ref g1, .ref g2, .ref g3, .ref g4, .ref g5, .ref g6, .ref g7, .ref g8, .ref g9, .int 0, .int 0])), (g3, .inr (0, [.ref g14])), (g14, .inl (cy 3, 6, .inr (.inr (.inr (.inr (fun i => if i < 6 then some (rO i) else none)))))), ((rO 0), .inl (cy 0, 200, .inl (fun _ => (-1)))), ((rO 1), .inl (cy 0, 200, .inl (fun _ => (-1)))), ((rO 2), .inl (cy 0, 200, .inl (fun _ => (-1)))), ((rO 3), .inl (cy 0, 200, .inl (fun _ => (-1)))), ((rO 4), .inl (cy 0, 200, .inl (fun _ => (-1)))), ((rO 5), .inl (cy 0, 200, .inl (fun _ => (-1))))] := hD
  rcases hw_1 with ⟨rfl, hw_1_0, hw_1_1⟩ | ⟨rfl, hw_1_0⟩
  · skip
    refine lv_if_eq (tgt := 15) hx hb dX9_lend_4 (by decide) (fun h9 => absurd h9 (by decide)) (fun _ => ?_)
    refine lv_iload_n hx hb dX9_lend_7 rfl (lv_at hl 2 rfl) ?_
    refine lv_aload_n hx hb dX9_lend_8 rfl (lv_at hl 0 rfl) ?_
    refine va_get (ci := 9) (v := .int 0) (C := RX9) (T := TX9) (N := 12) hx hb hts inX9 hown hK hP 0 rfl rfl 10 (by decide) (hts _ gm_301) (fun _ h9 => h9) rfl dX9_lend_9 ?_
    refine lv_icmp_gt (tgt := 17) hx hb dX9_lend_12 (by decide) (fun c_2 => ?_) (fun c_2 => ?_)
    · have ic_2 := gz_lt (by decide : (0 : Int32).toInt = 0) (rfl : y.toInt = y.toInt) c_2
      refine lv_aload_n hx hb dX9_lend_17 rfl (lv_at hl 0 rfl) ?_
      refine va_get (ci := 9) (v := .ref g3) (C := RX9) (T := TX9) (N := 12) hx hb hts inX9 hown hK hP 0 rfl rfl 3 (by decide) (hts _ gm_294) (fun _ h9 => h9) rfl dX9_lend_18 ?_
      refine lv_iload_n hx hb dX9_lend_21 rfl (lv_at hl 1 rfl) ?_
      refine lv_iload_n hx hb dX9_lend_22 rfl (lv_at hl 2 rfl) ?_
      refine lv_iload_n hx hb dX9_lend_23 rfl (lv_at hl 3 rfl) ?_
      refine gz_afti (va_runV (As := [.int x, .int y, .int z]) (rest := []) ⟨hx, hb, hml, hown, hts⟩ (c_X0_exchange l G cy H.size g3 g14 rO x y z x.toInt y.toInt z.toInt rfl rfl rfl) ⟨(gz_cb (n := 3) hts gm_630 gm_5 gm_633 ⟨by decide +kernel, by decide +kernel, by decide +kernel⟩ ⟨Nat.le_of_ble_eq_true rfl, Nat.le_of_ble_eq_true rfl⟩), hts _ gm_631, hts _ gm_632⟩ (gz_preV (ci := 0) (q0 := 0) hK hov hP hD [1, 2, 3, 4, 5, 6, 7, 8] (by decide) rfl rfl rfl) rfl rfl hl.1 rfl (lv_room (Nat.le_of_ble_eq_true rfl)) dX9_lend_24 ⟨Nat.le_of_ble_eq_true rfl, Nat.le_of_ble_eq_true rfl⟩) hP hD hS hA [1, 2, 3, 4, 5, 6, 7, 8] [0] rfl rfl (by decide) (by decide) (fun r_3 u_3 H locs hw_3 hP hD hS => ?_)
      have hP : va_P G vwCl [(h0, .inr (9, [.ref g0, .ref g1, .ref g2, .ref g3, .ref g4, .ref g5, .ref g6, .ref g7, .ref g8, .ref g9, .int 0, .int 0])), (g3, .inr (0, [.ref g14])), (g14, .inl (cy 3, 6, .inr (.inr (.inr (.inr (fun i => if i < 6 then some (rO i) else none)))))), ((rO 0), .inl (cy 0, 200, .inl (fun _ => (-1)))), ((rO 1), .inl (cy 0, 200, .inl (fun _ => (-1)))), ((rO 2), .inl (cy 0, 200, .inl (fun _ => (-1)))), ((rO 3), .inl (cy 0, 200, .inl (fun _ => (-1)))), ((rO 4), .inl (cy 0, 200, .inl (fun _ => (-1)))), ((rO 5), .inl (cy 0, 200, .inl (fun _ => (-1))))] H := hP
      have hD : va_D A [(h0, .inr (9, [.ref g0, .ref g1, .ref g2, .ref g3, .ref g4, .ref g5, .ref g6, .ref g7, .ref g8, .ref g9, .int 0, .int 0])), (g3, .inr (0, [.ref g14])), (g14, .inl (cy 3, 6, .inr (.inr (.inr (.inr (fun i => if i < 6 then some (rO i) else none)))))), ((rO 0), .inl (cy 0, 200, .inl (fun _ => (-1)))), ((rO 1), .inl (cy 0, 200, .inl (fun _ => (-1)))), ((rO 2), .inl (cy 0, 200, .inl (fun _ => (-1)))), ((rO 3), .inl (cy 0, 200, .inl (fun _ => (-1)))), ((rO 4), .inl (cy 0, 200, .inl (fun _ => (-1)))), ((rO 5), .inl (cy 0, 200, .inl (fun _ => (-1))))] := hD
      obtain rfl := hw_3
      exact gz_iret (cf := (fun (u : Unit) => [])) (post := (fun (r : Int32) (u : Unit) => r = (-1))) hx hb hr hlocks hK hP hD hS () [] rfl rfl (by decide) rfl (Nat.le_of_ble_eq_true rfl) (Nat.le_of_ble_eq_true rfl) dX9_lend_27
    · have ic_2 := gz_nlt (by decide : (0 : Int32).toInt = 0) (rfl : y.toInt = y.toInt) c_2
      refine lv_iconst (v := (-1)) hx hb dX9_lend_15 (by decide) ?_
      exact gz_iret (cf := (fun (u : Unit) => [])) (post := (fun (r : Int32) (u : Unit) => r = (-1))) hx hb hr hlocks hK hP hD hS () [] rfl rfl (by decide) rfl (Nat.le_of_ble_eq_true rfl) (Nat.le_of_ble_eq_true rfl) dX9_lend_16
  · skip
    refine lv_if_eq (tgt := 15) hx hb dX9_lend_4 (by decide) (fun _ => ?_) (fun h9 => absurd (by decide) h9)
    refine lv_iconst (v := (-1)) hx hb dX9_lend_15 (by decide) ?_
    exact gz_iret (cf := (fun (u : Unit) => [])) (post := (fun (r : Int32) (u : Unit) => r = (-1))) hx hb hr hlocks hK hP hD hS () [] rfl rfl (by decide) rfl (Nat.le_of_ble_eq_true rfl) (Nat.le_of_ble_eq_true rfl) dX9_lend_16

set_option maxHeartbeats 4000000 in
set_option maxRecDepth 100000 in
/-- WellCourt.canBeDrawn -/
theorem c_canBeDrawn (l : Launch) (G : va_G) (cy : Nat → ClassId) (sz : Nat) (h0 : Nat) (g0 : Nat) (g1 : Nat) (g2 : Nat) (g3 : Nat) (g4 : Nat) (g5 : Nat) (g6 : Nat) (g7 : Nat) (g8 : Nat) (g9 : Nat) (g11 : Nat) (g12 : Nat) (g13 : Nat) (x : Int32) (y : Int32) (z : Int32) (Xx : Int) (Xy : Int) (Xz : Int) (kx : x.toInt = Xx) (ky : y.toInt = Xy) (kz : z.toInt = Xz)  : gMi l yX9_canBeDrawn cX9_canBeDrawn 4 (some .boolean) ({ frames := 2, cells := 0, slots := 0, locals := 42 }) G cy sz [.ref h0, .int x, .int y, .int z] [(h0, .inr (9, [.ref g0, .ref g1, .ref g2, .ref g3, .ref g4, .ref g5, .ref g6, .ref g7, .ref g8, .ref g9, .int 0, .int 0])), (g2, .inr (3, [.ref g11, .ref g12, .ref g13])), (g11, .inl (cy 0, 6, .inl (fun _ => 0)))] (fun (r : Int32) (u : Unit) => r = 0) (fun (u : Unit) => [(h0, .inr (9, [.ref g0, .ref g1, .ref g2, .ref g3, .ref g4, .ref g5, .ref g6, .ref g7, .ref g8, .ref g9, .int 0, .int 0])), (g2, .inr (3, [.ref g11, .ref g12, .ref g13])), (g11, .inl (cy 0, 6, .inl (fun _ => 0)))]) := by
  refine gz_start (fun A => gQi G cy _ _ A) (by decide) (Nat.le_of_ble_eq_true rfl) ?_
  intro p e s m below meth c A ls H hx hb hr hml hlocks hin hown hts hK hov hsz hP hD hS hA hl
  have hl : lv_has ls 4 [(0, .ref h0), (1, .int x), (2, .int y), (3, .int z)] := hl
  refine lv_aload_n hx hb dX9_canBeDrawn_0 rfl (lv_at hl 0 rfl) ?_
  refine lv_iload_n hx hb dX9_canBeDrawn_1 rfl (lv_at hl 1 rfl) ?_
  refine gz_afti (va_runV (As := [.int x]) (rest := []) ⟨hx, hb, hml, hown, hts⟩ (c_isWellThere l G cy H.size h0 g0 g1 g2 g3 g4 g5 g6 g7 g8 g9 g11 g12 g13 x x.toInt rfl) ⟨(gz_cb (n := 1) hts gm_587 gm_1 gm_590 ⟨by decide +kernel, by decide +kernel, by decide +kernel⟩ ⟨Nat.le_of_ble_eq_true rfl, Nat.le_of_ble_eq_true rfl⟩), hts _ gm_589, hts _ gs_17⟩ (gz_preV (ci := 9) (q0 := 0) hK hov hP hD [0, 1, 2] (by decide) rfl rfl rfl) rfl rfl hl.1 rfl (lv_room (Nat.le_of_ble_eq_true rfl)) dX9_canBeDrawn_2 ⟨Nat.le_of_ble_eq_true rfl, Nat.le_of_ble_eq_true rfl⟩) hP hD hS hA [0, 1, 2] [] rfl rfl (by decide) (by decide) (fun r_1 u_1 H locs hw_1 hP hD hS => ?_)
  have hP : va_P G vwCl [(h0, .inr (9, [.ref g0, .ref g1, .ref g2, .ref g3, .ref g4, .ref g5, .ref g6, .ref g7, .ref g8, .ref g9, .int 0, .int 0])), (g2, .inr (3, [.ref g11, .ref g12, .ref g13])), (g11, .inl (cy 0, 6, .inl (fun _ => 0)))] H := hP
  have hD : va_D A [(h0, .inr (9, [.ref g0, .ref g1, .ref g2, .ref g3, .ref g4, .ref g5, .ref g6, .ref g7, .ref g8, .ref g9, .int 0, .int 0])), (g2, .inr (3, [.ref g11, .ref g12, .ref g13])), (g11, .inl (cy 0, 6, .inl (fun _ => 0)))] := hD
  obtain rfl := hw_1
  refine lv_if_eq (tgt := 43) hx hb dX9_canBeDrawn_5 (by decide) (fun _ => ?_) (fun h9 => absurd (by decide) h9)
  refine lv_iconst (v := 0) hx hb dX9_canBeDrawn_43 (by decide) ?_
  exact gz_iret (cf := (fun (u : Unit) => [(h0, .inr (9, [.ref g0, .ref g1, .ref g2, .ref g3, .ref g4, .ref g5, .ref g6, .ref g7, .ref g8, .ref g9, .int 0, .int 0])), (g2, .inr (3, [.ref g11, .ref g12, .ref g13])), (g11, .inl (cy 0, 6, .inl (fun _ => 0)))])) (post := (fun (r : Int32) (u : Unit) => r = 0)) hx hb hr hlocks hK hP hD hS () [0, 1, 2] (by decide) rfl (by decide) rfl (Nat.le_of_ble_eq_true rfl) (Nat.le_of_ble_eq_true rfl) dX9_canBeDrawn_44

set_option maxHeartbeats 4000000 in
set_option maxRecDepth 100000 in
/-- WellCourt.draw -/
theorem c_draw (l : Launch) (G : va_G) (cy : Nat → ClassId) (sz : Nat) (h0 : Nat) (g0 : Nat) (g1 : Nat) (g2 : Nat) (g3 : Nat) (g4 : Nat) (g5 : Nat) (g6 : Nat) (g7 : Nat) (g8 : Nat) (g9 : Nat) (g11 : Nat) (g12 : Nat) (g13 : Nat) (x : Int32) (y : Int32) (z : Int32) (Xx : Int) (Xy : Int) (Xz : Int) (kx : x.toInt = Xx) (ky : y.toInt = Xy) (kz : z.toInt = Xz)  : gMi l yX9_draw cX9_draw 6 (some .int) ({ frames := 3, cells := 0, slots := 0, locals := 65 }) G cy sz [.ref h0, .int x, .int y, .int z] [(h0, .inr (9, [.ref g0, .ref g1, .ref g2, .ref g3, .ref g4, .ref g5, .ref g6, .ref g7, .ref g8, .ref g9, .int 0, .int 0])), (g2, .inr (3, [.ref g11, .ref g12, .ref g13])), (g11, .inl (cy 0, 6, .inl (fun _ => 0)))] (fun (r : Int32) (u : Unit) => r = 1) (fun (u : Unit) => []) := by
  refine gz_start (fun A => gQi G cy _ _ A) (by decide) (Nat.le_of_ble_eq_true rfl) ?_
  intro p e s m below meth c A ls H hx hb hr hml hlocks hin hown hts hK hov hsz hP hD hS hA hl
  have hl : lv_has ls 6 [(0, .ref h0), (1, .int x), (2, .int y), (3, .int z)] := hl
  refine lv_aload_n hx hb dX9_draw_0 rfl (lv_at hl 0 rfl) ?_
  refine lv_iload_n hx hb dX9_draw_1 rfl (lv_at hl 1 rfl) ?_
  refine lv_iload_n hx hb dX9_draw_2 rfl (lv_at hl 2 rfl) ?_
  refine lv_iload_n hx hb dX9_draw_3 rfl (lv_at hl 3 rfl) ?_
  refine gz_afti (va_runV (As := [.int x, .int y, .int z]) (rest := []) ⟨hx, hb, hml, hown, hts⟩ (c_canBeDrawn l G cy H.size h0 g0 g1 g2 g3 g4 g5 g6 g7 g8 g9 g11 g12 g13 x y z x.toInt y.toInt z.toInt rfl rfl rfl) ⟨(gz_cb (n := 3) hts gm_639 gm_1 gm_642 ⟨by decide +kernel, by decide +kernel, by decide +kernel⟩ ⟨Nat.le_of_ble_eq_true rfl, Nat.le_of_ble_eq_true rfl⟩), hts _ gm_641, hts _ gs_19⟩ (gz_preV (ci := 9) (q0 := 0) hK hov hP hD [0, 1, 2] (by decide) rfl rfl rfl) rfl rfl hl.1 rfl (lv_room (Nat.le_of_ble_eq_true rfl)) dX9_draw_4 ⟨Nat.le_of_ble_eq_true rfl, Nat.le_of_ble_eq_true rfl⟩) hP hD hS hA [0, 1, 2] [] rfl rfl (by decide) (by decide) (fun r_1 u_1 H locs hw_1 hP hD hS => ?_)
  have hP : va_P G vwCl [(h0, .inr (9, [.ref g0, .ref g1, .ref g2, .ref g3, .ref g4, .ref g5, .ref g6, .ref g7, .ref g8, .ref g9, .int 0, .int 0])), (g2, .inr (3, [.ref g11, .ref g12, .ref g13])), (g11, .inl (cy 0, 6, .inl (fun _ => 0)))] H := hP
  have hD : va_D A [(h0, .inr (9, [.ref g0, .ref g1, .ref g2, .ref g3, .ref g4, .ref g5, .ref g6, .ref g7, .ref g8, .ref g9, .int 0, .int 0])), (g2, .inr (3, [.ref g11, .ref g12, .ref g13])), (g11, .inl (cy 0, 6, .inl (fun _ => 0)))] := hD
  obtain rfl := hw_1
  refine lv_if_ne (tgt := 12) hx hb dX9_draw_7 (by decide) (fun h9 => absurd (by decide) h9) (fun _ => ?_)
  refine lv_iconst (v := 1) hx hb dX9_draw_10 (by decide) ?_
  exact gz_iret (cf := (fun (u : Unit) => [])) (post := (fun (r : Int32) (u : Unit) => r = 1)) hx hb hr hlocks hK hP hD hS () [] rfl rfl (by decide) rfl (Nat.le_of_ble_eq_true rfl) (Nat.le_of_ble_eq_true rfl) dX9_draw_11

set_option maxHeartbeats 4000000 in
set_option maxRecDepth 100000 in
/-- WellCourt.take -/
theorem c_take (l : Launch) (G : va_G) (cy : Nat → ClassId) (sz : Nat) (h0 : Nat) (g0 : Nat) (g1 : Nat) (g2 : Nat) (g3 : Nat) (g4 : Nat) (g5 : Nat) (g6 : Nat) (g7 : Nat) (g8 : Nat) (g9 : Nat) (g11 : Nat) (g12 : Nat) (g13 : Nat) (x : Int32) (y : Int32) (z : Int32) (Xx : Int) (Xy : Int) (Xz : Int) (kx : x.toInt = Xx) (ky : y.toInt = Xy) (kz : z.toInt = Xz)  : gMi l yX9_take cX9_take 4 (some .int) ({ frames := 3, cells := 0, slots := 0, locals := 65 }) G cy sz [.ref h0, .int x, .int y, .int z] [(h0, .inr (9, [.ref g0, .ref g1, .ref g2, .ref g3, .ref g4, .ref g5, .ref g6, .ref g7, .ref g8, .ref g9, .int 0, .int 0])), (g2, .inr (3, [.ref g11, .ref g12, .ref g13])), (g11, .inl (cy 0, 6, .inl (fun _ => 0)))] (fun (r : Int32) (u : Unit) => r = 1) (fun (u : Unit) => []) := by
  refine gz_start (fun A => gQi G cy _ _ A) (by decide) (Nat.le_of_ble_eq_true rfl) ?_
  intro p e s m below meth c A ls H hx hb hr hml hlocks hin hown hts hK hov hsz hP hD hS hA hl
  have hl : lv_has ls 4 [(0, .ref h0), (1, .int x), (2, .int y), (3, .int z)] := hl
  refine lv_aload_n hx hb dX9_take_0 rfl (lv_at hl 0 rfl) ?_
  refine lv_iload_n hx hb dX9_take_1 rfl (lv_at hl 1 rfl) ?_
  refine lv_iload_n hx hb dX9_take_2 rfl (lv_at hl 2 rfl) ?_
  refine lv_iload_n hx hb dX9_take_3 rfl (lv_at hl 3 rfl) ?_
  refine gz_afti (va_runV (As := [.int x, .int y, .int z]) (rest := []) ⟨hx, hb, hml, hown, hts⟩ (c_canBeDrawn l G cy H.size h0 g0 g1 g2 g3 g4 g5 g6 g7 g8 g9 g11 g12 g13 x y z x.toInt y.toInt z.toInt rfl rfl rfl) ⟨(gz_cb (n := 3) hts gm_639 gm_1 gm_642 ⟨by decide +kernel, by decide +kernel, by decide +kernel⟩ ⟨Nat.le_of_ble_eq_true rfl, Nat.le_of_ble_eq_true rfl⟩), hts _ gm_641, hts _ gs_19⟩ (gz_preV (ci := 9) (q0 := 0) hK hov hP hD [0, 1, 2] (by decide) rfl rfl rfl) rfl rfl hl.1 rfl (lv_room (Nat.le_of_ble_eq_true rfl)) dX9_take_4 ⟨Nat.le_of_ble_eq_true rfl, Nat.le_of_ble_eq_true rfl⟩) hP hD hS hA [0, 1, 2] [] rfl rfl (by decide) (by decide) (fun r_1 u_1 H locs hw_1 hP hD hS => ?_)
  have hP : va_P G vwCl [(h0, .inr (9, [.ref g0, .ref g1, .ref g2, .ref g3, .ref g4, .ref g5, .ref g6, .ref g7, .ref g8, .ref g9, .int 0, .int 0])), (g2, .inr (3, [.ref g11, .ref g12, .ref g13])), (g11, .inl (cy 0, 6, .inl (fun _ => 0)))] H := hP
  have hD : va_D A [(h0, .inr (9, [.ref g0, .ref g1, .ref g2, .ref g3, .ref g4, .ref g5, .ref g6, .ref g7, .ref g8, .ref g9, .int 0, .int 0])), (g2, .inr (3, [.ref g11, .ref g12, .ref g13])), (g11, .inl (cy 0, 6, .inl (fun _ => 0)))] := hD
  obtain rfl := hw_1
  refine lv_if_ne (tgt := 12) hx hb dX9_take_7 (by decide) (fun h9 => absurd (by decide) h9) (fun _ => ?_)
  refine lv_iconst (v := 1) hx hb dX9_take_10 (by decide) ?_
  exact gz_iret (cf := (fun (u : Unit) => [])) (post := (fun (r : Int32) (u : Unit) => r = 1)) hx hb hr hlocks hK hP hD hS () [] rfl rfl (by decide) rfl (Nat.le_of_ble_eq_true rfl) (Nat.le_of_ble_eq_true rfl) dX9_take_11

set_option maxHeartbeats 4000000 in
set_option maxRecDepth 100000 in
/-- WellCourt.report -/
theorem c_report (l : Launch) (G : va_G) (cy : Nat → ClassId) (sz : Nat) (h0 : Nat) (g0 : Nat) (g1 : Nat) (g2 : Nat) (g3 : Nat) (g4 : Nat) (g5 : Nat) (g6 : Nat) (g7 : Nat) (g8 : Nat) (g9 : Nat) (g18 : Nat) (x : Int32) (Xx : Int) (kx : x.toInt = Xx)  : gMi l yX9_report cX9_report 2 (some .boolean) ({ frames := 1, cells := 0, slots := 0, locals := 21 }) G cy sz [.ref h0, .int x] [(h0, .inr (9, [.ref g0, .ref g1, .ref g2, .ref g3, .ref g4, .ref g5, .ref g6, .ref g7, .ref g8, .ref g9, .int 0, .int 0])), (g5, .inr (5, [.ref g18, .int 0]))] (fun (r : Int32) (u : Unit) => r = 0) (fun (u : Unit) => []) := by
  refine gz_start (fun A => gQi G cy _ _ A) (by decide) (Nat.le_of_ble_eq_true rfl) ?_
  intro p e s m below meth c A ls H hx hb hr hml hlocks hin hown hts hK hov hsz hP hD hS hA hl
  have hl : lv_has ls 2 [(0, .ref h0), (1, .int x)] := hl
  refine lv_aload_n hx hb dX9_report_0 rfl (lv_at hl 0 rfl) ?_
  refine va_get (ci := 9) (v := .ref g5) (C := RX9) (T := TX9) (N := 12) hx hb hts inX9 hown hK hP 0 rfl rfl 5 (by decide) (hts _ gm_296) (fun _ h9 => h9) rfl dX9_report_1 ?_
  refine lv_iload_n hx hb dX9_report_4 rfl (lv_at hl 1 rfl) ?_
  refine gz_afti (va_runV (As := [.int x]) (rest := []) ⟨hx, hb, hml, hown, hts⟩ (c_X5_has l G cy H.size g5 g18 x x.toInt rfl) ⟨(gz_cb (n := 1) hts gm_663 gm_8 gm_666 ⟨by decide +kernel, by decide +kernel, by decide +kernel⟩ ⟨Nat.le_of_ble_eq_true rfl, Nat.le_of_ble_eq_true rfl⟩), hts _ gm_664, hts _ gm_665⟩ (gz_preV (ci := 5) (q0 := 0) hK hov hP hD [1] (by decide) rfl rfl rfl) rfl rfl hl.1 rfl (lv_room (Nat.le_of_ble_eq_true rfl)) dX9_report_5 ⟨Nat.le_of_ble_eq_true rfl, Nat.le_of_ble_eq_true rfl⟩) hP hD hS hA [1] [0] rfl rfl (by decide) (by decide) (fun r_1 u_1 H locs hw_1 hP hD hS => ?_)
  have hP : va_P G vwCl [(h0, .inr (9, [.ref g0, .ref g1, .ref g2, .ref g3, .ref g4, .ref g5, .ref g6, .ref g7, .ref g8, .ref g9, .int 0, .int 0])), (g5, .inr (5, [.ref g18, .int 0]))] H := hP
  have hD : va_D A [(h0, .inr (9, [.ref g0, .ref g1, .ref g2, .ref g3, .ref g4, .ref g5, .ref g6, .ref g7, .ref g8, .ref g9, .int 0, .int 0])), (g5, .inr (5, [.ref g18, .int 0]))] := hD
  obtain rfl := hw_1
  refine lv_if_eq (tgt := 26) hx hb dX9_report_8 (by decide) (fun _ => ?_) (fun h9 => absurd (by decide) h9)
  refine lv_iconst (v := 0) hx hb dX9_report_26 (by decide) ?_
  exact gz_iret (cf := (fun (u : Unit) => [])) (post := (fun (r : Int32) (u : Unit) => r = 0)) hx hb hr hlocks hK hP hD hS () [] (by decide) rfl (by decide) rfl (Nat.le_of_ble_eq_true rfl) (Nat.le_of_ble_eq_true rfl) dX9_report_27

set_option maxHeartbeats 4000000 in
set_option maxRecDepth 100000 in
/-- WellCourt.fine -/
theorem c_fine (l : Launch) (G : va_G) (cy : Nat → ClassId) (sz : Nat) (h0 : Nat) (g0 : Nat) (g1 : Nat) (g2 : Nat) (g3 : Nat) (g4 : Nat) (g5 : Nat) (g6 : Nat) (g7 : Nat) (g8 : Nat) (g9 : Nat) (g18 : Nat) (x : Int32) (y : Int32) (z : Int32) (v : Int32) (Xx : Int) (Xy : Int) (Xz : Int) (Xv : Int) (kx : x.toInt = Xx) (ky : y.toInt = Xy) (kz : z.toInt = Xz) (kv : v.toInt = Xv)  : gMi l yX9_fine cX9_fine 7 (some .int) ({ frames := 1, cells := 0, slots := 0, locals := 27 }) G cy sz [.ref h0, .int x, .int y, .int z, .int v] [(h0, .inr (9, [.ref g0, .ref g1, .ref g2, .ref g3, .ref g4, .ref g5, .ref g6, .ref g7, .ref g8, .ref g9, .int 0, .int 0])), (g5, .inr (5, [.ref g18, .int 0]))] (fun (r : Int32) (u : Unit) => r = 0) (fun (u : Unit) => [(h0, .inr (9, [.ref g0, .ref g1, .ref g2, .ref g3, .ref g4, .ref g5, .ref g6, .ref g7, .ref g8, .ref g9, .int 0, .int 0])), (g5, .inr (5, [.ref g18, .int 0]))]) := by
  refine gz_start (fun A => gQi G cy _ _ A) (by decide) (Nat.le_of_ble_eq_true rfl) ?_
  intro p e s m below meth c A ls H hx hb hr hml hlocks hin hown hts hK hov hsz hP hD hS hA hl
  have hl : lv_has ls 7 [(0, .ref h0), (1, .int x), (2, .int y), (3, .int z), (4, .int v)] := hl
  refine lv_aload_n hx hb dX9_fine_0 rfl (lv_at hl 0 rfl) ?_
  refine va_get (ci := 9) (v := .ref g5) (C := RX9) (T := TX9) (N := 12) hx hb hts inX9 hown hK hP 0 rfl rfl 5 (by decide) (hts _ gm_296) (fun _ h9 => h9) rfl dX9_fine_1 ?_
  refine lv_iload_n hx hb dX9_fine_4 rfl (lv_at hl 1 rfl) ?_
  refine lv_iload_n hx hb dX9_fine_5 rfl (lv_at hl 2 rfl) ?_
  refine lv_iload_n hx hb dX9_fine_6 rfl (lv_at hl 3 rfl) ?_
  refine lv_iconst (v := 0) hx hb dX9_fine_7 (by decide) ?_
  refine lv_iload hx hb dX9_fine_8 (lv_at hl 4 rfl) ?_
  refine gz_afti (va_runV (As := [.int x, .int y, .int z, .int 0, .int v]) (rest := []) ⟨hx, hb, hml, hown, hts⟩ (c_X5_sumKnown l G cy H.size g5 g18 x y z 0 v x.toInt y.toInt z.toInt 0 v.toInt rfl rfl rfl (by decide) rfl) ⟨(gz_cb (n := 5) hts gm_676 gm_8 gm_679 ⟨by decide +kernel, by decide +kernel, by decide +kernel⟩ ⟨Nat.le_of_ble_eq_true rfl, Nat.le_of_ble_eq_true rfl⟩), hts _ gm_677, hts _ gm_678⟩ (gz_preV (ci := 5) (q0 := 0) hK hov hP hD [1] (by decide) rfl rfl rfl) rfl rfl hl.1 rfl (lv_room (Nat.le_of_ble_eq_true rfl)) dX9_fine_10 ⟨Nat.le_of_ble_eq_true rfl, Nat.le_of_ble_eq_true rfl⟩) hP hD hS hA [1] [0] rfl rfl (by decide) (by decide) (fun r_1 u_1 H locs hw_1 hP hD hS => ?_)
  have hP : va_P G vwCl [(h0, .inr (9, [.ref g0, .ref g1, .ref g2, .ref g3, .ref g4, .ref g5, .ref g6, .ref g7, .ref g8, .ref g9, .int 0, .int 0])), (g5, .inr (5, [.ref g18, .int 0]))] H := hP
  have hD : va_D A [(h0, .inr (9, [.ref g0, .ref g1, .ref g2, .ref g3, .ref g4, .ref g5, .ref g6, .ref g7, .ref g8, .ref g9, .int 0, .int 0])), (g5, .inr (5, [.ref g18, .int 0]))] := hD
  obtain rfl := hw_1
  refine lv_istore (lv' := [(5, .int 0), (0, .ref h0), (1, .int x), (2, .int y), (3, .int z), (4, .int v)]) hx hb dX9_fine_13 hl (by decide) rfl (fun ls hl => ?_)
  refine lv_aload_n hx hb dX9_fine_15 rfl (lv_at hl 1 rfl) ?_
  refine va_get (ci := 9) (v := .ref g5) (C := RX9) (T := TX9) (N := 12) hx hb hts inX9 hown hK hP 0 rfl rfl 5 (by decide) (hts _ gm_296) (fun _ h9 => h9) rfl dX9_fine_16 ?_
  refine lv_iload_n hx hb dX9_fine_19 rfl (lv_at hl 2 rfl) ?_
  refine lv_iload_n hx hb dX9_fine_20 rfl (lv_at hl 3 rfl) ?_
  refine lv_iload_n hx hb dX9_fine_21 rfl (lv_at hl 4 rfl) ?_
  refine lv_iconst (v := 1) hx hb dX9_fine_22 (by decide) ?_
  refine lv_iload hx hb dX9_fine_23 (lv_at hl 5 rfl) ?_
  refine gz_afti (va_runV (As := [.int x, .int y, .int z, .int 1, .int v]) (rest := []) ⟨hx, hb, hml, hown, hts⟩ (c_X5_sumKnown l G cy H.size g5 g18 x y z 1 v x.toInt y.toInt z.toInt 1 v.toInt rfl rfl rfl (by decide) rfl) ⟨(gz_cb (n := 5) hts gm_676 gm_8 gm_679 ⟨by decide +kernel, by decide +kernel, by decide +kernel⟩ ⟨Nat.le_of_ble_eq_true rfl, Nat.le_of_ble_eq_true rfl⟩), hts _ gm_677, hts _ gm_678⟩ (gz_preV (ci := 5) (q0 := 0) hK hov hP hD [1] (by decide) rfl rfl rfl) rfl rfl hl.1 rfl (lv_room (Nat.le_of_ble_eq_true rfl)) dX9_fine_25 ⟨Nat.le_of_ble_eq_true rfl, Nat.le_of_ble_eq_true rfl⟩) hP hD hS hA [1] [0] rfl rfl (by decide) (by decide) (fun r_2 u_2 H locs hw_2 hP hD hS => ?_)
  have hP : va_P G vwCl [(h0, .inr (9, [.ref g0, .ref g1, .ref g2, .ref g3, .ref g4, .ref g5, .ref g6, .ref g7, .ref g8, .ref g9, .int 0, .int 0])), (g5, .inr (5, [.ref g18, .int 0]))] H := hP
  have hD : va_D A [(h0, .inr (9, [.ref g0, .ref g1, .ref g2, .ref g3, .ref g4, .ref g5, .ref g6, .ref g7, .ref g8, .ref g9, .int 0, .int 0])), (g5, .inr (5, [.ref g18, .int 0]))] := hD
  obtain rfl := hw_2
  refine lv_istore (lv' := [(6, .int 0), (5, .int 0), (0, .ref h0), (1, .int x), (2, .int y), (3, .int z), (4, .int v)]) hx hb dX9_fine_28 hl (by decide) rfl (fun ls hl => ?_)
  refine lv_iconst (v := 2) hx hb dX9_fine_30 (by decide) ?_
  refine lv_iload hx hb dX9_fine_31 (lv_at hl 1 rfl) ?_
  refine lv_imul hx hb dX9_fine_33 ?_
  refine lv_topi (fun x_3 ex_3 => ?_)
  obtain rfl : x_3 = (0 : Int32) := ex_3.trans (by decide)
  refine lv_iload hx hb dX9_fine_34 (lv_at hl 0 rfl) ?_
  refine lv_isub hx hb dX9_fine_36 ?_
  refine lv_topi (fun x_4 ex_4 => ?_)
  obtain rfl : x_4 = (0 : Int32) := ex_4.trans (by decide)
  refine lv_iconst (v := 0) hx hb dX9_fine_37 (by decide) ?_
  refine va_mmax hx hb (hml.trans hl.1.symm) hown (hts _ gm_688) (hts _ gm_537) (hts _ gm_17) (hts _ gm_538) (Nat.le_of_ble_eq_true rfl) (Nat.le_of_ble_eq_true rfl) (Nat.le_of_ble_eq_true rfl) (Nat.le_of_ble_eq_true rfl) dX9_fine_38 ?_
  refine lv_topi (fun x_5 ex_5 => ?_)
  obtain rfl : x_5 = (0 : Int32) := ex_5.trans (by decide)
  exact gz_iret (cf := (fun (u : Unit) => [(h0, .inr (9, [.ref g0, .ref g1, .ref g2, .ref g3, .ref g4, .ref g5, .ref g6, .ref g7, .ref g8, .ref g9, .int 0, .int 0])), (g5, .inr (5, [.ref g18, .int 0]))])) (post := (fun (r : Int32) (u : Unit) => r = 0)) hx hb hr hlocks hK hP hD hS () [0, 1] rfl rfl (by decide) rfl (Nat.le_of_ble_eq_true rfl) (Nat.le_of_ble_eq_true rfl) dX9_fine_41

set_option maxHeartbeats 4000000 in
set_option maxRecDepth 100000 in
/-- WellCourt.judge -/
theorem c_judge (l : Launch) (G : va_G) (cy : Nat → ClassId) (sz : Nat) (h0 : Nat) (g0 : Nat) (g1 : Nat) (g2 : Nat) (g3 : Nat) (g4 : Nat) (g5 : Nat) (g6 : Nat) (g7 : Nat) (g8 : Nat) (g9 : Nat) (g18 : Nat) (x : Int32) (y : Int32) (z : Int32) (v : Int32) (t : Int32) (Xx : Int) (Xy : Int) (Xz : Int) (Xv : Int) (Xt : Int) (kx : x.toInt = Xx) (ky : y.toInt = Xy) (kz : z.toInt = Xz) (kv : v.toInt = Xv) (kt : t.toInt = Xt)  : gMi l yX9_judge cX9_judge 6 (some .int) ({ frames := 2, cells := 0, slots := 0, locals := 53 }) G cy sz [.ref h0, .int x, .int y, .int z, .int v, .int t] [(h0, .inr (9, [.ref g0, .ref g1, .ref g2, .ref g3, .ref g4, .ref g5, .ref g6, .ref g7, .ref g8, .ref g9, .int 0, .int 0])), (g5, .inr (5, [.ref g18, .int 0]))] (fun (r : Int32) (u : Unit) => (r = 0 ∧ (0 ≤ Xx ∧ Xx < 6 ∧ 0 ≤ Xt ∧ Xt ≤ 3)) ∨ (r = (-1) ∧ (¬ (0 ≤ Xx ∧ Xx < 6 ∧ 0 ≤ Xt ∧ Xt ≤ 3)))) (fun (u : Unit) => []) := by
  refine gz_start (fun A => gQi G cy _ _ A) (by decide) (Nat.le_of_ble_eq_true rfl) ?_
  intro p e s m below meth c A ls H hx hb hr hml hlocks hin hown hts hK hov hsz hP hD hS hA hl
  have hl : lv_has ls 6 [(0, .ref h0), (1, .int x), (2, .int y), (3, .int z), (4, .int v), (5, .int t)] := hl
  refine lv_iload_n hx hb dX9_judge_0 rfl (lv_at hl 1 rfl) ?_
  refine gz_afti (va_runS (As := [.int x]) (rest := []) ⟨hx, hb, hml, hown, hts⟩ (c_isClan l G cy H.size x x.toInt rfl) ⟨(gz_cb (n := 1) hts gm_600 gm_1 gm_487 ⟨by decide +kernel, by decide +kernel, by decide +kernel⟩ ⟨Nat.le_of_ble_eq_true rfl, Nat.le_of_ble_eq_true rfl⟩), hts _ gm_486⟩ (gz_preS hK hov hP hD [] (by decide) rfl) rfl rfl hl.1 rfl (lv_room (Nat.le_of_ble_eq_true rfl)) dX9_judge_1 ⟨Nat.le_of_ble_eq_true rfl, Nat.le_of_ble_eq_true rfl⟩) hP hD hS hA [] [0, 1] rfl rfl (by decide) (by decide) (fun r_1 u_1 H locs hw_1 hP hD hS => ?_)
  have hP : va_P G vwCl [(h0, .inr (9, [.ref g0, .ref g1, .ref g2, .ref g3, .ref g4, .ref g5, .ref g6, .ref g7, .ref g8, .ref g9, .int 0, .int 0])), (g5, .inr (5, [.ref g18, .int 0]))] H := hP
  have hD : va_D A [(h0, .inr (9, [.ref g0, .ref g1, .ref g2, .ref g3, .ref g4, .ref g5, .ref g6, .ref g7, .ref g8, .ref g9, .int 0, .int 0])), (g5, .inr (5, [.ref g18, .int 0]))] := hD
  rcases hw_1 with ⟨rfl, hw_1_0, hw_1_1⟩ | ⟨rfl, hw_1_0⟩
  · skip
    refine lv_if_ne (tgt := 9) hx hb dX9_judge_4 (by decide) (fun _ => ?_) (fun h9 => absurd h9 (by decide))
    refine lv_iload hx hb dX9_judge_9 (lv_at hl 5 rfl) ?_
    rcases (show t.toInt < 0 ∨ 3 < t.toInt ∨ t.toInt = 0 ∨ t.toInt = 1 ∨ t.toInt = 2 ∨ t.toInt = 3 by omega) with h_2 | h_2 | h_2 | h_2 | h_2 | h_2
    · refine lv_tableOut (tgt := 100) hx hb dX9_judge_11 (Or.inl h_2) (by decide) ?_
      refine lv_iconst (v := (-1)) hx hb dX9_judge_100 (by decide) ?_
      exact gz_iret (cf := (fun (u : Unit) => [])) (post := (fun (r : Int32) (u : Unit) => (r = 0 ∧ (0 ≤ Xx ∧ Xx < 6 ∧ 0 ≤ Xt ∧ Xt ≤ 3)) ∨ (r = (-1) ∧ (¬ (0 ≤ Xx ∧ Xx < 6 ∧ 0 ≤ Xt ∧ Xt ≤ 3))))) hx hb hr hlocks hK hP hD hS () [] rfl (Or.inr (⟨rfl, by omega⟩)) (by decide) rfl (Nat.le_of_ble_eq_true rfl) (Nat.le_of_ble_eq_true rfl) dX9_judge_101
    · refine lv_tableOut (tgt := 100) hx hb dX9_judge_11 (Or.inr h_2) (by decide) ?_
      refine lv_iconst (v := (-1)) hx hb dX9_judge_100 (by decide) ?_
      exact gz_iret (cf := (fun (u : Unit) => [])) (post := (fun (r : Int32) (u : Unit) => (r = 0 ∧ (0 ≤ Xx ∧ Xx < 6 ∧ 0 ≤ Xt ∧ Xt ≤ 3)) ∨ (r = (-1) ∧ (¬ (0 ≤ Xx ∧ Xx < 6 ∧ 0 ≤ Xt ∧ Xt ≤ 3))))) hx hb hr hlocks hK hP hD hS () [] rfl (Or.inr (⟨rfl, by omega⟩)) (by decide) rfl (Nat.le_of_ble_eq_true rfl) (Nat.le_of_ble_eq_true rfl) dX9_judge_101
    · refine lv_tableIn (tgt := 40) hx hb dX9_judge_11 (by omega) (by omega) (by rw [h_2]; rfl) (by decide) ?_
      refine lv_aload_n hx hb dX9_judge_40 rfl (lv_at hl 0 rfl) ?_
      refine va_get (ci := 9) (v := .ref g5) (C := RX9) (T := TX9) (N := 12) hx hb hts inX9 hown hK hP 0 rfl rfl 5 (by decide) (hts _ gm_296) (fun _ h9 => h9) rfl dX9_judge_41 ?_
      refine lv_iload_n hx hb dX9_judge_44 rfl (lv_at hl 1 rfl) ?_
      refine lv_iload_n hx hb dX9_judge_45 rfl (lv_at hl 2 rfl) ?_
      refine lv_iload_n hx hb dX9_judge_46 rfl (lv_at hl 3 rfl) ?_
      refine lv_iconst (v := 1) hx hb dX9_judge_47 (by decide) ?_
      refine gz_afti (va_runV (As := [.int x, .int y, .int z, .int 1]) (rest := []) ⟨hx, hb, hml, hown, hts⟩ (c_X5_sum l G cy H.size g5 g18 x y z 1 x.toInt y.toInt z.toInt 1 rfl rfl rfl (by decide)) ⟨(gz_cb (n := 4) hts gm_671 gm_8 gm_674 ⟨by decide +kernel, by decide +kernel, by decide +kernel⟩ ⟨Nat.le_of_ble_eq_true rfl, Nat.le_of_ble_eq_true rfl⟩), hts _ gm_672, hts _ gm_673⟩ (gz_preV (ci := 5) (q0 := 0) hK hov hP hD [1] (by decide) rfl rfl rfl) rfl rfl hl.1 rfl (lv_room (Nat.le_of_ble_eq_true rfl)) dX9_judge_48 ⟨Nat.le_of_ble_eq_true rfl, Nat.le_of_ble_eq_true rfl⟩) hP hD hS hA [1] [0] rfl rfl (by decide) (by decide) (fun r_3 u_3 H locs hw_3 hP hD hS => ?_)
      have hP : va_P G vwCl [(h0, .inr (9, [.ref g0, .ref g1, .ref g2, .ref g3, .ref g4, .ref g5, .ref g6, .ref g7, .ref g8, .ref g9, .int 0, .int 0])), (g5, .inr (5, [.ref g18, .int 0]))] H := hP
      have hD : va_D A [(h0, .inr (9, [.ref g0, .ref g1, .ref g2, .ref g3, .ref g4, .ref g5, .ref g6, .ref g7, .ref g8, .ref g9, .int 0, .int 0])), (g5, .inr (5, [.ref g18, .int 0]))] := hD
      obtain rfl := hw_3
      refine lv_aload_n hx hb dX9_judge_51 rfl (lv_at hl 0 rfl) ?_
      refine va_get (ci := 9) (v := .ref g5) (C := RX9) (T := TX9) (N := 12) hx hb hts inX9 hown hK hP 0 rfl rfl 5 (by decide) (hts _ gm_296) (fun _ h9 => h9) rfl dX9_judge_52 ?_
      refine lv_iload_n hx hb dX9_judge_55 rfl (lv_at hl 1 rfl) ?_
      refine lv_iload_n hx hb dX9_judge_56 rfl (lv_at hl 2 rfl) ?_
      refine lv_iload_n hx hb dX9_judge_57 rfl (lv_at hl 3 rfl) ?_
      refine lv_iconst (v := 0) hx hb dX9_judge_58 (by decide) ?_
      refine gz_afti (va_runV (As := [.int x, .int y, .int z, .int 0]) (rest := [.int 0]) ⟨hx, hb, hml, hown, hts⟩ (c_X5_sum l G cy H.size g5 g18 x y z 0 x.toInt y.toInt z.toInt 0 rfl rfl rfl (by decide)) ⟨(gz_cb (n := 4) hts gm_671 gm_8 gm_674 ⟨by decide +kernel, by decide +kernel, by decide +kernel⟩ ⟨Nat.le_of_ble_eq_true rfl, Nat.le_of_ble_eq_true rfl⟩), hts _ gm_672, hts _ gm_673⟩ (gz_preV (ci := 5) (q0 := 0) hK hov hP hD [1] (by decide) rfl rfl rfl) rfl rfl hl.1 rfl (lv_room (Nat.le_of_ble_eq_true rfl)) dX9_judge_59 ⟨Nat.le_of_ble_eq_true rfl, Nat.le_of_ble_eq_true rfl⟩) hP hD hS hA [1] [0] rfl rfl (by decide) (by decide) (fun r_4 u_4 H locs hw_4 hP hD hS => ?_)
      have hP : va_P G vwCl [(h0, .inr (9, [.ref g0, .ref g1, .ref g2, .ref g3, .ref g4, .ref g5, .ref g6, .ref g7, .ref g8, .ref g9, .int 0, .int 0])), (g5, .inr (5, [.ref g18, .int 0]))] H := hP
      have hD : va_D A [(h0, .inr (9, [.ref g0, .ref g1, .ref g2, .ref g3, .ref g4, .ref g5, .ref g6, .ref g7, .ref g8, .ref g9, .int 0, .int 0])), (g5, .inr (5, [.ref g18, .int 0]))] := hD
      obtain rfl := hw_4
      refine lv_iadd hx hb dX9_judge_62 ?_
      refine lv_topi (fun x_5 ex_5 => ?_)
      obtain rfl : x_5 = (0 : Int32) := ex_5.trans (by decide)
      exact gz_iret (cf := (fun (u : Unit) => [])) (post := (fun (r : Int32) (u : Unit) => (r = 0 ∧ (0 ≤ Xx ∧ Xx < 6 ∧ 0 ≤ Xt ∧ Xt ≤ 3)) ∨ (r = (-1) ∧ (¬ (0 ≤ Xx ∧ Xx < 6 ∧ 0 ≤ Xt ∧ Xt ≤ 3))))) hx hb hr hlocks hK hP hD hS () [] rfl (Or.inl (⟨rfl, by omega⟩)) (by decide) rfl (Nat.le_of_ble_eq_true rfl) (Nat.le_of_ble_eq_true rfl) dX9_judge_63
    · refine lv_tableIn (tgt := 64) hx hb dX9_judge_11 (by omega) (by omega) (by rw [h_2]; rfl) (by decide) ?_
      refine lv_aload_n hx hb dX9_judge_64 rfl (lv_at hl 0 rfl) ?_
      refine va_get (ci := 9) (v := .ref g5) (C := RX9) (T := TX9) (N := 12) hx hb hts inX9 hown hK hP 0 rfl rfl 5 (by decide) (hts _ gm_296) (fun _ h9 => h9) rfl dX9_judge_65 ?_
      refine lv_iload_n hx hb dX9_judge_68 rfl (lv_at hl 1 rfl) ?_
      refine lv_iload_n hx hb dX9_judge_69 rfl (lv_at hl 2 rfl) ?_
      refine lv_iload_n hx hb dX9_judge_70 rfl (lv_at hl 3 rfl) ?_
      refine lv_iconst (v := 0) hx hb dX9_judge_71 (by decide) ?_
      refine gz_afti (va_runV (As := [.int x, .int y, .int z, .int 0]) (rest := []) ⟨hx, hb, hml, hown, hts⟩ (c_X5_sum l G cy H.size g5 g18 x y z 0 x.toInt y.toInt z.toInt 0 rfl rfl rfl (by decide)) ⟨(gz_cb (n := 4) hts gm_671 gm_8 gm_674 ⟨by decide +kernel, by decide +kernel, by decide +kernel⟩ ⟨Nat.le_of_ble_eq_true rfl, Nat.le_of_ble_eq_true rfl⟩), hts _ gm_672, hts _ gm_673⟩ (gz_preV (ci := 5) (q0 := 0) hK hov hP hD [1] (by decide) rfl rfl rfl) rfl rfl hl.1 rfl (lv_room (Nat.le_of_ble_eq_true rfl)) dX9_judge_72 ⟨Nat.le_of_ble_eq_true rfl, Nat.le_of_ble_eq_true rfl⟩) hP hD hS hA [1] [0] rfl rfl (by decide) (by decide) (fun r_6 u_6 H locs hw_6 hP hD hS => ?_)
      have hP : va_P G vwCl [(h0, .inr (9, [.ref g0, .ref g1, .ref g2, .ref g3, .ref g4, .ref g5, .ref g6, .ref g7, .ref g8, .ref g9, .int 0, .int 0])), (g5, .inr (5, [.ref g18, .int 0]))] H := hP
      have hD : va_D A [(h0, .inr (9, [.ref g0, .ref g1, .ref g2, .ref g3, .ref g4, .ref g5, .ref g6, .ref g7, .ref g8, .ref g9, .int 0, .int 0])), (g5, .inr (5, [.ref g18, .int 0]))] := hD
      obtain rfl := hw_6
      exact gz_iret (cf := (fun (u : Unit) => [])) (post := (fun (r : Int32) (u : Unit) => (r = 0 ∧ (0 ≤ Xx ∧ Xx < 6 ∧ 0 ≤ Xt ∧ Xt ≤ 3)) ∨ (r = (-1) ∧ (¬ (0 ≤ Xx ∧ Xx < 6 ∧ 0 ≤ Xt ∧ Xt ≤ 3))))) hx hb hr hlocks hK hP hD hS () [] rfl (Or.inl (⟨rfl, by omega⟩)) (by decide) rfl (Nat.le_of_ble_eq_true rfl) (Nat.le_of_ble_eq_true rfl) dX9_judge_75
    · refine lv_tableIn (tgt := 76) hx hb dX9_judge_11 (by omega) (by omega) (by rw [h_2]; rfl) (by decide) ?_
      refine lv_aload_n hx hb dX9_judge_76 rfl (lv_at hl 0 rfl) ?_
      refine va_get (ci := 9) (v := .ref g5) (C := RX9) (T := TX9) (N := 12) hx hb hts inX9 hown hK hP 0 rfl rfl 5 (by decide) (hts _ gm_296) (fun _ h9 => h9) rfl dX9_judge_77 ?_
      refine lv_iload_n hx hb dX9_judge_80 rfl (lv_at hl 1 rfl) ?_
      refine lv_iload_n hx hb dX9_judge_81 rfl (lv_at hl 2 rfl) ?_
      refine lv_iload_n hx hb dX9_judge_82 rfl (lv_at hl 3 rfl) ?_
      refine lv_iconst (v := 0) hx hb dX9_judge_83 (by decide) ?_
      refine lv_iload hx hb dX9_judge_84 (lv_at hl 4 rfl) ?_
      refine gz_afti (va_runV (As := [.int x, .int y, .int z, .int 0, .int v]) (rest := []) ⟨hx, hb, hml, hown, hts⟩ (c_X5_sumKnown l G cy H.size g5 g18 x y z 0 v x.toInt y.toInt z.toInt 0 v.toInt rfl rfl rfl (by decide) rfl) ⟨(gz_cb (n := 5) hts gm_676 gm_8 gm_679 ⟨by decide +kernel, by decide +kernel, by decide +kernel⟩ ⟨Nat.le_of_ble_eq_true rfl, Nat.le_of_ble_eq_true rfl⟩), hts _ gm_677, hts _ gm_678⟩ (gz_preV (ci := 5) (q0 := 0) hK hov hP hD [1] (by decide) rfl rfl rfl) rfl rfl hl.1 rfl (lv_room (Nat.le_of_ble_eq_true rfl)) dX9_judge_86 ⟨Nat.le_of_ble_eq_true rfl, Nat.le_of_ble_eq_true rfl⟩) hP hD hS hA [1] [0] rfl rfl (by decide) (by decide) (fun r_7 u_7 H locs hw_7 hP hD hS => ?_)
      have hP : va_P G vwCl [(h0, .inr (9, [.ref g0, .ref g1, .ref g2, .ref g3, .ref g4, .ref g5, .ref g6, .ref g7, .ref g8, .ref g9, .int 0, .int 0])), (g5, .inr (5, [.ref g18, .int 0]))] H := hP
      have hD : va_D A [(h0, .inr (9, [.ref g0, .ref g1, .ref g2, .ref g3, .ref g4, .ref g5, .ref g6, .ref g7, .ref g8, .ref g9, .int 0, .int 0])), (g5, .inr (5, [.ref g18, .int 0]))] := hD
      obtain rfl := hw_7
      exact gz_iret (cf := (fun (u : Unit) => [])) (post := (fun (r : Int32) (u : Unit) => (r = 0 ∧ (0 ≤ Xx ∧ Xx < 6 ∧ 0 ≤ Xt ∧ Xt ≤ 3)) ∨ (r = (-1) ∧ (¬ (0 ≤ Xx ∧ Xx < 6 ∧ 0 ≤ Xt ∧ Xt ≤ 3))))) hx hb hr hlocks hK hP hD hS () [] rfl (Or.inl (⟨rfl, by omega⟩)) (by decide) rfl (Nat.le_of_ble_eq_true rfl) (Nat.le_of_ble_eq_true rfl) dX9_judge_89
    · refine lv_tableIn (tgt := 90) hx hb dX9_judge_11 (by omega) (by omega) (by rw [h_2]; rfl) (by decide) ?_
      refine lv_aload_n hx hb dX9_judge_90 rfl (lv_at hl 0 rfl) ?_
      refine lv_iload_n hx hb dX9_judge_91 rfl (lv_at hl 1 rfl) ?_
      refine lv_iload_n hx hb dX9_judge_92 rfl (lv_at hl 2 rfl) ?_
      refine lv_iload_n hx hb dX9_judge_93 rfl (lv_at hl 3 rfl) ?_
      refine lv_iload hx hb dX9_judge_94 (lv_at hl 4 rfl) ?_
      refine gz_afti (va_runV (As := [.int x, .int y, .int z, .int v]) (rest := []) ⟨hx, hb, hml, hown, hts⟩ (c_fine l G cy H.size h0 g0 g1 g2 g3 g4 g5 g6 g7 g8 g9 g18 x y z v x.toInt y.toInt z.toInt v.toInt rfl rfl rfl rfl) ⟨(gz_cb (n := 4) hts gm_684 gm_1 gm_687 ⟨by decide +kernel, by decide +kernel, by decide +kernel⟩ ⟨Nat.le_of_ble_eq_true rfl, Nat.le_of_ble_eq_true rfl⟩), hts _ gm_686, hts _ gs_22⟩ (gz_preV (ci := 9) (q0 := 0) hK hov hP hD [0, 1] (by decide) rfl rfl rfl) rfl rfl hl.1 rfl (lv_room (Nat.le_of_ble_eq_true rfl)) dX9_judge_96 ⟨Nat.le_of_ble_eq_true rfl, Nat.le_of_ble_eq_true rfl⟩) hP hD hS hA [0, 1] [] rfl rfl (by decide) (by decide) (fun r_8 u_8 H locs hw_8 hP hD hS => ?_)
      have hP : va_P G vwCl [(h0, .inr (9, [.ref g0, .ref g1, .ref g2, .ref g3, .ref g4, .ref g5, .ref g6, .ref g7, .ref g8, .ref g9, .int 0, .int 0])), (g5, .inr (5, [.ref g18, .int 0]))] H := hP
      have hD : va_D A [(h0, .inr (9, [.ref g0, .ref g1, .ref g2, .ref g3, .ref g4, .ref g5, .ref g6, .ref g7, .ref g8, .ref g9, .int 0, .int 0])), (g5, .inr (5, [.ref g18, .int 0]))] := hD
      obtain rfl := hw_8
      exact gz_iret (cf := (fun (u : Unit) => [])) (post := (fun (r : Int32) (u : Unit) => (r = 0 ∧ (0 ≤ Xx ∧ Xx < 6 ∧ 0 ≤ Xt ∧ Xt ≤ 3)) ∨ (r = (-1) ∧ (¬ (0 ≤ Xx ∧ Xx < 6 ∧ 0 ≤ Xt ∧ Xt ≤ 3))))) hx hb hr hlocks hK hP hD hS () [] rfl (Or.inl (⟨rfl, by omega⟩)) (by decide) rfl (Nat.le_of_ble_eq_true rfl) (Nat.le_of_ble_eq_true rfl) dX9_judge_99
  · skip
    refine lv_if_ne (tgt := 9) hx hb dX9_judge_4 (by decide) (fun h9 => absurd (by decide) h9) (fun _ => ?_)
    refine lv_iconst (v := (-1)) hx hb dX9_judge_7 (by decide) ?_
    exact gz_iret (cf := (fun (u : Unit) => [])) (post := (fun (r : Int32) (u : Unit) => (r = 0 ∧ (0 ≤ Xx ∧ Xx < 6 ∧ 0 ≤ Xt ∧ Xt ≤ 3)) ∨ (r = (-1) ∧ (¬ (0 ≤ Xx ∧ Xx < 6 ∧ 0 ≤ Xt ∧ Xt ≤ 3))))) hx hb hr hlocks hK hP hD hS () [] rfl (Or.inr (⟨rfl, by omega⟩)) (by decide) rfl (Nat.le_of_ble_eq_true rfl) (Nat.le_of_ble_eq_true rfl) dX9_judge_8

set_option maxHeartbeats 4000000 in
set_option maxRecDepth 100000 in
/-- WellCourt.herd -/
theorem c_herd (l : Launch) (G : va_G) (cy : Nat → ClassId) (sz : Nat) (h0 : Nat) (g0 : Nat) (g1 : Nat) (g2 : Nat) (g3 : Nat) (g4 : Nat) (g5 : Nat) (g6 : Nat) (g7 : Nat) (g8 : Nat) (g9 : Nat) (g11 : Nat) (g12 : Nat) (g13 : Nat) (x : Int32) (y : Int32) (z : Int32) (v : Int32) (t : Int32) (Xx : Int) (Xy : Int) (Xz : Int) (Xv : Int) (Xt : Int) (kx : x.toInt = Xx) (ky : y.toInt = Xy) (kz : z.toInt = Xz) (kv : v.toInt = Xv) (kt : t.toInt = Xt)  : gMi l yX9_herd cX9_herd 6 (some .boolean) ({ frames := 2, cells := 0, slots := 0, locals := 42 }) G cy sz [.ref h0, .int x, .int y, .int z, .int v, .int t] [(h0, .inr (9, [.ref g0, .ref g1, .ref g2, .ref g3, .ref g4, .ref g5, .ref g6, .ref g7, .ref g8, .ref g9, .int 0, .int 0])), (g2, .inr (3, [.ref g11, .ref g12, .ref g13])), (g11, .inl (cy 0, 6, .inl (fun _ => 0)))] (fun (r : Int32) (u : Unit) => r = 0) (fun (u : Unit) => []) := by
  refine gz_start (fun A => gQi G cy _ _ A) (by decide) (Nat.le_of_ble_eq_true rfl) ?_
  intro p e s m below meth c A ls H hx hb hr hml hlocks hin hown hts hK hov hsz hP hD hS hA hl
  have hl : lv_has ls 6 [(0, .ref h0), (1, .int x), (2, .int y), (3, .int z), (4, .int v), (5, .int t)] := hl
  refine lv_iload_n hx hb dX9_herd_0 rfl (lv_at hl 1 rfl) ?_
  refine gz_afti (va_runS (As := [.int x]) (rest := []) ⟨hx, hb, hml, hown, hts⟩ (c_isHerd l G cy H.size x x.toInt rfl) ⟨(gz_cb (n := 1) hts gm_693 gm_1 gm_695 ⟨by decide +kernel, by decide +kernel, by decide +kernel⟩ ⟨Nat.le_of_ble_eq_true rfl, Nat.le_of_ble_eq_true rfl⟩), hts _ gm_694⟩ (gz_preS hK hov hP hD [] (by decide) rfl) rfl rfl hl.1 rfl (lv_room (Nat.le_of_ble_eq_true rfl)) dX9_herd_1 ⟨Nat.le_of_ble_eq_true rfl, Nat.le_of_ble_eq_true rfl⟩) hP hD hS hA [] [0, 1, 2] rfl rfl (by decide) (by decide) (fun r_1 u_1 H locs hw_1 hP hD hS => ?_)
  have hP : va_P G vwCl [(h0, .inr (9, [.ref g0, .ref g1, .ref g2, .ref g3, .ref g4, .ref g5, .ref g6, .ref g7, .ref g8, .ref g9, .int 0, .int 0])), (g2, .inr (3, [.ref g11, .ref g12, .ref g13])), (g11, .inl (cy 0, 6, .inl (fun _ => 0)))] H := hP
  have hD : va_D A [(h0, .inr (9, [.ref g0, .ref g1, .ref g2, .ref g3, .ref g4, .ref g5, .ref g6, .ref g7, .ref g8, .ref g9, .int 0, .int 0])), (g2, .inr (3, [.ref g11, .ref g12, .ref g13])), (g11, .inl (cy 0, 6, .inl (fun _ => 0)))] := hD
  rcases hw_1 with ⟨rfl, hw_1_0, hw_1_1⟩ | ⟨rfl, hw_1_0⟩
  · skip
    refine lv_if_eq (tgt := 23) hx hb dX9_herd_4 (by decide) (fun h9 => absurd h9 (by decide)) (fun _ => ?_)
    refine lv_iload_n hx hb dX9_herd_7 rfl (lv_at hl 2 rfl) ?_
    refine gz_afti (va_runS (As := [.int y]) (rest := []) ⟨hx, hb, hml, hown, hts⟩ (c_isClan l G cy H.size y y.toInt rfl) ⟨(gz_cb (n := 1) hts gm_600 gm_1 gm_487 ⟨by decide +kernel, by decide +kernel, by decide +kernel⟩ ⟨Nat.le_of_ble_eq_true rfl, Nat.le_of_ble_eq_true rfl⟩), hts _ gm_486⟩ (gz_preS hK hov hP hD [] (by decide) rfl) rfl rfl hl.1 rfl (lv_room (Nat.le_of_ble_eq_true rfl)) dX9_herd_8 ⟨Nat.le_of_ble_eq_true rfl, Nat.le_of_ble_eq_true rfl⟩) hP hD hS hA [] [0, 1, 2] rfl rfl (by decide) (by decide) (fun r_2 u_2 H locs hw_2 hP hD hS => ?_)
    have hP : va_P G vwCl [(h0, .inr (9, [.ref g0, .ref g1, .ref g2, .ref g3, .ref g4, .ref g5, .ref g6, .ref g7, .ref g8, .ref g9, .int 0, .int 0])), (g2, .inr (3, [.ref g11, .ref g12, .ref g13])), (g11, .inl (cy 0, 6, .inl (fun _ => 0)))] H := hP
    have hD : va_D A [(h0, .inr (9, [.ref g0, .ref g1, .ref g2, .ref g3, .ref g4, .ref g5, .ref g6, .ref g7, .ref g8, .ref g9, .int 0, .int 0])), (g2, .inr (3, [.ref g11, .ref g12, .ref g13])), (g11, .inl (cy 0, 6, .inl (fun _ => 0)))] := hD
    rcases hw_2 with ⟨rfl, hw_2_0, hw_2_1⟩ | ⟨rfl, hw_2_0⟩
    · skip
      refine lv_if_eq (tgt := 23) hx hb dX9_herd_11 (by decide) (fun h9 => absurd h9 (by decide)) (fun _ => ?_)
      refine lv_aload_n hx hb dX9_herd_14 rfl (lv_at hl 0 rfl) ?_
      refine lv_iload hx hb dX9_herd_15 (lv_at hl 5 rfl) ?_
      refine gz_afti (va_runV (As := [.int t]) (rest := []) ⟨hx, hb, hml, hown, hts⟩ (c_isWellThere l G cy H.size h0 g0 g1 g2 g3 g4 g5 g6 g7 g8 g9 g11 g12 g13 t t.toInt rfl) ⟨(gz_cb (n := 1) hts gm_587 gm_1 gm_590 ⟨by decide +kernel, by decide +kernel, by decide +kernel⟩ ⟨Nat.le_of_ble_eq_true rfl, Nat.le_of_ble_eq_true rfl⟩), hts _ gm_589, hts _ gs_17⟩ (gz_preV (ci := 9) (q0 := 0) hK hov hP hD [0, 1, 2] (by decide) rfl rfl rfl) rfl rfl hl.1 rfl (lv_room (Nat.le_of_ble_eq_true rfl)) dX9_herd_17 ⟨Nat.le_of_ble_eq_true rfl, Nat.le_of_ble_eq_true rfl⟩) hP hD hS hA [0, 1, 2] [] rfl rfl (by decide) (by decide) (fun r_3 u_3 H locs hw_3 hP hD hS => ?_)
      have hP : va_P G vwCl [(h0, .inr (9, [.ref g0, .ref g1, .ref g2, .ref g3, .ref g4, .ref g5, .ref g6, .ref g7, .ref g8, .ref g9, .int 0, .int 0])), (g2, .inr (3, [.ref g11, .ref g12, .ref g13])), (g11, .inl (cy 0, 6, .inl (fun _ => 0)))] H := hP
      have hD : va_D A [(h0, .inr (9, [.ref g0, .ref g1, .ref g2, .ref g3, .ref g4, .ref g5, .ref g6, .ref g7, .ref g8, .ref g9, .int 0, .int 0])), (g2, .inr (3, [.ref g11, .ref g12, .ref g13])), (g11, .inl (cy 0, 6, .inl (fun _ => 0)))] := hD
      obtain rfl := hw_3
      refine lv_if_ne (tgt := 25) hx hb dX9_herd_20 (by decide) (fun h9 => absurd (by decide) h9) (fun _ => ?_)
      refine lv_iconst (v := 0) hx hb dX9_herd_23 (by decide) ?_
      exact gz_iret (cf := (fun (u : Unit) => [])) (post := (fun (r : Int32) (u : Unit) => r = 0)) hx hb hr hlocks hK hP hD hS () [] (by decide) rfl (by decide) rfl (Nat.le_of_ble_eq_true rfl) (Nat.le_of_ble_eq_true rfl) dX9_herd_24
    · skip
      refine lv_if_eq (tgt := 23) hx hb dX9_herd_11 (by decide) (fun _ => ?_) (fun h9 => absurd (by decide) h9)
      refine lv_iconst (v := 0) hx hb dX9_herd_23 (by decide) ?_
      exact gz_iret (cf := (fun (u : Unit) => [])) (post := (fun (r : Int32) (u : Unit) => r = 0)) hx hb hr hlocks hK hP hD hS () [] (by decide) rfl (by decide) rfl (Nat.le_of_ble_eq_true rfl) (Nat.le_of_ble_eq_true rfl) dX9_herd_24
  · skip
    refine lv_if_eq (tgt := 23) hx hb dX9_herd_4 (by decide) (fun _ => ?_) (fun h9 => absurd (by decide) h9)
    refine lv_iconst (v := 0) hx hb dX9_herd_23 (by decide) ?_
    exact gz_iret (cf := (fun (u : Unit) => [])) (post := (fun (r : Int32) (u : Unit) => r = 0)) hx hb hr hlocks hK hP hD hS () [] (by decide) rfl (by decide) rfl (Nat.le_of_ble_eq_true rfl) (Nat.le_of_ble_eq_true rfl) dX9_herd_24

set_option maxHeartbeats 4000000 in
set_option maxRecDepth 100000 in
/-- WellCourt.drop -/
theorem c_drop (l : Launch) (G : va_G) (cy : Nat → ClassId) (sz : Nat) (h0 : Nat) (g0 : Nat) (g1 : Nat) (g2 : Nat) (g3 : Nat) (g4 : Nat) (g5 : Nat) (g6 : Nat) (g7 : Nat) (g8 : Nat) (g9 : Nat) (g19 : Nat) (g20 : Nat) (g21 : Nat) (g22 : Nat) (g23 : Nat) (x : Int32) (Xx : Int) (kx : x.toInt = Xx)  : gMi l yX9_drop cX9_drop 2 (some .boolean) ({ frames := 1, cells := 0, slots := 0, locals := 21 }) G cy sz [.ref h0, .int x] [(h0, .inr (9, [.ref g0, .ref g1, .ref g2, .ref g3, .ref g4, .ref g5, .ref g6, .ref g7, .ref g8, .ref g9, .int 0, .int 0])), (g6, .inr (2, [.ref g19, .ref g20, .ref g21, .ref g22, .ref g23])), (g19, .inl (cy 0, 4, .inl (fun _ => (-1))))] (fun (r : Int32) (u : Unit) => r = 0) (fun (u : Unit) => []) := by
  refine gz_start (fun A => gQi G cy _ _ A) (by decide) (Nat.le_of_ble_eq_true rfl) ?_
  intro p e s m below meth c A ls H hx hb hr hml hlocks hin hown hts hK hov hsz hP hD hS hA hl
  have hl : lv_has ls 2 [(0, .ref h0), (1, .int x)] := hl
  refine lv_iload_n hx hb dX9_drop_0 rfl (lv_at hl 1 rfl) ?_
  refine gz_afti (va_runS (As := [.int x]) (rest := []) ⟨hx, hb, hml, hown, hts⟩ (c_isHerd l G cy H.size x x.toInt rfl) ⟨(gz_cb (n := 1) hts gm_693 gm_1 gm_695 ⟨by decide +kernel, by decide +kernel, by decide +kernel⟩ ⟨Nat.le_of_ble_eq_true rfl, Nat.le_of_ble_eq_true rfl⟩), hts _ gm_694⟩ (gz_preS hK hov hP hD [] (by decide) rfl) rfl rfl hl.1 rfl (lv_room (Nat.le_of_ble_eq_true rfl)) dX9_drop_1 ⟨Nat.le_of_ble_eq_true rfl, Nat.le_of_ble_eq_true rfl⟩) hP hD hS hA [] [0, 1, 2] rfl rfl (by decide) (by decide) (fun r_1 u_1 H locs hw_1 hP hD hS => ?_)
  have hP : va_P G vwCl [(h0, .inr (9, [.ref g0, .ref g1, .ref g2, .ref g3, .ref g4, .ref g5, .ref g6, .ref g7, .ref g8, .ref g9, .int 0, .int 0])), (g6, .inr (2, [.ref g19, .ref g20, .ref g21, .ref g22, .ref g23])), (g19, .inl (cy 0, 4, .inl (fun _ => (-1))))] H := hP
  have hD : va_D A [(h0, .inr (9, [.ref g0, .ref g1, .ref g2, .ref g3, .ref g4, .ref g5, .ref g6, .ref g7, .ref g8, .ref g9, .int 0, .int 0])), (g6, .inr (2, [.ref g19, .ref g20, .ref g21, .ref g22, .ref g23])), (g19, .inl (cy 0, 4, .inl (fun _ => (-1))))] := hD
  rcases hw_1 with ⟨rfl, hw_1_0, hw_1_1⟩ | ⟨rfl, hw_1_0⟩
  · skip
    refine lv_if_eq (tgt := 18) hx hb dX9_drop_4 (by decide) (fun h9 => absurd h9 (by decide)) (fun _ => ?_)
    refine lv_aload_n hx hb dX9_drop_7 rfl (lv_at hl 0 rfl) ?_
    refine va_get (ci := 9) (v := .ref g6) (C := RX9) (T := TX9) (N := 12) hx hb hts inX9 hown hK hP 0 rfl rfl 6 (by decide) (hts _ gm_297) (fun _ h9 => h9) rfl dX9_drop_8 ?_
    refine lv_iload_n hx hb dX9_drop_11 rfl (lv_at hl 1 rfl) ?_
    refine gz_afti (va_runV (As := [.int x]) (rest := []) ⟨hx, hb, hml, hown, hts⟩ (c_X2_isThere l G cy H.size g6 g19 g20 g21 g22 g23 x x.toInt rfl (by first | decide | omega) (by first | decide | omega)) ⟨(gz_cb (n := 1) hts gm_704 gm_9 gm_707 ⟨by decide +kernel, by decide +kernel, by decide +kernel⟩ ⟨Nat.le_of_ble_eq_true rfl, Nat.le_of_ble_eq_true rfl⟩), hts _ gm_705, hts _ gm_706⟩ (gz_preV (ci := 2) (q0 := 0) hK hov hP hD [1, 2] (by decide) rfl rfl rfl) rfl rfl hl.1 rfl (lv_room (Nat.le_of_ble_eq_true rfl)) dX9_drop_12 ⟨Nat.le_of_ble_eq_true rfl, Nat.le_of_ble_eq_true rfl⟩) hP hD hS hA [1, 2] [0] rfl rfl (by decide) (by decide) (fun r_2 u_2 H locs hw_2 hP hD hS => ?_)
    have hP : va_P G vwCl [(h0, .inr (9, [.ref g0, .ref g1, .ref g2, .ref g3, .ref g4, .ref g5, .ref g6, .ref g7, .ref g8, .ref g9, .int 0, .int 0])), (g6, .inr (2, [.ref g19, .ref g20, .ref g21, .ref g22, .ref g23])), (g19, .inl (cy 0, 4, .inl (fun _ => (-1))))] H := hP
    have hD : va_D A [(h0, .inr (9, [.ref g0, .ref g1, .ref g2, .ref g3, .ref g4, .ref g5, .ref g6, .ref g7, .ref g8, .ref g9, .int 0, .int 0])), (g6, .inr (2, [.ref g19, .ref g20, .ref g21, .ref g22, .ref g23])), (g19, .inl (cy 0, 4, .inl (fun _ => (-1))))] := hD
    obtain rfl := hw_2
    refine lv_if_ne (tgt := 20) hx hb dX9_drop_15 (by decide) (fun h9 => absurd (by decide) h9) (fun _ => ?_)
    refine lv_iconst (v := 0) hx hb dX9_drop_18 (by decide) ?_
    exact gz_iret (cf := (fun (u : Unit) => [])) (post := (fun (r : Int32) (u : Unit) => r = 0)) hx hb hr hlocks hK hP hD hS () [] (by decide) rfl (by decide) rfl (Nat.le_of_ble_eq_true rfl) (Nat.le_of_ble_eq_true rfl) dX9_drop_19
  · skip
    refine lv_if_eq (tgt := 18) hx hb dX9_drop_4 (by decide) (fun _ => ?_) (fun h9 => absurd (by decide) h9)
    refine lv_iconst (v := 0) hx hb dX9_drop_18 (by decide) ?_
    exact gz_iret (cf := (fun (u : Unit) => [])) (post := (fun (r : Int32) (u : Unit) => r = 0)) hx hb hr hlocks hK hP hD hS () [] (by decide) rfl (by decide) rfl (Nat.le_of_ble_eq_true rfl) (Nat.le_of_ble_eq_true rfl) dX9_drop_19

set_option maxHeartbeats 4000000 in
set_option maxRecDepth 100000 in
/-- WellCourt.way -/
theorem c_way (l : Launch) (G : va_G) (cy : Nat → ClassId) (sz : Nat) (h0 : Nat) (g0 : Nat) (g1 : Nat) (g2 : Nat) (g3 : Nat) (g4 : Nat) (g5 : Nat) (g6 : Nat) (g7 : Nat) (g8 : Nat) (g9 : Nat) (g11 : Nat) (g12 : Nat) (g13 : Nat) (rW : Nat → Nat) (x : Int32) (y : Int32) (z : Int32) (Xx : Int) (Xy : Int) (Xz : Int) (kx : x.toInt = Xx) (ky : y.toInt = Xy) (kz : z.toInt = Xz) : gMi l yX9_way cX9_way 4 (some .boolean) ({ frames := 1, cells := 0, slots := 0, locals := 22 }) G cy sz [.ref h0, .int x, .int y, .int z] [(h0, .inr (9, [.ref g0, .ref g1, .ref g2, .ref g3, .ref g4, .ref g5, .ref g6, .ref g7, .ref g8, .ref g9, .int 0, .int 0])), (g2, .inr (3, [.ref g11, .ref g12, .ref g13])), (g13, .inl (cy 3, 6, .inr (.inr (.inr (.inr (fun i => if i < 6 then some (rW i) else none)))))), ((rW 0), .inl (cy 0, 6, .inl (fun _ => 0))), ((rW 1), .inl (cy 0, 6, .inl (fun _ => 0))), ((rW 2), .inl (cy 0, 6, .inl (fun _ => 0))), ((rW 3), .inl (cy 0, 6, .inl (fun _ => 0))), ((rW 4), .inl (cy 0, 6, .inl (fun _ => 0))), ((rW 5), .inl (cy 0, 6, .inl (fun _ => 0)))] (fun (r : Int32) (u : Unit) => (r = 1 ∧ (0 ≤ Xx ∧ Xx < 6 ∧ 0 ≤ Xy ∧ Xy < 6 ∧ ¬ Xx = Xy ∧ 0 ≤ Xz ∧ Xz ≤ 9)) ∨ (r = 0 ∧ (¬ (0 ≤ Xx ∧ Xx < 6 ∧ 0 ≤ Xy ∧ Xy < 6 ∧ ¬ Xx = Xy ∧ 0 ≤ Xz ∧ Xz ≤ 9)))) (fun (u : Unit) => []) := by
  refine gz_start (fun A => gQi G cy _ _ A) (by decide) (Nat.le_of_ble_eq_true rfl) ?_
  intro p e s m below meth c A ls H hx hb hr hml hlocks hin hown hts hK hov hsz hP hD hS hA hl
  have hl : lv_has ls 4 [(0, .ref h0), (1, .int x), (2, .int y), (3, .int z)] := hl
  refine lv_iload_n hx hb dX9_way_0 rfl (lv_at hl 1 rfl) ?_
  refine gz_afti (va_runS (As := [.int x]) (rest := []) ⟨hx, hb, hml, hown, hts⟩ (c_isWell l G cy H.size x x.toInt rfl) ⟨(gz_cb (n := 1) hts gm_344 gm_1 gm_346 ⟨by decide +kernel, by decide +kernel, by decide +kernel⟩ ⟨Nat.le_of_ble_eq_true rfl, Nat.le_of_ble_eq_true rfl⟩), hts _ gm_345⟩ (gz_preS hK hov hP hD [] (by decide) rfl) rfl rfl hl.1 rfl (lv_room (Nat.le_of_ble_eq_true rfl)) dX9_way_1 ⟨Nat.le_of_ble_eq_true rfl, Nat.le_of_ble_eq_true rfl⟩) hP hD hS hA [] [0, 1, 2, 3, 4, 5, 6, 7, 8] rfl rfl (by decide) (by decide) (fun r_1 u_1 H locs hw_1 hP hD hS => ?_)
  have hP : va_P G vwCl [(h0, .inr (9, [.ref g0, .ref g1, .ref g2, .ref g3, .ref g4, .ref g5, .ref g6, .ref g7, .ref g8, .ref g9, .int 0, .int 0])), (g2, .inr (3, [.ref g11, .ref g12, .ref g13])), (g13, .inl (cy 3, 6, .inr (.inr (.inr (.inr (fun i => if i < 6 then some (rW i) else none)))))), ((rW 0), .inl (cy 0, 6, .inl (fun _ => 0))), ((rW 1), .inl (cy 0, 6, .inl (fun _ => 0))), ((rW 2), .inl (cy 0, 6, .inl (fun _ => 0))), ((rW 3), .inl (cy 0, 6, .inl (fun _ => 0))), ((rW 4), .inl (cy 0, 6, .inl (fun _ => 0))), ((rW 5), .inl (cy 0, 6, .inl (fun _ => 0)))] H := hP
  have hD : va_D A [(h0, .inr (9, [.ref g0, .ref g1, .ref g2, .ref g3, .ref g4, .ref g5, .ref g6, .ref g7, .ref g8, .ref g9, .int 0, .int 0])), (g2, .inr (3, [.ref g11, .ref g12, .ref g13])), (g13, .inl (cy 3, 6, .inr (.inr (.inr (.inr (fun i => if i < 6 then some (rW i) else none)))))), ((rW 0), .inl (cy 0, 6, .inl (fun _ => 0))), ((rW 1), .inl (cy 0, 6, .inl (fun _ => 0))), ((rW 2), .inl (cy 0, 6, .inl (fun _ => 0))), ((rW 3), .inl (cy 0, 6, .inl (fun _ => 0))), ((rW 4), .inl (cy 0, 6, .inl (fun _ => 0))), ((rW 5), .inl (cy 0, 6, .inl (fun _ => 0)))] := hD
  rcases hw_1 with ⟨rfl, hw_1_0, hw_1_1⟩ | ⟨rfl, hw_1_0⟩
  · skip
    refine lv_if_eq (tgt := 29) hx hb dX9_way_4 (by decide) (fun h9 => absurd h9 (by decide)) (fun _ => ?_)
    refine lv_iload_n hx hb dX9_way_7 rfl (lv_at hl 2 rfl) ?_
    refine gz_afti (va_runS (As := [.int y]) (rest := []) ⟨hx, hb, hml, hown, hts⟩ (c_isWell l G cy H.size y y.toInt rfl) ⟨(gz_cb (n := 1) hts gm_344 gm_1 gm_346 ⟨by decide +kernel, by decide +kernel, by decide +kernel⟩ ⟨Nat.le_of_ble_eq_true rfl, Nat.le_of_ble_eq_true rfl⟩), hts _ gm_345⟩ (gz_preS hK hov hP hD [] (by decide) rfl) rfl rfl hl.1 rfl (lv_room (Nat.le_of_ble_eq_true rfl)) dX9_way_8 ⟨Nat.le_of_ble_eq_true rfl, Nat.le_of_ble_eq_true rfl⟩) hP hD hS hA [] [0, 1, 2, 3, 4, 5, 6, 7, 8] rfl rfl (by decide) (by decide) (fun r_2 u_2 H locs hw_2 hP hD hS => ?_)
    have hP : va_P G vwCl [(h0, .inr (9, [.ref g0, .ref g1, .ref g2, .ref g3, .ref g4, .ref g5, .ref g6, .ref g7, .ref g8, .ref g9, .int 0, .int 0])), (g2, .inr (3, [.ref g11, .ref g12, .ref g13])), (g13, .inl (cy 3, 6, .inr (.inr (.inr (.inr (fun i => if i < 6 then some (rW i) else none)))))), ((rW 0), .inl (cy 0, 6, .inl (fun _ => 0))), ((rW 1), .inl (cy 0, 6, .inl (fun _ => 0))), ((rW 2), .inl (cy 0, 6, .inl (fun _ => 0))), ((rW 3), .inl (cy 0, 6, .inl (fun _ => 0))), ((rW 4), .inl (cy 0, 6, .inl (fun _ => 0))), ((rW 5), .inl (cy 0, 6, .inl (fun _ => 0)))] H := hP
    have hD : va_D A [(h0, .inr (9, [.ref g0, .ref g1, .ref g2, .ref g3, .ref g4, .ref g5, .ref g6, .ref g7, .ref g8, .ref g9, .int 0, .int 0])), (g2, .inr (3, [.ref g11, .ref g12, .ref g13])), (g13, .inl (cy 3, 6, .inr (.inr (.inr (.inr (fun i => if i < 6 then some (rW i) else none)))))), ((rW 0), .inl (cy 0, 6, .inl (fun _ => 0))), ((rW 1), .inl (cy 0, 6, .inl (fun _ => 0))), ((rW 2), .inl (cy 0, 6, .inl (fun _ => 0))), ((rW 3), .inl (cy 0, 6, .inl (fun _ => 0))), ((rW 4), .inl (cy 0, 6, .inl (fun _ => 0))), ((rW 5), .inl (cy 0, 6, .inl (fun _ => 0)))] := hD
    rcases hw_2 with ⟨rfl, hw_2_0, hw_2_1⟩ | ⟨rfl, hw_2_0⟩
    · skip
      refine lv_if_eq (tgt := 29) hx hb dX9_way_11 (by decide) (fun h9 => absurd h9 (by decide)) (fun _ => ?_)
      refine lv_iload_n hx hb dX9_way_14 rfl (lv_at hl 1 rfl) ?_
      refine lv_iload_n hx hb dX9_way_15 rfl (lv_at hl 2 rfl) ?_
      refine lv_icmp_eq (tgt := 29) hx hb dX9_way_16 (by decide) (fun c_3 => ?_) (fun c_3 => ?_)
      · have ic_3 := gz_eq (rfl : x.toInt = x.toInt) (rfl : y.toInt = y.toInt) c_3
        refine lv_iconst (v := 0) hx hb dX9_way_29 (by decide) ?_
        exact gz_iret (cf := (fun (u : Unit) => [])) (post := (fun (r : Int32) (u : Unit) => (r = 1 ∧ (0 ≤ Xx ∧ Xx < 6 ∧ 0 ≤ Xy ∧ Xy < 6 ∧ ¬ Xx = Xy ∧ 0 ≤ Xz ∧ Xz ≤ 9)) ∨ (r = 0 ∧ (¬ (0 ≤ Xx ∧ Xx < 6 ∧ 0 ≤ Xy ∧ Xy < 6 ∧ ¬ Xx = Xy ∧ 0 ≤ Xz ∧ Xz ≤ 9))))) hx hb hr hlocks hK hP hD hS () [] (by decide) (Or.inr (⟨rfl, by omega⟩)) (by decide) rfl (Nat.le_of_ble_eq_true rfl) (Nat.le_of_ble_eq_true rfl) dX9_way_30
      · have ic_3 := gz_ne (rfl : x.toInt = x.toInt) (rfl : y.toInt = y.toInt) c_3
        refine lv_iload_n hx hb dX9_way_19 rfl (lv_at hl 3 rfl) ?_
        refine lv_iconst (v := 0) hx hb dX9_way_20 (by decide) ?_
        refine lv_bipush (v := 9) hx hb dX9_way_21 (by decide) ?_
        refine gz_afti (va_runS (As := [.int z, .int 0, .int 9]) (rest := []) ⟨hx, hb, hml, hown, hts⟩ (c_isWithin l G cy H.size z 0 9 z.toInt 0 9 rfl (by decide) (by decide)) ⟨(gz_cb (n := 3) hts gm_351 gm_1 gm_353 ⟨by decide +kernel, by decide +kernel, by decide +kernel⟩ ⟨Nat.le_of_ble_eq_true rfl, Nat.le_of_ble_eq_true rfl⟩), hts _ gm_352⟩ (gz_preS hK hov hP hD [] (by decide) rfl) rfl rfl hl.1 rfl (lv_room (Nat.le_of_ble_eq_true rfl)) dX9_way_23 ⟨Nat.le_of_ble_eq_true rfl, Nat.le_of_ble_eq_true rfl⟩) hP hD hS hA [] [0, 1, 2, 3, 4, 5, 6, 7, 8] rfl rfl (by decide) (by decide) (fun r_4 u_4 H locs hw_4 hP hD hS => ?_)
        have hP : va_P G vwCl [(h0, .inr (9, [.ref g0, .ref g1, .ref g2, .ref g3, .ref g4, .ref g5, .ref g6, .ref g7, .ref g8, .ref g9, .int 0, .int 0])), (g2, .inr (3, [.ref g11, .ref g12, .ref g13])), (g13, .inl (cy 3, 6, .inr (.inr (.inr (.inr (fun i => if i < 6 then some (rW i) else none)))))), ((rW 0), .inl (cy 0, 6, .inl (fun _ => 0))), ((rW 1), .inl (cy 0, 6, .inl (fun _ => 0))), ((rW 2), .inl (cy 0, 6, .inl (fun _ => 0))), ((rW 3), .inl (cy 0, 6, .inl (fun _ => 0))), ((rW 4), .inl (cy 0, 6, .inl (fun _ => 0))), ((rW 5), .inl (cy 0, 6, .inl (fun _ => 0)))] H := hP
        have hD : va_D A [(h0, .inr (9, [.ref g0, .ref g1, .ref g2, .ref g3, .ref g4, .ref g5, .ref g6, .ref g7, .ref g8, .ref g9, .int 0, .int 0])), (g2, .inr (3, [.ref g11, .ref g12, .ref g13])), (g13, .inl (cy 3, 6, .inr (.inr (.inr (.inr (fun i => if i < 6 then some (rW i) else none)))))), ((rW 0), .inl (cy 0, 6, .inl (fun _ => 0))), ((rW 1), .inl (cy 0, 6, .inl (fun _ => 0))), ((rW 2), .inl (cy 0, 6, .inl (fun _ => 0))), ((rW 3), .inl (cy 0, 6, .inl (fun _ => 0))), ((rW 4), .inl (cy 0, 6, .inl (fun _ => 0))), ((rW 5), .inl (cy 0, 6, .inl (fun _ => 0)))] := hD
        rcases hw_4 with ⟨rfl, hw_4_0, hw_4_1⟩ | ⟨rfl, hw_4_0⟩
        · skip
          refine lv_if_ne (tgt := 31) hx hb dX9_way_26 (by decide) (fun _ => ?_) (fun h9 => absurd h9 (by decide))
          refine lv_aload_n hx hb dX9_way_31 rfl (lv_at hl 0 rfl) ?_
          refine va_get (ci := 9) (v := .ref g2) (C := RX9) (T := TX9) (N := 12) hx hb hts inX9 hown hK hP 0 rfl rfl 2 (by decide) (hts _ gm_293) (fun _ h9 => h9) rfl dX9_way_32 ?_
          refine va_getN (host := "WellCourt") (ci := 3) (v := .ref g13) (C := RX3) (T := TX3) (N := 3) hx hb hts inX3 hown hK hP 1 rfl rfl 2 (by decide) (va_Nw.use rfl (hov.2.2 _ gn_90)) (fun _ h9 => h9) rfl dX9_way_35 ?_
          refine lv_iload_n hx hb dX9_way_38 rfl (lv_at hl 1 rfl) ?_
          rcases gz_six (w := x) (by omega) (by omega) with rfl | rfl | rfl | rfl | rfl | rfl
          · skip
            refine gz_alda hx hb hK hP 2 rfl (vp_in_iff.mpr (by decide)) dX9_way_39 (v := .ref (rW 0)) rfl ?_
            refine lv_iload_n hx hb dX9_way_40 rfl (lv_at hl 2 rfl) ?_
            refine lv_iload_n hx hb dX9_way_41 rfl (lv_at hl 3 rfl) ?_
            refine va_iast hx hb hK hP hD hS 3 0 rfl rfl (vp_in_iff.mpr ⟨by omega, by omega⟩) dX9_way_42 (fun H locs hP hD hS => ?_)
            obtain ⟨f_5, ef_5⟩ : ∃ g : Nat → Int32, g = upd (fun _ => 0) (y : Int32).toNatClampNeg z := ⟨_, rfl⟩
            have hP : va_P G vwCl [(h0, .inr (9, [.ref g0, .ref g1, .ref g2, .ref g3, .ref g4, .ref g5, .ref g6, .ref g7, .ref g8, .ref g9, .int 0, .int 0])), (g2, .inr (3, [.ref g11, .ref g12, .ref g13])), (g13, .inl (cy 3, 6, .inr (.inr (.inr (.inr (fun i => if i < 6 then some (rW i) else none)))))), ((rW 0), .inl (cy 0, 6, .inl f_5)), ((rW 1), .inl (cy 0, 6, .inl (fun _ => 0))), ((rW 2), .inl (cy 0, 6, .inl (fun _ => 0))), ((rW 3), .inl (cy 0, 6, .inl (fun _ => 0))), ((rW 4), .inl (cy 0, 6, .inl (fun _ => 0))), ((rW 5), .inl (cy 0, 6, .inl (fun _ => 0)))] H := ef_5 ▸ hP
            have hD : va_D A [(h0, .inr (9, [.ref g0, .ref g1, .ref g2, .ref g3, .ref g4, .ref g5, .ref g6, .ref g7, .ref g8, .ref g9, .int 0, .int 0])), (g2, .inr (3, [.ref g11, .ref g12, .ref g13])), (g13, .inl (cy 3, 6, .inr (.inr (.inr (.inr (fun i => if i < 6 then some (rW i) else none)))))), ((rW 0), .inl (cy 0, 6, .inl f_5)), ((rW 1), .inl (cy 0, 6, .inl (fun _ => 0))), ((rW 2), .inl (cy 0, 6, .inl (fun _ => 0))), ((rW 3), .inl (cy 0, 6, .inl (fun _ => 0))), ((rW 4), .inl (cy 0, 6, .inl (fun _ => 0))), ((rW 5), .inl (cy 0, 6, .inl (fun _ => 0)))] := ef_5 ▸ hD
            refine lv_iconst (v := 1) hx hb dX9_way_43 (by decide) ?_
            exact gz_iret (cf := (fun (u : Unit) => [])) (post := (fun (r : Int32) (u : Unit) => (r = 1 ∧ (0 ≤ Xx ∧ Xx < 6 ∧ 0 ≤ Xy ∧ Xy < 6 ∧ ¬ Xx = Xy ∧ 0 ≤ Xz ∧ Xz ≤ 9)) ∨ (r = 0 ∧ (¬ (0 ≤ Xx ∧ Xx < 6 ∧ 0 ≤ Xy ∧ Xy < 6 ∧ ¬ Xx = Xy ∧ 0 ≤ Xz ∧ Xz ≤ 9))))) hx hb hr hlocks hK hP hD hS () [] (by decide) (Or.inl (⟨rfl, by omega⟩)) (by decide) rfl (Nat.le_of_ble_eq_true rfl) (Nat.le_of_ble_eq_true rfl) dX9_way_44
          · skip
            refine gz_alda hx hb hK hP 2 rfl (vp_in_iff.mpr (by decide)) dX9_way_39 (v := .ref (rW 1)) rfl ?_
            refine lv_iload_n hx hb dX9_way_40 rfl (lv_at hl 2 rfl) ?_
            refine lv_iload_n hx hb dX9_way_41 rfl (lv_at hl 3 rfl) ?_
            refine va_iast hx hb hK hP hD hS 4 0 rfl rfl (vp_in_iff.mpr ⟨by omega, by omega⟩) dX9_way_42 (fun H locs hP hD hS => ?_)
            obtain ⟨f_6, ef_6⟩ : ∃ g : Nat → Int32, g = upd (fun _ => 0) (y : Int32).toNatClampNeg z := ⟨_, rfl⟩
            have hP : va_P G vwCl [(h0, .inr (9, [.ref g0, .ref g1, .ref g2, .ref g3, .ref g4, .ref g5, .ref g6, .ref g7, .ref g8, .ref g9, .int 0, .int 0])), (g2, .inr (3, [.ref g11, .ref g12, .ref g13])), (g13, .inl (cy 3, 6, .inr (.inr (.inr (.inr (fun i => if i < 6 then some (rW i) else none)))))), ((rW 0), .inl (cy 0, 6, .inl (fun _ => 0))), ((rW 1), .inl (cy 0, 6, .inl f_6)), ((rW 2), .inl (cy 0, 6, .inl (fun _ => 0))), ((rW 3), .inl (cy 0, 6, .inl (fun _ => 0))), ((rW 4), .inl (cy 0, 6, .inl (fun _ => 0))), ((rW 5), .inl (cy 0, 6, .inl (fun _ => 0)))] H := ef_6 ▸ hP
            have hD : va_D A [(h0, .inr (9, [.ref g0, .ref g1, .ref g2, .ref g3, .ref g4, .ref g5, .ref g6, .ref g7, .ref g8, .ref g9, .int 0, .int 0])), (g2, .inr (3, [.ref g11, .ref g12, .ref g13])), (g13, .inl (cy 3, 6, .inr (.inr (.inr (.inr (fun i => if i < 6 then some (rW i) else none)))))), ((rW 0), .inl (cy 0, 6, .inl (fun _ => 0))), ((rW 1), .inl (cy 0, 6, .inl f_6)), ((rW 2), .inl (cy 0, 6, .inl (fun _ => 0))), ((rW 3), .inl (cy 0, 6, .inl (fun _ => 0))), ((rW 4), .inl (cy 0, 6, .inl (fun _ => 0))), ((rW 5), .inl (cy 0, 6, .inl (fun _ => 0)))] := ef_6 ▸ hD
            refine lv_iconst (v := 1) hx hb dX9_way_43 (by decide) ?_
            exact gz_iret (cf := (fun (u : Unit) => [])) (post := (fun (r : Int32) (u : Unit) => (r = 1 ∧ (0 ≤ Xx ∧ Xx < 6 ∧ 0 ≤ Xy ∧ Xy < 6 ∧ ¬ Xx = Xy ∧ 0 ≤ Xz ∧ Xz ≤ 9)) ∨ (r = 0 ∧ (¬ (0 ≤ Xx ∧ Xx < 6 ∧ 0 ≤ Xy ∧ Xy < 6 ∧ ¬ Xx = Xy ∧ 0 ≤ Xz ∧ Xz ≤ 9))))) hx hb hr hlocks hK hP hD hS () [] (by decide) (Or.inl (⟨rfl, by omega⟩)) (by decide) rfl (Nat.le_of_ble_eq_true rfl) (Nat.le_of_ble_eq_true rfl) dX9_way_44
          · skip
            refine gz_alda hx hb hK hP 2 rfl (vp_in_iff.mpr (by decide)) dX9_way_39 (v := .ref (rW 2)) rfl ?_
            refine lv_iload_n hx hb dX9_way_40 rfl (lv_at hl 2 rfl) ?_
            refine lv_iload_n hx hb dX9_way_41 rfl (lv_at hl 3 rfl) ?_
            refine va_iast hx hb hK hP hD hS 5 0 rfl rfl (vp_in_iff.mpr ⟨by omega, by omega⟩) dX9_way_42 (fun H locs hP hD hS => ?_)
            obtain ⟨f_7, ef_7⟩ : ∃ g : Nat → Int32, g = upd (fun _ => 0) (y : Int32).toNatClampNeg z := ⟨_, rfl⟩
            have hP : va_P G vwCl [(h0, .inr (9, [.ref g0, .ref g1, .ref g2, .ref g3, .ref g4, .ref g5, .ref g6, .ref g7, .ref g8, .ref g9, .int 0, .int 0])), (g2, .inr (3, [.ref g11, .ref g12, .ref g13])), (g13, .inl (cy 3, 6, .inr (.inr (.inr (.inr (fun i => if i < 6 then some (rW i) else none)))))), ((rW 0), .inl (cy 0, 6, .inl (fun _ => 0))), ((rW 1), .inl (cy 0, 6, .inl (fun _ => 0))), ((rW 2), .inl (cy 0, 6, .inl f_7)), ((rW 3), .inl (cy 0, 6, .inl (fun _ => 0))), ((rW 4), .inl (cy 0, 6, .inl (fun _ => 0))), ((rW 5), .inl (cy 0, 6, .inl (fun _ => 0)))] H := ef_7 ▸ hP
            have hD : va_D A [(h0, .inr (9, [.ref g0, .ref g1, .ref g2, .ref g3, .ref g4, .ref g5, .ref g6, .ref g7, .ref g8, .ref g9, .int 0, .int 0])), (g2, .inr (3, [.ref g11, .ref g12, .ref g13])), (g13, .inl (cy 3, 6, .inr (.inr (.inr (.inr (fun i => if i < 6 then some (rW i) else none)))))), ((rW 0), .inl (cy 0, 6, .inl (fun _ => 0))), ((rW 1), .inl (cy 0, 6, .inl (fun _ => 0))), ((rW 2), .inl (cy 0, 6, .inl f_7)), ((rW 3), .inl (cy 0, 6, .inl (fun _ => 0))), ((rW 4), .inl (cy 0, 6, .inl (fun _ => 0))), ((rW 5), .inl (cy 0, 6, .inl (fun _ => 0)))] := ef_7 ▸ hD
            refine lv_iconst (v := 1) hx hb dX9_way_43 (by decide) ?_
            exact gz_iret (cf := (fun (u : Unit) => [])) (post := (fun (r : Int32) (u : Unit) => (r = 1 ∧ (0 ≤ Xx ∧ Xx < 6 ∧ 0 ≤ Xy ∧ Xy < 6 ∧ ¬ Xx = Xy ∧ 0 ≤ Xz ∧ Xz ≤ 9)) ∨ (r = 0 ∧ (¬ (0 ≤ Xx ∧ Xx < 6 ∧ 0 ≤ Xy ∧ Xy < 6 ∧ ¬ Xx = Xy ∧ 0 ≤ Xz ∧ Xz ≤ 9))))) hx hb hr hlocks hK hP hD hS () [] (by decide) (Or.inl (⟨rfl, by omega⟩)) (by decide) rfl (Nat.le_of_ble_eq_true rfl) (Nat.le_of_ble_eq_true rfl) dX9_way_44
          · skip
            refine gz_alda hx hb hK hP 2 rfl (vp_in_iff.mpr (by decide)) dX9_way_39 (v := .ref (rW 3)) rfl ?_
            refine lv_iload_n hx hb dX9_way_40 rfl (lv_at hl 2 rfl) ?_
            refine lv_iload_n hx hb dX9_way_41 rfl (lv_at hl 3 rfl) ?_
            refine va_iast hx hb hK hP hD hS 6 0 rfl rfl (vp_in_iff.mpr ⟨by omega, by omega⟩) dX9_way_42 (fun H locs hP hD hS => ?_)
            obtain ⟨f_8, ef_8⟩ : ∃ g : Nat → Int32, g = upd (fun _ => 0) (y : Int32).toNatClampNeg z := ⟨_, rfl⟩
            have hP : va_P G vwCl [(h0, .inr (9, [.ref g0, .ref g1, .ref g2, .ref g3, .ref g4, .ref g5, .ref g6, .ref g7, .ref g8, .ref g9, .int 0, .int 0])), (g2, .inr (3, [.ref g11, .ref g12, .ref g13])), (g13, .inl (cy 3, 6, .inr (.inr (.inr (.inr (fun i => if i < 6 then some (rW i) else none)))))), ((rW 0), .inl (cy 0, 6, .inl (fun _ => 0))), ((rW 1), .inl (cy 0, 6, .inl (fun _ => 0))), ((rW 2), .inl (cy 0, 6, .inl (fun _ => 0))), ((rW 3), .inl (cy 0, 6, .inl f_8)), ((rW 4), .inl (cy 0, 6, .inl (fun _ => 0))), ((rW 5), .inl (cy 0, 6, .inl (fun _ => 0)))] H := ef_8 ▸ hP
            have hD : va_D A [(h0, .inr (9, [.ref g0, .ref g1, .ref g2, .ref g3, .ref g4, .ref g5, .ref g6, .ref g7, .ref g8, .ref g9, .int 0, .int 0])), (g2, .inr (3, [.ref g11, .ref g12, .ref g13])), (g13, .inl (cy 3, 6, .inr (.inr (.inr (.inr (fun i => if i < 6 then some (rW i) else none)))))), ((rW 0), .inl (cy 0, 6, .inl (fun _ => 0))), ((rW 1), .inl (cy 0, 6, .inl (fun _ => 0))), ((rW 2), .inl (cy 0, 6, .inl (fun _ => 0))), ((rW 3), .inl (cy 0, 6, .inl f_8)), ((rW 4), .inl (cy 0, 6, .inl (fun _ => 0))), ((rW 5), .inl (cy 0, 6, .inl (fun _ => 0)))] := ef_8 ▸ hD
            refine lv_iconst (v := 1) hx hb dX9_way_43 (by decide) ?_
            exact gz_iret (cf := (fun (u : Unit) => [])) (post := (fun (r : Int32) (u : Unit) => (r = 1 ∧ (0 ≤ Xx ∧ Xx < 6 ∧ 0 ≤ Xy ∧ Xy < 6 ∧ ¬ Xx = Xy ∧ 0 ≤ Xz ∧ Xz ≤ 9)) ∨ (r = 0 ∧ (¬ (0 ≤ Xx ∧ Xx < 6 ∧ 0 ≤ Xy ∧ Xy < 6 ∧ ¬ Xx = Xy ∧ 0 ≤ Xz ∧ Xz ≤ 9))))) hx hb hr hlocks hK hP hD hS () [] (by decide) (Or.inl (⟨rfl, by omega⟩)) (by decide) rfl (Nat.le_of_ble_eq_true rfl) (Nat.le_of_ble_eq_true rfl) dX9_way_44
          · skip
            refine gz_alda hx hb hK hP 2 rfl (vp_in_iff.mpr (by decide)) dX9_way_39 (v := .ref (rW 4)) rfl ?_
            refine lv_iload_n hx hb dX9_way_40 rfl (lv_at hl 2 rfl) ?_
            refine lv_iload_n hx hb dX9_way_41 rfl (lv_at hl 3 rfl) ?_
            refine va_iast hx hb hK hP hD hS 7 0 rfl rfl (vp_in_iff.mpr ⟨by omega, by omega⟩) dX9_way_42 (fun H locs hP hD hS => ?_)
            obtain ⟨f_9, ef_9⟩ : ∃ g : Nat → Int32, g = upd (fun _ => 0) (y : Int32).toNatClampNeg z := ⟨_, rfl⟩
            have hP : va_P G vwCl [(h0, .inr (9, [.ref g0, .ref g1, .ref g2, .ref g3, .ref g4, .ref g5, .ref g6, .ref g7, .ref g8, .ref g9, .int 0, .int 0])), (g2, .inr (3, [.ref g11, .ref g12, .ref g13])), (g13, .inl (cy 3, 6, .inr (.inr (.inr (.inr (fun i => if i < 6 then some (rW i) else none)))))), ((rW 0), .inl (cy 0, 6, .inl (fun _ => 0))), ((rW 1), .inl (cy 0, 6, .inl (fun _ => 0))), ((rW 2), .inl (cy 0, 6, .inl (fun _ => 0))), ((rW 3), .inl (cy 0, 6, .inl (fun _ => 0))), ((rW 4), .inl (cy 0, 6, .inl f_9)), ((rW 5), .inl (cy 0, 6, .inl (fun _ => 0)))] H := ef_9 ▸ hP
            have hD : va_D A [(h0, .inr (9, [.ref g0, .ref g1, .ref g2, .ref g3, .ref g4, .ref g5, .ref g6, .ref g7, .ref g8, .ref g9, .int 0, .int 0])), (g2, .inr (3, [.ref g11, .ref g12, .ref g13])), (g13, .inl (cy 3, 6, .inr (.inr (.inr (.inr (fun i => if i < 6 then some (rW i) else none)))))), ((rW 0), .inl (cy 0, 6, .inl (fun _ => 0))), ((rW 1), .inl (cy 0, 6, .inl (fun _ => 0))), ((rW 2), .inl (cy 0, 6, .inl (fun _ => 0))), ((rW 3), .inl (cy 0, 6, .inl (fun _ => 0))), ((rW 4), .inl (cy 0, 6, .inl f_9)), ((rW 5), .inl (cy 0, 6, .inl (fun _ => 0)))] := ef_9 ▸ hD
            refine lv_iconst (v := 1) hx hb dX9_way_43 (by decide) ?_
            exact gz_iret (cf := (fun (u : Unit) => [])) (post := (fun (r : Int32) (u : Unit) => (r = 1 ∧ (0 ≤ Xx ∧ Xx < 6 ∧ 0 ≤ Xy ∧ Xy < 6 ∧ ¬ Xx = Xy ∧ 0 ≤ Xz ∧ Xz ≤ 9)) ∨ (r = 0 ∧ (¬ (0 ≤ Xx ∧ Xx < 6 ∧ 0 ≤ Xy ∧ Xy < 6 ∧ ¬ Xx = Xy ∧ 0 ≤ Xz ∧ Xz ≤ 9))))) hx hb hr hlocks hK hP hD hS () [] (by decide) (Or.inl (⟨rfl, by omega⟩)) (by decide) rfl (Nat.le_of_ble_eq_true rfl) (Nat.le_of_ble_eq_true rfl) dX9_way_44
          · skip
            refine gz_alda hx hb hK hP 2 rfl (vp_in_iff.mpr (by decide)) dX9_way_39 (v := .ref (rW 5)) rfl ?_
            refine lv_iload_n hx hb dX9_way_40 rfl (lv_at hl 2 rfl) ?_
            refine lv_iload_n hx hb dX9_way_41 rfl (lv_at hl 3 rfl) ?_
            refine va_iast hx hb hK hP hD hS 8 0 rfl rfl (vp_in_iff.mpr ⟨by omega, by omega⟩) dX9_way_42 (fun H locs hP hD hS => ?_)
            obtain ⟨f_10, ef_10⟩ : ∃ g : Nat → Int32, g = upd (fun _ => 0) (y : Int32).toNatClampNeg z := ⟨_, rfl⟩
            have hP : va_P G vwCl [(h0, .inr (9, [.ref g0, .ref g1, .ref g2, .ref g3, .ref g4, .ref g5, .ref g6, .ref g7, .ref g8, .ref g9, .int 0, .int 0])), (g2, .inr (3, [.ref g11, .ref g12, .ref g13])), (g13, .inl (cy 3, 6, .inr (.inr (.inr (.inr (fun i => if i < 6 then some (rW i) else none)))))), ((rW 0), .inl (cy 0, 6, .inl (fun _ => 0))), ((rW 1), .inl (cy 0, 6, .inl (fun _ => 0))), ((rW 2), .inl (cy 0, 6, .inl (fun _ => 0))), ((rW 3), .inl (cy 0, 6, .inl (fun _ => 0))), ((rW 4), .inl (cy 0, 6, .inl (fun _ => 0))), ((rW 5), .inl (cy 0, 6, .inl f_10))] H := ef_10 ▸ hP
            have hD : va_D A [(h0, .inr (9, [.ref g0, .ref g1, .ref g2, .ref g3, .ref g4, .ref g5, .ref g6, .ref g7, .ref g8, .ref g9, .int 0, .int 0])), (g2, .inr (3, [.ref g11, .ref g12, .ref g13])), (g13, .inl (cy 3, 6, .inr (.inr (.inr (.inr (fun i => if i < 6 then some (rW i) else none)))))), ((rW 0), .inl (cy 0, 6, .inl (fun _ => 0))), ((rW 1), .inl (cy 0, 6, .inl (fun _ => 0))), ((rW 2), .inl (cy 0, 6, .inl (fun _ => 0))), ((rW 3), .inl (cy 0, 6, .inl (fun _ => 0))), ((rW 4), .inl (cy 0, 6, .inl (fun _ => 0))), ((rW 5), .inl (cy 0, 6, .inl f_10))] := ef_10 ▸ hD
            refine lv_iconst (v := 1) hx hb dX9_way_43 (by decide) ?_
            exact gz_iret (cf := (fun (u : Unit) => [])) (post := (fun (r : Int32) (u : Unit) => (r = 1 ∧ (0 ≤ Xx ∧ Xx < 6 ∧ 0 ≤ Xy ∧ Xy < 6 ∧ ¬ Xx = Xy ∧ 0 ≤ Xz ∧ Xz ≤ 9)) ∨ (r = 0 ∧ (¬ (0 ≤ Xx ∧ Xx < 6 ∧ 0 ≤ Xy ∧ Xy < 6 ∧ ¬ Xx = Xy ∧ 0 ≤ Xz ∧ Xz ≤ 9))))) hx hb hr hlocks hK hP hD hS () [] (by decide) (Or.inl (⟨rfl, by omega⟩)) (by decide) rfl (Nat.le_of_ble_eq_true rfl) (Nat.le_of_ble_eq_true rfl) dX9_way_44
        · skip
          refine lv_if_ne (tgt := 31) hx hb dX9_way_26 (by decide) (fun h9 => absurd (by decide) h9) (fun _ => ?_)
          refine lv_iconst (v := 0) hx hb dX9_way_29 (by decide) ?_
          exact gz_iret (cf := (fun (u : Unit) => [])) (post := (fun (r : Int32) (u : Unit) => (r = 1 ∧ (0 ≤ Xx ∧ Xx < 6 ∧ 0 ≤ Xy ∧ Xy < 6 ∧ ¬ Xx = Xy ∧ 0 ≤ Xz ∧ Xz ≤ 9)) ∨ (r = 0 ∧ (¬ (0 ≤ Xx ∧ Xx < 6 ∧ 0 ≤ Xy ∧ Xy < 6 ∧ ¬ Xx = Xy ∧ 0 ≤ Xz ∧ Xz ≤ 9))))) hx hb hr hlocks hK hP hD hS () [] (by decide) (Or.inr (⟨rfl, by omega⟩)) (by decide) rfl (Nat.le_of_ble_eq_true rfl) (Nat.le_of_ble_eq_true rfl) dX9_way_30
    · skip
      refine lv_if_eq (tgt := 29) hx hb dX9_way_11 (by decide) (fun _ => ?_) (fun h9 => absurd (by decide) h9)
      refine lv_iconst (v := 0) hx hb dX9_way_29 (by decide) ?_
      exact gz_iret (cf := (fun (u : Unit) => [])) (post := (fun (r : Int32) (u : Unit) => (r = 1 ∧ (0 ≤ Xx ∧ Xx < 6 ∧ 0 ≤ Xy ∧ Xy < 6 ∧ ¬ Xx = Xy ∧ 0 ≤ Xz ∧ Xz ≤ 9)) ∨ (r = 0 ∧ (¬ (0 ≤ Xx ∧ Xx < 6 ∧ 0 ≤ Xy ∧ Xy < 6 ∧ ¬ Xx = Xy ∧ 0 ≤ Xz ∧ Xz ≤ 9))))) hx hb hr hlocks hK hP hD hS () [] (by decide) (Or.inr (⟨rfl, by omega⟩)) (by decide) rfl (Nat.le_of_ble_eq_true rfl) (Nat.le_of_ble_eq_true rfl) dX9_way_30
  · skip
    refine lv_if_eq (tgt := 29) hx hb dX9_way_4 (by decide) (fun _ => ?_) (fun h9 => absurd (by decide) h9)
    refine lv_iconst (v := 0) hx hb dX9_way_29 (by decide) ?_
    exact gz_iret (cf := (fun (u : Unit) => [])) (post := (fun (r : Int32) (u : Unit) => (r = 1 ∧ (0 ≤ Xx ∧ Xx < 6 ∧ 0 ≤ Xy ∧ Xy < 6 ∧ ¬ Xx = Xy ∧ 0 ≤ Xz ∧ Xz ≤ 9)) ∨ (r = 0 ∧ (¬ (0 ≤ Xx ∧ Xx < 6 ∧ 0 ≤ Xy ∧ Xy < 6 ∧ ¬ Xx = Xy ∧ 0 ≤ Xz ∧ Xz ≤ 9))))) hx hb hr hlocks hK hP hD hS () [] (by decide) (Or.inr (⟨rfl, by omega⟩)) (by decide) rfl (Nat.le_of_ble_eq_true rfl) (Nat.le_of_ble_eq_true rfl) dX9_way_30

set_option maxHeartbeats 4000000 in
set_option maxRecDepth 100000 in
/-- WellCourt.step -/
theorem c_step (l : Launch) (G : va_G) (cy : Nat → ClassId) (sz : Nat) (h0 : Nat) (g0 : Nat) (g1 : Nat) (g2 : Nat) (g3 : Nat) (g4 : Nat) (g5 : Nat) (g6 : Nat) (g7 : Nat) (g8 : Nat) (g9 : Nat) (g46 : Nat) (g47 : Nat) (g48 : Nat) (g49 : Nat) (g50 : Nat) (g51 : Nat) (x : Int32) (y : Int32) (Xx : Int) (Xy : Int) (kx : x.toInt = Xx) (ky : y.toInt = Xy)  : gMi l yX9_step cX9_step 3 (some .int) ({ frames := 2, cells := 0, slots := 0, locals := 42 }) G cy sz [.ref h0, .int x, .int y] [(h0, .inr (9, [.ref g0, .ref g1, .ref g2, .ref g3, .ref g4, .ref g5, .ref g6, .ref g7, .ref g8, .ref g9, .int 0, .int 0])), (g9, .inr (6, [.ref g2, .ref g3, .ref g6, .ref g7, .int 0, .ref g46, .ref g47, .ref g48, .ref g49, .ref g50, .int 0, .int 0, .ref g51, .int 0, .int 0]))] (fun (r : Int32) (u : Unit) => r = (-1)) (fun (u : Unit) => []) := by
  refine gz_start (fun A => gQi G cy _ _ A) (by decide) (Nat.le_of_ble_eq_true rfl) ?_
  intro p e s m below meth c A ls H hx hb hr hml hlocks hin hown hts hK hov hsz hP hD hS hA hl
  have hl : lv_has ls 3 [(0, .ref h0), (1, .int x), (2, .int y)] := hl
  refine lv_aload_n hx hb dX9_step_0 rfl (lv_at hl 0 rfl) ?_
  refine va_get (ci := 9) (v := .ref g9) (C := RX9) (T := TX9) (N := 12) hx hb hts inX9 hown hK hP 0 rfl rfl 9 (by decide) (hts _ gm_300) (fun _ h9 => h9) rfl dX9_step_1 ?_
  refine lv_iload_n hx hb dX9_step_4 rfl (lv_at hl 1 rfl) ?_
  refine lv_iload_n hx hb dX9_step_5 rfl (lv_at hl 2 rfl) ?_
  refine gz_afti (va_runV (As := [.int x, .int y]) (rest := []) ⟨hx, hb, hml, hown, hts⟩ (c_X6_actOf l G cy H.size g9 g2 g3 g6 g7 g46 g47 g48 g49 g50 g51 x y x.toInt y.toInt rfl rfl) ⟨(gz_cb (n := 2) hts gm_716 gm_11 gm_719 ⟨by decide +kernel, by decide +kernel, by decide +kernel⟩ ⟨Nat.le_of_ble_eq_true rfl, Nat.le_of_ble_eq_true rfl⟩), hts _ gm_717, hts _ gm_718⟩ (gz_preV (ci := 6) (q0 := 0) hK hov hP hD [1] (by decide) rfl rfl rfl) rfl rfl hl.1 rfl (lv_room (Nat.le_of_ble_eq_true rfl)) dX9_step_6 ⟨Nat.le_of_ble_eq_true rfl, Nat.le_of_ble_eq_true rfl⟩) hP hD hS hA [1] [0] rfl rfl (by decide) (by decide) (fun r_1 u_1 H locs hw_1 hP hD hS => ?_)
  have hP : va_P G vwCl [(h0, .inr (9, [.ref g0, .ref g1, .ref g2, .ref g3, .ref g4, .ref g5, .ref g6, .ref g7, .ref g8, .ref g9, .int 0, .int 0])), (g9, .inr (6, [.ref g2, .ref g3, .ref g6, .ref g7, .int 0, .ref g46, .ref g47, .ref g48, .ref g49, .ref g50, .int 0, .int 0, .ref g51, .int 0, .int 0]))] H := hP
  have hD : va_D A [(h0, .inr (9, [.ref g0, .ref g1, .ref g2, .ref g3, .ref g4, .ref g5, .ref g6, .ref g7, .ref g8, .ref g9, .int 0, .int 0])), (g9, .inr (6, [.ref g2, .ref g3, .ref g6, .ref g7, .int 0, .ref g46, .ref g47, .ref g48, .ref g49, .ref g50, .int 0, .int 0, .ref g51, .int 0, .int 0]))] := hD
  obtain rfl := hw_1
  exact gz_iret (cf := (fun (u : Unit) => [])) (post := (fun (r : Int32) (u : Unit) => r = (-1))) hx hb hr hlocks hK hP hD hS () [] rfl rfl (by decide) rfl (Nat.le_of_ble_eq_true rfl) (Nat.le_of_ble_eq_true rfl) dX9_step_9

set_option maxHeartbeats 4000000 in
set_option maxRecDepth 100000 in
/-- WellCourt.far -/
theorem c_far (l : Launch) (G : va_G) (cy : Nat → ClassId) (sz : Nat) (h0 : Nat) (g0 : Nat) (g1 : Nat) (g2 : Nat) (g3 : Nat) (g4 : Nat) (g5 : Nat) (g6 : Nat) (g7 : Nat) (g8 : Nat) (g9 : Nat) (g46 : Nat) (g47 : Nat) (g48 : Nat) (g49 : Nat) (g50 : Nat) (g51 : Nat)   : gMi l yX9_far cX9_far 1 (some .int) ({ frames := 0, cells := 0, slots := 0, locals := 0 }) G cy sz [.ref h0] [(h0, .inr (9, [.ref g0, .ref g1, .ref g2, .ref g3, .ref g4, .ref g5, .ref g6, .ref g7, .ref g8, .ref g9, .int 0, .int 0])), (g9, .inr (6, [.ref g2, .ref g3, .ref g6, .ref g7, .int 0, .ref g46, .ref g47, .ref g48, .ref g49, .ref g50, .int 0, .int 0, .ref g51, .int 0, .int 0]))] (fun (r : Int32) (u : Unit) => r = 0) (fun (u : Unit) => []) := by
  refine gz_start (fun A => gQi G cy _ _ A) (by decide) (Nat.le_of_ble_eq_true rfl) ?_
  intro p e s m below meth c A ls H hx hb hr hml hlocks hin hown hts hK hov hsz hP hD hS hA hl
  have hl : lv_has ls 1 [(0, .ref h0)] := hl
  refine lv_aload_n hx hb dX9_far_0 rfl (lv_at hl 0 rfl) ?_
  refine va_get (ci := 9) (v := .ref g9) (C := RX9) (T := TX9) (N := 12) hx hb hts inX9 hown hK hP 0 rfl rfl 9 (by decide) (hts _ gm_300) (fun _ h9 => h9) rfl dX9_far_1 ?_
  refine va_getN (host := "WellCourt") (ci := 6) (v := .int 0) (C := RX6) (T := TX6) (N := 15) hx hb hts inX6 hown hK hP 1 rfl rfl 11 (by decide) (va_Nw.use rfl (hov.2.2 _ gn_256)) (fun _ h9 => h9) rfl dX9_far_4 ?_
  exact gz_iret (cf := (fun (u : Unit) => [])) (post := (fun (r : Int32) (u : Unit) => r = 0)) hx hb hr hlocks hK hP hD hS () [] rfl rfl (by decide) rfl (Nat.le_of_ble_eq_true rfl) (Nat.le_of_ble_eq_true rfl) dX9_far_7

set_option maxHeartbeats 4000000 in
set_option maxRecDepth 100000 in
/-- WellCourt.count -/
theorem c_count (l : Launch) (G : va_G) (cy : Nat → ClassId) (sz : Nat) (h0 : Nat) (g0 : Nat) (g1 : Nat) (g2 : Nat) (g3 : Nat) (g4 : Nat) (g5 : Nat) (g6 : Nat) (g7 : Nat) (g8 : Nat) (g9 : Nat) (g10 : Nat) (g11 : Nat) (g12 : Nat) (g13 : Nat) (g18 : Nat) (g19 : Nat) (g20 : Nat) (g21 : Nat) (g22 : Nat) (g23 : Nat) (g24 : Nat) (g25 : Nat) (g26 : Nat) (g27 : Nat) (g28 : Nat) (g29 : Nat) (g30 : Nat) (g31 : Nat) (g32 : Nat) (g33 : Nat) (g34 : Nat) (g46 : Nat) (g47 : Nat) (g48 : Nat) (g49 : Nat) (g50 : Nat) (g51 : Nat) (x : Int32) (Xx : Int) (kx : x.toInt = Xx)  : gMi l yX9_count cX9_count 2 (some .int) ({ frames := 2, cells := 0, slots := 0, locals := 43 }) G cy sz [.ref h0, .int x] [(h0, .inr (9, [.ref g0, .ref g1, .ref g2, .ref g3, .ref g4, .ref g5, .ref g6, .ref g7, .ref g8, .ref g9, .int 0, .int 0])), (g0, .inr (8, [.ref g10, .int 0])), (g2, .inr (3, [.ref g11, .ref g12, .ref g13])), (g11, .inl (cy 0, 6, .inl (fun _ => 0))), (g5, .inr (5, [.ref g18, .int 0])), (g6, .inr (2, [.ref g19, .ref g20, .ref g21, .ref g22, .ref g23])), (g19, .inl (cy 0, 4, .inl (fun _ => (-1)))), (g7, .inr (4, [.int 0, .ref g24, .ref g25, .ref g26, .ref g27, .int 0, .ref g28, .ref g29, .ref g30, .int 0, .ref g31, .ref g32, .ref g33, .ref g34])), (g9, .inr (6, [.ref g2, .ref g3, .ref g6, .ref g7, .int 0, .ref g46, .ref g47, .ref g48, .ref g49, .ref g50, .int 0, .int 0, .ref g51, .int 0, .int 0]))] (fun (r : Int32) (u : Unit) => (r = 0 ∧ (0 ≤ Xx ∧ Xx ≤ 6)) ∨ (r = (-1) ∧ (¬ (0 ≤ Xx ∧ Xx ≤ 6)))) (fun (u : Unit) => []) := by
  refine gz_start (fun A => gQi G cy _ _ A) (by decide) (Nat.le_of_ble_eq_true rfl) ?_
  intro p e s m below meth c A ls H hx hb hr hml hlocks hin hown hts hK hov hsz hP hD hS hA hl
  have hl : lv_has ls 2 [(0, .ref h0), (1, .int x)] := hl
  refine lv_iload_n hx hb dX9_count_0 rfl (lv_at hl 1 rfl) ?_
  rcases (show x.toInt < 0 ∨ 6 < x.toInt ∨ x.toInt = 0 ∨ x.toInt = 1 ∨ x.toInt = 2 ∨ x.toInt = 3 ∨ x.toInt = 4 ∨ x.toInt = 5 ∨ x.toInt = 6 by omega) with h_1 | h_1 | h_1 | h_1 | h_1 | h_1 | h_1 | h_1 | h_1
  · refine lv_tableOut (tgt := 97) hx hb dX9_count_1 (Or.inl h_1) (by decide) ?_
    refine lv_iconst (v := (-1)) hx hb dX9_count_97 (by decide) ?_
    exact gz_iret (cf := (fun (u : Unit) => [])) (post := (fun (r : Int32) (u : Unit) => (r = 0 ∧ (0 ≤ Xx ∧ Xx ≤ 6)) ∨ (r = (-1) ∧ (¬ (0 ≤ Xx ∧ Xx ≤ 6))))) hx hb hr hlocks hK hP hD hS () [] rfl (Or.inr (⟨rfl, by omega⟩)) (by decide) rfl (Nat.le_of_ble_eq_true rfl) (Nat.le_of_ble_eq_true rfl) dX9_count_98
  · refine lv_tableOut (tgt := 97) hx hb dX9_count_1 (Or.inr h_1) (by decide) ?_
    refine lv_iconst (v := (-1)) hx hb dX9_count_97 (by decide) ?_
    exact gz_iret (cf := (fun (u : Unit) => [])) (post := (fun (r : Int32) (u : Unit) => (r = 0 ∧ (0 ≤ Xx ∧ Xx ≤ 6)) ∨ (r = (-1) ∧ (¬ (0 ≤ Xx ∧ Xx ≤ 6))))) hx hb hr hlocks hK hP hD hS () [] rfl (Or.inr (⟨rfl, by omega⟩)) (by decide) rfl (Nat.le_of_ble_eq_true rfl) (Nat.le_of_ble_eq_true rfl) dX9_count_98
  · refine lv_tableIn (tgt := 44) hx hb dX9_count_1 (by omega) (by omega) (by rw [h_1]; rfl) (by decide) ?_
    refine lv_aload_n hx hb dX9_count_44 rfl (lv_at hl 0 rfl) ?_
    refine va_get (ci := 9) (v := .int 0) (C := RX9) (T := TX9) (N := 12) hx hb hts inX9 hown hK hP 0 rfl rfl 10 (by decide) (hts _ gm_301) (fun _ h9 => h9) rfl dX9_count_45 ?_
    exact gz_iret (cf := (fun (u : Unit) => [])) (post := (fun (r : Int32) (u : Unit) => (r = 0 ∧ (0 ≤ Xx ∧ Xx ≤ 6)) ∨ (r = (-1) ∧ (¬ (0 ≤ Xx ∧ Xx ≤ 6))))) hx hb hr hlocks hK hP hD hS () [] rfl (Or.inl (⟨rfl, by omega⟩)) (by decide) rfl (Nat.le_of_ble_eq_true rfl) (Nat.le_of_ble_eq_true rfl) dX9_count_48
  · refine lv_tableIn (tgt := 49) hx hb dX9_count_1 (by omega) (by omega) (by rw [h_1]; rfl) (by decide) ?_
    refine lv_aload_n hx hb dX9_count_49 rfl (lv_at hl 0 rfl) ?_
    refine va_get (ci := 9) (v := .ref g2) (C := RX9) (T := TX9) (N := 12) hx hb hts inX9 hown hK hP 0 rfl rfl 2 (by decide) (hts _ gm_293) (fun _ h9 => h9) rfl dX9_count_50 ?_
    refine gz_afti (va_runV (As := []) (rest := []) ⟨hx, hb, hml, hown, hts⟩ (c_X3_size l G cy H.size g2 g11 g12 g13 ) ⟨(gz_cb (n := 0) hts gm_729 gm_4 gm_732 ⟨by decide +kernel, by decide +kernel, by decide +kernel⟩ ⟨Nat.le_of_ble_eq_true rfl, Nat.le_of_ble_eq_true rfl⟩), hts _ gm_730, hts _ gm_731⟩ (gz_preV (ci := 3) (q0 := 0) hK hov hP hD [2, 3] (by decide) rfl rfl rfl) rfl rfl hl.1 rfl (lv_room (Nat.le_of_ble_eq_true rfl)) dX9_count_53 ⟨Nat.le_of_ble_eq_true rfl, Nat.le_of_ble_eq_true rfl⟩) hP hD hS hA [2, 3] [0, 1, 4, 5, 6, 7, 8] rfl rfl (by decide) (by decide) (fun r_2 u_2 H locs hw_2 hP hD hS => ?_)
    have hP : va_P G vwCl [(h0, .inr (9, [.ref g0, .ref g1, .ref g2, .ref g3, .ref g4, .ref g5, .ref g6, .ref g7, .ref g8, .ref g9, .int 0, .int 0])), (g0, .inr (8, [.ref g10, .int 0])), (g5, .inr (5, [.ref g18, .int 0])), (g6, .inr (2, [.ref g19, .ref g20, .ref g21, .ref g22, .ref g23])), (g19, .inl (cy 0, 4, .inl (fun _ => (-1)))), (g7, .inr (4, [.int 0, .ref g24, .ref g25, .ref g26, .ref g27, .int 0, .ref g28, .ref g29, .ref g30, .int 0, .ref g31, .ref g32, .ref g33, .ref g34])), (g9, .inr (6, [.ref g2, .ref g3, .ref g6, .ref g7, .int 0, .ref g46, .ref g47, .ref g48, .ref g49, .ref g50, .int 0, .int 0, .ref g51, .int 0, .int 0])), (g2, .inr (3, [.ref g11, .ref g12, .ref g13])), (g11, .inl (cy 0, 6, .inl (fun _ => 0)))] H := hP
    have hD : va_D A [(h0, .inr (9, [.ref g0, .ref g1, .ref g2, .ref g3, .ref g4, .ref g5, .ref g6, .ref g7, .ref g8, .ref g9, .int 0, .int 0])), (g0, .inr (8, [.ref g10, .int 0])), (g5, .inr (5, [.ref g18, .int 0])), (g6, .inr (2, [.ref g19, .ref g20, .ref g21, .ref g22, .ref g23])), (g19, .inl (cy 0, 4, .inl (fun _ => (-1)))), (g7, .inr (4, [.int 0, .ref g24, .ref g25, .ref g26, .ref g27, .int 0, .ref g28, .ref g29, .ref g30, .int 0, .ref g31, .ref g32, .ref g33, .ref g34])), (g9, .inr (6, [.ref g2, .ref g3, .ref g6, .ref g7, .int 0, .ref g46, .ref g47, .ref g48, .ref g49, .ref g50, .int 0, .int 0, .ref g51, .int 0, .int 0])), (g2, .inr (3, [.ref g11, .ref g12, .ref g13])), (g11, .inl (cy 0, 6, .inl (fun _ => 0)))] := hD
    obtain rfl := hw_2
    exact gz_iret (cf := (fun (u : Unit) => [])) (post := (fun (r : Int32) (u : Unit) => (r = 0 ∧ (0 ≤ Xx ∧ Xx ≤ 6)) ∨ (r = (-1) ∧ (¬ (0 ≤ Xx ∧ Xx ≤ 6))))) hx hb hr hlocks hK hP hD hS () [] rfl (Or.inl (⟨rfl, by omega⟩)) (by decide) rfl (Nat.le_of_ble_eq_true rfl) (Nat.le_of_ble_eq_true rfl) dX9_count_56
  · refine lv_tableIn (tgt := 57) hx hb dX9_count_1 (by omega) (by omega) (by rw [h_1]; rfl) (by decide) ?_
    refine lv_aload_n hx hb dX9_count_57 rfl (lv_at hl 0 rfl) ?_
    refine va_get (ci := 9) (v := .ref g7) (C := RX9) (T := TX9) (N := 12) hx hb hts inX9 hown hK hP 0 rfl rfl 7 (by decide) (hts _ gm_298) (fun _ h9 => h9) rfl dX9_count_58 ?_
    refine va_getN (host := "WellCourt") (ci := 4) (v := .int 0) (C := RX4) (T := TX4) (N := 14) hx hb hts inX4 hown hK hP 7 rfl rfl 0 (by decide) (va_Nw.use rfl (hov.2.2 _ gn_190)) (fun _ h9 => h9) rfl dX9_count_61 ?_
    exact gz_iret (cf := (fun (u : Unit) => [])) (post := (fun (r : Int32) (u : Unit) => (r = 0 ∧ (0 ≤ Xx ∧ Xx ≤ 6)) ∨ (r = (-1) ∧ (¬ (0 ≤ Xx ∧ Xx ≤ 6))))) hx hb hr hlocks hK hP hD hS () [] rfl (Or.inl (⟨rfl, by omega⟩)) (by decide) rfl (Nat.le_of_ble_eq_true rfl) (Nat.le_of_ble_eq_true rfl) dX9_count_64
  · refine lv_tableIn (tgt := 65) hx hb dX9_count_1 (by omega) (by omega) (by rw [h_1]; rfl) (by decide) ?_
    refine lv_aload_n hx hb dX9_count_65 rfl (lv_at hl 0 rfl) ?_
    refine va_get (ci := 9) (v := .ref g6) (C := RX9) (T := TX9) (N := 12) hx hb hts inX9 hown hK hP 0 rfl rfl 6 (by decide) (hts _ gm_297) (fun _ h9 => h9) rfl dX9_count_66 ?_
    refine gz_afti (va_runV (As := []) (rest := []) ⟨hx, hb, hml, hown, hts⟩ (c_X2_size l G cy H.size g6 g19 g20 g21 g22 g23 ) ⟨(gz_cb (n := 0) hts gm_734 gm_9 gm_737 ⟨by decide +kernel, by decide +kernel, by decide +kernel⟩ ⟨Nat.le_of_ble_eq_true rfl, Nat.le_of_ble_eq_true rfl⟩), hts _ gm_735, hts _ gm_736⟩ (gz_preV (ci := 2) (q0 := 0) hK hov hP hD [5, 6] (by decide) rfl rfl rfl) rfl rfl hl.1 rfl (lv_room (Nat.le_of_ble_eq_true rfl)) dX9_count_69 ⟨Nat.le_of_ble_eq_true rfl, Nat.le_of_ble_eq_true rfl⟩) hP hD hS hA [5, 6] [0, 1, 2, 3, 4, 7, 8] rfl rfl (by decide) (by decide) (fun r_3 u_3 H locs hw_3 hP hD hS => ?_)
    have hP : va_P G vwCl [(h0, .inr (9, [.ref g0, .ref g1, .ref g2, .ref g3, .ref g4, .ref g5, .ref g6, .ref g7, .ref g8, .ref g9, .int 0, .int 0])), (g0, .inr (8, [.ref g10, .int 0])), (g2, .inr (3, [.ref g11, .ref g12, .ref g13])), (g11, .inl (cy 0, 6, .inl (fun _ => 0))), (g5, .inr (5, [.ref g18, .int 0])), (g7, .inr (4, [.int 0, .ref g24, .ref g25, .ref g26, .ref g27, .int 0, .ref g28, .ref g29, .ref g30, .int 0, .ref g31, .ref g32, .ref g33, .ref g34])), (g9, .inr (6, [.ref g2, .ref g3, .ref g6, .ref g7, .int 0, .ref g46, .ref g47, .ref g48, .ref g49, .ref g50, .int 0, .int 0, .ref g51, .int 0, .int 0])), (g6, .inr (2, [.ref g19, .ref g20, .ref g21, .ref g22, .ref g23])), (g19, .inl (cy 0, 4, .inl (fun _ => (-1))))] H := hP
    have hD : va_D A [(h0, .inr (9, [.ref g0, .ref g1, .ref g2, .ref g3, .ref g4, .ref g5, .ref g6, .ref g7, .ref g8, .ref g9, .int 0, .int 0])), (g0, .inr (8, [.ref g10, .int 0])), (g2, .inr (3, [.ref g11, .ref g12, .ref g13])), (g11, .inl (cy 0, 6, .inl (fun _ => 0))), (g5, .inr (5, [.ref g18, .int 0])), (g7, .inr (4, [.int 0, .ref g24, .ref g25, .ref g26, .ref g27, .int 0, .ref g28, .ref g29, .ref g30, .int 0, .ref g31, .ref g32, .ref g33, .ref g34])), (g9, .inr (6, [.ref g2, .ref g3, .ref g6, .ref g7, .int 0, .ref g46, .ref g47, .ref g48, .ref g49, .ref g50, .int 0, .int 0, .ref g51, .int 0, .int 0])), (g6, .inr (2, [.ref g19, .ref g20, .ref g21, .ref g22, .ref g23])), (g19, .inl (cy 0, 4, .inl (fun _ => (-1))))] := hD
    obtain rfl := hw_3
    exact gz_iret (cf := (fun (u : Unit) => [])) (post := (fun (r : Int32) (u : Unit) => (r = 0 ∧ (0 ≤ Xx ∧ Xx ≤ 6)) ∨ (r = (-1) ∧ (¬ (0 ≤ Xx ∧ Xx ≤ 6))))) hx hb hr hlocks hK hP hD hS () [] rfl (Or.inl (⟨rfl, by omega⟩)) (by decide) rfl (Nat.le_of_ble_eq_true rfl) (Nat.le_of_ble_eq_true rfl) dX9_count_72
  · refine lv_tableIn (tgt := 73) hx hb dX9_count_1 (by omega) (by omega) (by rw [h_1]; rfl) (by decide) ?_
    refine lv_aload_n hx hb dX9_count_73 rfl (lv_at hl 0 rfl) ?_
    refine va_get (ci := 9) (v := .ref g5) (C := RX9) (T := TX9) (N := 12) hx hb hts inX9 hown hK hP 0 rfl rfl 5 (by decide) (hts _ gm_296) (fun _ h9 => h9) rfl dX9_count_74 ?_
    refine va_getN (host := "WellCourt") (ci := 5) (v := .int 0) (C := RX5) (T := TX5) (N := 2) hx hb hts inX5 hown hK hP 4 rfl rfl 1 (by decide) (va_Nw.use rfl (hov.2.2 _ gn_144)) (fun _ h9 => h9) rfl dX9_count_77 ?_
    exact gz_iret (cf := (fun (u : Unit) => [])) (post := (fun (r : Int32) (u : Unit) => (r = 0 ∧ (0 ≤ Xx ∧ Xx ≤ 6)) ∨ (r = (-1) ∧ (¬ (0 ≤ Xx ∧ Xx ≤ 6))))) hx hb hr hlocks hK hP hD hS () [] rfl (Or.inl (⟨rfl, by omega⟩)) (by decide) rfl (Nat.le_of_ble_eq_true rfl) (Nat.le_of_ble_eq_true rfl) dX9_count_80
  · refine lv_tableIn (tgt := 81) hx hb dX9_count_1 (by omega) (by omega) (by rw [h_1]; rfl) (by decide) ?_
    refine lv_aload_n hx hb dX9_count_81 rfl (lv_at hl 0 rfl) ?_
    refine va_get (ci := 9) (v := .ref g0) (C := RX9) (T := TX9) (N := 12) hx hb hts inX9 hown hK hP 0 rfl rfl 0 (by decide) (hts _ gm_291) (fun _ h9 => h9) rfl dX9_count_82 ?_
    refine va_getN (host := "WellCourt") (ci := 8) (v := .int 0) (C := RX8) (T := TX8) (N := 2) hx hb hts inX8 hown hK hP 1 rfl rfl 1 (by decide) (va_Nw.use rfl (hov.2.2 _ gn_40)) (fun _ h9 => h9) rfl dX9_count_85 ?_
    exact gz_iret (cf := (fun (u : Unit) => [])) (post := (fun (r : Int32) (u : Unit) => (r = 0 ∧ (0 ≤ Xx ∧ Xx ≤ 6)) ∨ (r = (-1) ∧ (¬ (0 ≤ Xx ∧ Xx ≤ 6))))) hx hb hr hlocks hK hP hD hS () [] rfl (Or.inl (⟨rfl, by omega⟩)) (by decide) rfl (Nat.le_of_ble_eq_true rfl) (Nat.le_of_ble_eq_true rfl) dX9_count_88
  · refine lv_tableIn (tgt := 89) hx hb dX9_count_1 (by omega) (by omega) (by rw [h_1]; rfl) (by decide) ?_
    refine lv_aload_n hx hb dX9_count_89 rfl (lv_at hl 0 rfl) ?_
    refine va_get (ci := 9) (v := .ref g9) (C := RX9) (T := TX9) (N := 12) hx hb hts inX9 hown hK hP 0 rfl rfl 9 (by decide) (hts _ gm_300) (fun _ h9 => h9) rfl dX9_count_90 ?_
    refine va_getN (host := "WellCourt") (ci := 6) (v := .int 0) (C := RX6) (T := TX6) (N := 15) hx hb hts inX6 hown hK hP 8 rfl rfl 10 (by decide) (va_Nw.use rfl (hov.2.2 _ gn_254)) (fun _ h9 => h9) rfl dX9_count_93 ?_
    exact gz_iret (cf := (fun (u : Unit) => [])) (post := (fun (r : Int32) (u : Unit) => (r = 0 ∧ (0 ≤ Xx ∧ Xx ≤ 6)) ∨ (r = (-1) ∧ (¬ (0 ≤ Xx ∧ Xx ≤ 6))))) hx hb hr hlocks hK hP hD hS () [] rfl (Or.inl (⟨rfl, by omega⟩)) (by decide) rfl (Nat.le_of_ble_eq_true rfl) (Nat.le_of_ble_eq_true rfl) dX9_count_96

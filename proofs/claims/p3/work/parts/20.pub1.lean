theorem gm_291 : (Jvm.Cond.fieldLink "WellCourt" (10 : Nat) "WellCourt" "tape" "LWellCourt$Tape;") ∈ gz_T := gz_at 291 (by decide +kernel) rfl
theorem gm_292 : (Jvm.Cond.fieldLink "WellCourt" (21 : Nat) "WellCourt" "reader" "LWellCourt$Reader;") ∈ gz_T := gz_at 292 (by decide +kernel) rfl
theorem gm_294 : (Jvm.Cond.fieldLink "WellCourt" (35 : Nat) "WellCourt" "calendar" "LWellCourt$Calendar;") ∈ gz_T := gz_at 294 (by decide +kernel) rfl
theorem gm_295 : (Jvm.Cond.fieldLink "WellCourt" (42 : Nat) "WellCourt" "today" "LWellCourt$Day;") ∈ gz_T := gz_at 295 (by decide +kernel) rfl
theorem gm_296 : (Jvm.Cond.fieldLink "WellCourt" (49 : Nat) "WellCourt" "ledger" "LWellCourt$Ledger;") ∈ gz_T := gz_at 296 (by decide +kernel) rfl
theorem gm_298 : (Jvm.Cond.fieldLink "WellCourt" (63 : Nat) "WellCourt" "law" "LWellCourt$Law;") ∈ gz_T := gz_at 298 (by decide +kernel) rfl
theorem gm_299 : (Jvm.Cond.fieldLink "WellCourt" (67 : Nat) "WellCourt" "draft" "LWellCourt$Law;") ∈ gz_T := gz_at 299 (by decide +kernel) rfl
theorem gm_301 : (Jvm.Cond.fieldLink "WellCourt" (79 : Nat) "WellCourt" "date" "I") ∈ gz_T := gz_at 301 (by decide +kernel) rfl
theorem gm_302 : (Jvm.Cond.fieldLink "WellCourt" (83 : Nat) "WellCourt" "latestFault" "I") ∈ gz_T := gz_at 302 (by decide +kernel) rfl
theorem gm_332 : (Jvm.Cond.methodLink "WellCourt" (89 : Nat) ({ cls := "WellCourt$Tape", name := "append", desc := "(I)V" } : Jvm.MethodName)) ∈ gz_T := gz_at 332 (by decide +kernel) rfl
theorem gm_333 : (Jvm.Cond.instanceMethod ({ cls := "WellCourt$Tape", name := "append", desc := "(I)V" } : Jvm.MethodName)) ∈ gz_T := gz_at 333 (by decide +kernel) rfl
theorem gm_334 : (Jvm.Cond.selects "WellCourt$Tape" ({ cls := "WellCourt$Tape", name := "append", desc := "(I)V" } : Jvm.MethodName) ({ cls := "WellCourt$Tape", name := "append", desc := "(I)V" } : Jvm.MethodName)) ∈ gz_T := gz_at 334 (by decide +kernel) rfl
theorem gm_335 : (Jvm.Cond.code ({ cls := "WellCourt$Tape", name := "append", desc := "(I)V" } : Jvm.MethodName) prog_10_method_2_code (3 : Nat) (Option.none : Option Jvm.ClassFile.FieldType)) ∈ gz_T := gz_at 335 (by decide +kernel) rfl
theorem gm_351 : (Jvm.Cond.methodLink "WellCourt" (100 : Nat) ({ cls := "WellCourt", name := "isWithin", desc := "(III)Z" } : Jvm.MethodName)) ∈ gz_T := gz_at 351 (by decide +kernel) rfl
theorem gm_358 : (Jvm.Cond.methodLink "WellCourt" (117 : Nat) ({ cls := "WellCourt$Law", name := "clear", desc := "()V" } : Jvm.MethodName)) ∈ gz_T := gz_at 358 (by decide +kernel) rfl
theorem gm_359 : (Jvm.Cond.instanceMethod ({ cls := "WellCourt$Law", name := "clear", desc := "()V" } : Jvm.MethodName)) ∈ gz_T := gz_at 359 (by decide +kernel) rfl
theorem gm_360 : (Jvm.Cond.selects "WellCourt$Law" ({ cls := "WellCourt$Law", name := "clear", desc := "()V" } : Jvm.MethodName) ({ cls := "WellCourt$Law", name := "clear", desc := "()V" } : Jvm.MethodName)) ∈ gz_T := gz_at 360 (by decide +kernel) rfl
theorem gm_361 : (Jvm.Cond.code ({ cls := "WellCourt$Law", name := "clear", desc := "()V" } : Jvm.MethodName) prog_6_method_2_code (1 : Nat) (Option.none : Option Jvm.ClassFile.FieldType)) ∈ gz_T := gz_at 361 (by decide +kernel) rfl
theorem gm_363 : (Jvm.Cond.methodLink "WellCourt" (120 : Nat) ({ cls := "WellCourt$Reader", name := "readText", desc := "(LWellCourt$Law;)Z" } : Jvm.MethodName)) ∈ gz_T := gz_at 363 (by decide +kernel) rfl
theorem gm_364 : (Jvm.Cond.instanceMethod ({ cls := "WellCourt$Reader", name := "readText", desc := "(LWellCourt$Law;)Z" } : Jvm.MethodName)) ∈ gz_T := gz_at 364 (by decide +kernel) rfl
theorem gm_365 : (Jvm.Cond.selects "WellCourt$Reader" ({ cls := "WellCourt$Reader", name := "readText", desc := "(LWellCourt$Law;)Z" } : Jvm.MethodName) ({ cls := "WellCourt$Reader", name := "readText", desc := "(LWellCourt$Law;)Z" } : Jvm.MethodName)) ∈ gz_T := gz_at 365 (by decide +kernel) rfl
theorem gm_366 : (Jvm.Cond.code ({ cls := "WellCourt$Reader", name := "readText", desc := "(LWellCourt$Law;)Z" } : Jvm.MethodName) prog_9_method_2_code (4 : Nat) (Option.some Jvm.ClassFile.FieldType.boolean)) ∈ gz_T := gz_at 366 (by decide +kernel) rfl
theorem gm_532 : (Jvm.Cond.methodLink "WellCourt" (130 : Nat) ({ cls := "WellCourt$Calendar", name := "tellTurns", desc := "(LWellCourt$Law;I)V" } : Jvm.MethodName)) ∈ gz_T := gz_at 532 (by decide +kernel) rfl
theorem gm_533 : (Jvm.Cond.instanceMethod ({ cls := "WellCourt$Calendar", name := "tellTurns", desc := "(LWellCourt$Law;I)V" } : Jvm.MethodName)) ∈ gz_T := gz_at 533 (by decide +kernel) rfl
theorem gm_534 : (Jvm.Cond.selects "WellCourt$Calendar" ({ cls := "WellCourt$Calendar", name := "tellTurns", desc := "(LWellCourt$Law;I)V" } : Jvm.MethodName) ({ cls := "WellCourt$Calendar", name := "tellTurns", desc := "(LWellCourt$Law;I)V" } : Jvm.MethodName)) ∈ gz_T := gz_at 534 (by decide +kernel) rfl
theorem gm_535 : (Jvm.Cond.code ({ cls := "WellCourt$Calendar", name := "tellTurns", desc := "(LWellCourt$Law;I)V" } : Jvm.MethodName) prog_2_method_3_code (5 : Nat) (Option.none : Option Jvm.ClassFile.FieldType)) ∈ gz_T := gz_at 535 (by decide +kernel) rfl
theorem gm_543 : (Jvm.Cond.methodLink "WellCourt" (134 : Nat) ({ cls := "WellCourt", name := "settleToday", desc := "()V" } : Jvm.MethodName)) ∈ gz_T := gz_at 543 (by decide +kernel) rfl
theorem gm_545 : (Jvm.Cond.instanceMethod ({ cls := "WellCourt", name := "settleToday", desc := "()V" } : Jvm.MethodName)) ∈ gz_T := gz_at 545 (by decide +kernel) rfl
theorem gm_546 : (Jvm.Cond.code ({ cls := "WellCourt", name := "settleToday", desc := "()V" } : Jvm.MethodName) prog_1_method_24_code (1 : Nat) (Option.none : Option Jvm.ClassFile.FieldType)) ∈ gz_T := gz_at 546 (by decide +kernel) rfl
theorem gm_547 : (Jvm.Cond.methodLink "WellCourt" (250 : Nat) ({ cls := "WellCourt$Day", name := "settle", desc := "(LWellCourt$Law;LWellCourt$Calendar;I)V" } : Jvm.MethodName)) ∈ gz_T := gz_at 547 (by decide +kernel) rfl
theorem gm_563 : (Jvm.Cond.methodLink "WellCourt" (254 : Nat) ({ cls := "WellCourt$Calendar", name := "keep", desc := "(LWellCourt$Day;I)V" } : Jvm.MethodName)) ∈ gz_T := gz_at 563 (by decide +kernel) rfl
theorem gm_564 : (Jvm.Cond.instanceMethod ({ cls := "WellCourt$Calendar", name := "keep", desc := "(LWellCourt$Day;I)V" } : Jvm.MethodName)) ∈ gz_T := gz_at 564 (by decide +kernel) rfl
theorem gm_565 : (Jvm.Cond.selects "WellCourt$Calendar" ({ cls := "WellCourt$Calendar", name := "keep", desc := "(LWellCourt$Day;I)V" } : Jvm.MethodName) ({ cls := "WellCourt$Calendar", name := "keep", desc := "(LWellCourt$Day;I)V" } : Jvm.MethodName)) ∈ gz_T := gz_at 565 (by decide +kernel) rfl
theorem gm_566 : (Jvm.Cond.code ({ cls := "WellCourt$Calendar", name := "keep", desc := "(LWellCourt$Day;I)V" } : Jvm.MethodName) prog_2_method_4_code (4 : Nat) (Option.none : Option Jvm.ClassFile.FieldType)) ∈ gz_T := gz_at 566 (by decide +kernel) rfl
theorem gm_575 : (Jvm.Cond.methodLink "WellCourt" (140 : Nat) ({ cls := "WellCourt$Day", name := "grow", desc := "(LWellCourt$Day;LWellCourt$Land;)V" } : Jvm.MethodName)) ∈ gz_T := gz_at 575 (by decide +kernel) rfl
theorem gm_587 : (Jvm.Cond.methodLink "WellCourt" (144 : Nat) ({ cls := "WellCourt", name := "isWellThere", desc := "(I)Z" } : Jvm.MethodName)) ∈ gz_T := gz_at 587 (by decide +kernel) rfl
theorem gm_589 : (Jvm.Cond.instanceMethod ({ cls := "WellCourt", name := "isWellThere", desc := "(I)Z" } : Jvm.MethodName)) ∈ gz_T := gz_at 589 (by decide +kernel) rfl
theorem gm_590 : (Jvm.Cond.code ({ cls := "WellCourt", name := "isWellThere", desc := "(I)Z" } : Jvm.MethodName) prog_1_method_25_code (2 : Nat) (Option.some Jvm.ClassFile.FieldType.boolean)) ∈ gz_T := gz_at 590 (by decide +kernel) rfl
theorem gm_595 : (Jvm.Cond.methodLink "WellCourt" (147 : Nat) ({ cls := "WellCourt$Calendar", name := "ownerOn", desc := "(II)I" } : Jvm.MethodName)) ∈ gz_T := gz_at 595 (by decide +kernel) rfl
theorem gm_600 : (Jvm.Cond.methodLink "WellCourt" (151 : Nat) ({ cls := "WellCourt", name := "isClan", desc := "(I)Z" } : Jvm.MethodName)) ∈ gz_T := gz_at 600 (by decide +kernel) rfl
theorem gm_601 : (Jvm.Cond.methodLink "WellCourt" (154 : Nat) ({ cls := "WellCourt", name := "standing", desc := "(II)I" } : Jvm.MethodName)) ∈ gz_T := gz_at 601 (by decide +kernel) rfl
theorem gm_603 : (Jvm.Cond.instanceMethod ({ cls := "WellCourt", name := "standing", desc := "(II)I" } : Jvm.MethodName)) ∈ gz_T := gz_at 603 (by decide +kernel) rfl
theorem gm_604 : (Jvm.Cond.code ({ cls := "WellCourt", name := "standing", desc := "(II)I" } : Jvm.MethodName) prog_1_method_26_code (3 : Nat) (Option.some Jvm.ClassFile.FieldType.int)) ∈ gz_T := gz_at 604 (by decide +kernel) rfl
theorem gm_605 : (Jvm.Cond.methodLink "WellCourt" (258 : Nat) ({ cls := "WellCourt$Day", name := "isRight", desc := "(LWellCourt$Law;II)Z" } : Jvm.MethodName)) ∈ gz_T := gz_at 605 (by decide +kernel) rfl
theorem gm_618 : (Jvm.Cond.methodLink "WellCourt" (167 : Nat) ({ cls := "WellCourt$Day", name := "guestMany", desc := "(LWellCourt$Law;II)I" } : Jvm.MethodName)) ∈ gz_T := gz_at 618 (by decide +kernel) rfl
theorem gm_619 : (Jvm.Cond.instanceMethod ({ cls := "WellCourt$Day", name := "guestMany", desc := "(LWellCourt$Law;II)I" } : Jvm.MethodName)) ∈ gz_T := gz_at 619 (by decide +kernel) rfl
theorem gm_620 : (Jvm.Cond.selects "WellCourt$Day" ({ cls := "WellCourt$Day", name := "guestMany", desc := "(LWellCourt$Law;II)I" } : Jvm.MethodName) ({ cls := "WellCourt$Day", name := "guestMany", desc := "(LWellCourt$Law;II)I" } : Jvm.MethodName)) ∈ gz_T := gz_at 620 (by decide +kernel) rfl
theorem gm_621 : (Jvm.Cond.code ({ cls := "WellCourt$Day", name := "guestMany", desc := "(LWellCourt$Law;II)I" } : Jvm.MethodName) prog_3_method_6_code (4 : Nat) (Option.some Jvm.ClassFile.FieldType.int)) ∈ gz_T := gz_at 621 (by decide +kernel) rfl
theorem gm_630 : (Jvm.Cond.methodLink "WellCourt" (157 : Nat) ({ cls := "WellCourt$Calendar", name := "exchange", desc := "(III)I" } : Jvm.MethodName)) ∈ gz_T := gz_at 630 (by decide +kernel) rfl
theorem gm_631 : (Jvm.Cond.instanceMethod ({ cls := "WellCourt$Calendar", name := "exchange", desc := "(III)I" } : Jvm.MethodName)) ∈ gz_T := gz_at 631 (by decide +kernel) rfl
theorem gm_632 : (Jvm.Cond.selects "WellCourt$Calendar" ({ cls := "WellCourt$Calendar", name := "exchange", desc := "(III)I" } : Jvm.MethodName) ({ cls := "WellCourt$Calendar", name := "exchange", desc := "(III)I" } : Jvm.MethodName)) ∈ gz_T := gz_at 632 (by decide +kernel) rfl
theorem gm_633 : (Jvm.Cond.code ({ cls := "WellCourt$Calendar", name := "exchange", desc := "(III)I" } : Jvm.MethodName) prog_2_method_5_code (6 : Nat) (Option.some Jvm.ClassFile.FieldType.int)) ∈ gz_T := gz_at 633 (by decide +kernel) rfl
theorem gm_639 : (Jvm.Cond.methodLink "WellCourt" (161 : Nat) ({ cls := "WellCourt", name := "canBeDrawn", desc := "(III)Z" } : Jvm.MethodName)) ∈ gz_T := gz_at 639 (by decide +kernel) rfl
theorem gm_641 : (Jvm.Cond.instanceMethod ({ cls := "WellCourt", name := "canBeDrawn", desc := "(III)Z" } : Jvm.MethodName)) ∈ gz_T := gz_at 641 (by decide +kernel) rfl
theorem gm_642 : (Jvm.Cond.code ({ cls := "WellCourt", name := "canBeDrawn", desc := "(III)Z" } : Jvm.MethodName) prog_1_method_27_code (4 : Nat) (Option.some Jvm.ClassFile.FieldType.boolean)) ∈ gz_T := gz_at 642 (by decide +kernel) rfl
theorem gm_643 : (Jvm.Cond.methodLink "WellCourt" (164 : Nat) ({ cls := "WellCourt$Ledger", name := "rightfulOn", desc := "(III)I" } : Jvm.MethodName)) ∈ gz_T := gz_at 643 (by decide +kernel) rfl
theorem gm_644 : (Jvm.Cond.instanceMethod ({ cls := "WellCourt$Ledger", name := "rightfulOn", desc := "(III)I" } : Jvm.MethodName)) ∈ gz_T := gz_at 644 (by decide +kernel) rfl
theorem gm_645 : (Jvm.Cond.selects "WellCourt$Ledger" ({ cls := "WellCourt$Ledger", name := "rightfulOn", desc := "(III)I" } : Jvm.MethodName) ({ cls := "WellCourt$Ledger", name := "rightfulOn", desc := "(III)I" } : Jvm.MethodName)) ∈ gz_T := gz_at 645 (by decide +kernel) rfl
theorem gm_646 : (Jvm.Cond.code ({ cls := "WellCourt$Ledger", name := "rightfulOn", desc := "(III)I" } : Jvm.MethodName) prog_7_method_4_code (6 : Nat) (Option.some Jvm.ClassFile.FieldType.int)) ∈ gz_T := gz_at 646 (by decide +kernel) rfl
theorem gm_651 : (Jvm.Cond.methodLink "WellCourt" (171 : Nat) ({ cls := "WellCourt$Ledger", name := "enter", desc := "(IIIIZ)V" } : Jvm.MethodName)) ∈ gz_T := gz_at 651 (by decide +kernel) rfl
theorem gm_652 : (Jvm.Cond.instanceMethod ({ cls := "WellCourt$Ledger", name := "enter", desc := "(IIIIZ)V" } : Jvm.MethodName)) ∈ gz_T := gz_at 652 (by decide +kernel) rfl
theorem gm_653 : (Jvm.Cond.selects "WellCourt$Ledger" ({ cls := "WellCourt$Ledger", name := "enter", desc := "(IIIIZ)V" } : Jvm.MethodName) ({ cls := "WellCourt$Ledger", name := "enter", desc := "(IIIIZ)V" } : Jvm.MethodName)) ∈ gz_T := gz_at 653 (by decide +kernel) rfl
theorem gm_654 : (Jvm.Cond.code ({ cls := "WellCourt$Ledger", name := "enter", desc := "(IIIIZ)V" } : Jvm.MethodName) prog_7_method_3_code (6 : Nat) (Option.none : Option Jvm.ClassFile.FieldType)) ∈ gz_T := gz_at 654 (by decide +kernel) rfl
theorem gm_663 : (Jvm.Cond.methodLink "WellCourt" (175 : Nat) ({ cls := "WellCourt$Ledger", name := "has", desc := "(I)Z" } : Jvm.MethodName)) ∈ gz_T := gz_at 663 (by decide +kernel) rfl
theorem gm_664 : (Jvm.Cond.instanceMethod ({ cls := "WellCourt$Ledger", name := "has", desc := "(I)Z" } : Jvm.MethodName)) ∈ gz_T := gz_at 664 (by decide +kernel) rfl
theorem gm_665 : (Jvm.Cond.selects "WellCourt$Ledger" ({ cls := "WellCourt$Ledger", name := "has", desc := "(I)Z" } : Jvm.MethodName) ({ cls := "WellCourt$Ledger", name := "has", desc := "(I)Z" } : Jvm.MethodName)) ∈ gz_T := gz_at 665 (by decide +kernel) rfl
theorem gm_666 : (Jvm.Cond.code ({ cls := "WellCourt$Ledger", name := "has", desc := "(I)Z" } : Jvm.MethodName) prog_7_method_2_code (2 : Nat) (Option.some Jvm.ClassFile.FieldType.boolean)) ∈ gz_T := gz_at 666 (by decide +kernel) rfl
theorem gm_671 : (Jvm.Cond.methodLink "WellCourt" (191 : Nat) ({ cls := "WellCourt$Ledger", name := "sum", desc := "(IIIZ)I" } : Jvm.MethodName)) ∈ gz_T := gz_at 671 (by decide +kernel) rfl
theorem gm_672 : (Jvm.Cond.instanceMethod ({ cls := "WellCourt$Ledger", name := "sum", desc := "(IIIZ)I" } : Jvm.MethodName)) ∈ gz_T := gz_at 672 (by decide +kernel) rfl
theorem gm_673 : (Jvm.Cond.selects "WellCourt$Ledger" ({ cls := "WellCourt$Ledger", name := "sum", desc := "(IIIZ)I" } : Jvm.MethodName) ({ cls := "WellCourt$Ledger", name := "sum", desc := "(IIIZ)I" } : Jvm.MethodName)) ∈ gz_T := gz_at 673 (by decide +kernel) rfl
theorem gm_674 : (Jvm.Cond.code ({ cls := "WellCourt$Ledger", name := "sum", desc := "(IIIZ)I" } : Jvm.MethodName) prog_7_method_5_code (7 : Nat) (Option.some Jvm.ClassFile.FieldType.int)) ∈ gz_T := gz_at 674 (by decide +kernel) rfl
theorem gm_676 : (Jvm.Cond.methodLink "WellCourt" (195 : Nat) ({ cls := "WellCourt$Ledger", name := "sumKnown", desc := "(IIIZI)I" } : Jvm.MethodName)) ∈ gz_T := gz_at 676 (by decide +kernel) rfl
theorem gm_677 : (Jvm.Cond.instanceMethod ({ cls := "WellCourt$Ledger", name := "sumKnown", desc := "(IIIZI)I" } : Jvm.MethodName)) ∈ gz_T := gz_at 677 (by decide +kernel) rfl
theorem gm_678 : (Jvm.Cond.selects "WellCourt$Ledger" ({ cls := "WellCourt$Ledger", name := "sumKnown", desc := "(IIIZI)I" } : Jvm.MethodName) ({ cls := "WellCourt$Ledger", name := "sumKnown", desc := "(IIIZI)I" } : Jvm.MethodName)) ∈ gz_T := gz_at 678 (by decide +kernel) rfl
theorem gm_679 : (Jvm.Cond.code ({ cls := "WellCourt$Ledger", name := "sumKnown", desc := "(IIIZI)I" } : Jvm.MethodName) prog_7_method_6_code (8 : Nat) (Option.some Jvm.ClassFile.FieldType.int)) ∈ gz_T := gz_at 679 (by decide +kernel) rfl
theorem gm_684 : (Jvm.Cond.methodLink "WellCourt" (199 : Nat) ({ cls := "WellCourt", name := "fine", desc := "(IIII)I" } : Jvm.MethodName)) ∈ gz_T := gz_at 684 (by decide +kernel) rfl
theorem gm_686 : (Jvm.Cond.instanceMethod ({ cls := "WellCourt", name := "fine", desc := "(IIII)I" } : Jvm.MethodName)) ∈ gz_T := gz_at 686 (by decide +kernel) rfl
theorem gm_687 : (Jvm.Cond.code ({ cls := "WellCourt", name := "fine", desc := "(IIII)I" } : Jvm.MethodName) prog_1_method_28_code (7 : Nat) (Option.some Jvm.ClassFile.FieldType.int)) ∈ gz_T := gz_at 687 (by decide +kernel) rfl
theorem gm_688 : (Jvm.Cond.methodLink "WellCourt" (262 : Nat) ({ cls := "java/lang/Math", name := "max", desc := "(II)I" } : Jvm.MethodName)) ∈ gz_T := gz_at 688 (by decide +kernel) rfl
theorem gn_40 : (Jvm.Cond.fieldLinkNest "WellCourt" (86 : Nat) "WellCourt$Tape" "size" "I" "WellCourt") ∈ gzN := gz_nest 40 (by decide +kernel) rfl
theorem gn_58 : (Jvm.Cond.fieldLinkNest "WellCourt" (124 : Nat) "WellCourt$Reader" "faultKind" "I" "WellCourt") ∈ gzN := gz_nest 58 (by decide +kernel) rfl
theorem gn_60 : (Jvm.Cond.fieldLinkNest "WellCourt" (127 : Nat) "WellCourt$Reader" "faultPlace" "I" "WellCourt") ∈ gzN := gz_nest 60 (by decide +kernel) rfl
theorem gn_84 : (Jvm.Cond.fieldLinkNest "WellCourt" (104 : Nat) "WellCourt$Land" "cap" "[I" "WellCourt") ∈ gzN := gz_nest 84 (by decide +kernel) rfl
theorem gn_87 : (Jvm.Cond.fieldLinkNest "WellCourt" (108 : Nat) "WellCourt$Land" "rate" "[I" "WellCourt") ∈ gzN := gz_nest 87 (by decide +kernel) rfl
theorem gn_121 : (Jvm.Cond.fieldLinkNest "WellCourt" (111 : Nat) "WellCourt$Day" "level" "[I" "WellCourt") ∈ gzN := gz_nest 121 (by decide +kernel) rfl
theorem gn_124 : (Jvm.Cond.fieldLinkNest "WellCourt" (114 : Nat) "WellCourt$Day" "morning" "[I" "WellCourt") ∈ gzN := gz_nest 124 (by decide +kernel) rfl
theorem gn_142 : (Jvm.Cond.fieldLinkNest "WellCourt" (178 : Nat) "WellCourt$Ledger" "facts" "[[I" "WellCourt") ∈ gzN := gz_nest 142 (by decide +kernel) rfl
theorem gn_144 : (Jvm.Cond.fieldLinkNest "WellCourt" (249 : Nat) "WellCourt$Ledger" "size" "I" "WellCourt") ∈ gzN := gz_nest 144 (by decide +kernel) rfl
theorem gn_190 : (Jvm.Cond.fieldLinkNest "WellCourt" (137 : Nat) "WellCourt$Law" "rules" "I" "WellCourt") ∈ gzN := gz_nest 190 (by decide +kernel) rfl
theorem gs_16 : (Jvm.Cond.selects "WellCourt" ({ cls := "WellCourt", name := "settleToday", desc := "()V" } : Jvm.MethodName) ({ cls := "WellCourt", name := "settleToday", desc := "()V" } : Jvm.MethodName)) ∈ gz_T := gz_sel 16 (by decide +kernel) rfl
theorem gs_17 : (Jvm.Cond.selects "WellCourt" ({ cls := "WellCourt", name := "isWellThere", desc := "(I)Z" } : Jvm.MethodName) ({ cls := "WellCourt", name := "isWellThere", desc := "(I)Z" } : Jvm.MethodName)) ∈ gz_T := gz_sel 17 (by decide +kernel) rfl
theorem gs_18 : (Jvm.Cond.selects "WellCourt" ({ cls := "WellCourt", name := "standing", desc := "(II)I" } : Jvm.MethodName) ({ cls := "WellCourt", name := "standing", desc := "(II)I" } : Jvm.MethodName)) ∈ gz_T := gz_sel 18 (by decide +kernel) rfl
theorem gs_19 : (Jvm.Cond.selects "WellCourt" ({ cls := "WellCourt", name := "canBeDrawn", desc := "(III)Z" } : Jvm.MethodName) ({ cls := "WellCourt", name := "canBeDrawn", desc := "(III)Z" } : Jvm.MethodName)) ∈ gz_T := gz_sel 19 (by decide +kernel) rfl
theorem gs_22 : (Jvm.Cond.selects "WellCourt" ({ cls := "WellCourt", name := "fine", desc := "(IIII)I" } : Jvm.MethodName) ({ cls := "WellCourt", name := "fine", desc := "(IIII)I" } : Jvm.MethodName)) ∈ gz_T := gz_sel 22 (by decide +kernel) rfl
theorem dX9_canBeDrawn_0 : decode cX9_canBeDrawn 0 = .ok (.aload_n 0, 1) := by decide +kernel
theorem dX9_canBeDrawn_1 : decode cX9_canBeDrawn 1 = .ok (.iload_n 1, 1) := by decide +kernel
theorem dX9_canBeDrawn_2 : decode cX9_canBeDrawn 2 = .ok (.invokevirtual 144, 3) := by decide +kernel
theorem dX9_canBeDrawn_5 : decode cX9_canBeDrawn 5 = .ok (.ifCond .eq 38, 3) := by decide +kernel
theorem dX9_canBeDrawn_8 : decode cX9_canBeDrawn 8 = .ok (.iload_n 2, 1) := by decide +kernel
theorem dX9_canBeDrawn_9 : decode cX9_canBeDrawn 9 = .ok (.invokestatic 151, 3) := by decide +kernel
theorem dX9_canBeDrawn_12 : decode cX9_canBeDrawn 12 = .ok (.ifCond .eq 31, 3) := by decide +kernel
theorem dX9_canBeDrawn_15 : decode cX9_canBeDrawn 15 = .ok (.iload_n 3, 1) := by decide +kernel
theorem dX9_canBeDrawn_16 : decode cX9_canBeDrawn 16 = .ok (.iconst 1, 1) := by decide +kernel
theorem dX9_canBeDrawn_17 : decode cX9_canBeDrawn 17 = .ok (.sipush 1000, 3) := by decide +kernel
theorem dX9_canBeDrawn_20 : decode cX9_canBeDrawn 20 = .ok (.invokestatic 100, 3) := by decide +kernel
theorem dX9_canBeDrawn_23 : decode cX9_canBeDrawn 23 = .ok (.ifCond .eq 20, 3) := by decide +kernel
theorem dX9_canBeDrawn_26 : decode cX9_canBeDrawn 26 = .ok (.aload_n 0, 1) := by decide +kernel
theorem dX9_canBeDrawn_27 : decode cX9_canBeDrawn 27 = .ok (.getfield 49, 3) := by decide +kernel
theorem dX9_canBeDrawn_30 : decode cX9_canBeDrawn 30 = .ok (.getfield 249, 3) := by decide +kernel
theorem dX9_canBeDrawn_33 : decode cX9_canBeDrawn 33 = .ok (.sipush 300, 3) := by decide +kernel
theorem dX9_canBeDrawn_36 : decode cX9_canBeDrawn 36 = .ok (.if_icmp .ge 7, 3) := by decide +kernel
theorem dX9_canBeDrawn_39 : decode cX9_canBeDrawn 39 = .ok (.iconst 1, 1) := by decide +kernel
theorem dX9_canBeDrawn_40 : decode cX9_canBeDrawn 40 = .ok (.goto 4, 3) := by decide +kernel
theorem dX9_canBeDrawn_43 : decode cX9_canBeDrawn 43 = .ok (.iconst 0, 1) := by decide +kernel
theorem dX9_canBeDrawn_44 : decode cX9_canBeDrawn 44 = .ok (.ireturn, 1) := by decide +kernel
theorem dX9_draw_0 : decode cX9_draw 0 = .ok (.aload_n 0, 1) := by decide +kernel
theorem dX9_draw_1 : decode cX9_draw 1 = .ok (.iload_n 1, 1) := by decide +kernel
theorem dX9_draw_2 : decode cX9_draw 2 = .ok (.iload_n 2, 1) := by decide +kernel
theorem dX9_draw_3 : decode cX9_draw 3 = .ok (.iload_n 3, 1) := by decide +kernel
theorem dX9_draw_4 : decode cX9_draw 4 = .ok (.invokevirtual 161, 3) := by decide +kernel
theorem dX9_draw_7 : decode cX9_draw 7 = .ok (.ifCond .ne 5, 3) := by decide +kernel
theorem dX9_draw_10 : decode cX9_draw 10 = .ok (.iconst 1, 1) := by decide +kernel
theorem dX9_draw_11 : decode cX9_draw 11 = .ok (.ireturn, 1) := by decide +kernel
theorem dX9_draw_12 : decode cX9_draw 12 = .ok (.aload_n 0, 1) := by decide +kernel
theorem dX9_draw_13 : decode cX9_draw 13 = .ok (.iload_n 1, 1) := by decide +kernel
theorem dX9_draw_14 : decode cX9_draw 14 = .ok (.iload_n 2, 1) := by decide +kernel
theorem dX9_draw_15 : decode cX9_draw 15 = .ok (.invokevirtual 154, 3) := by decide +kernel
theorem dX9_draw_18 : decode cX9_draw 18 = .ok (.istore 4, 2) := by decide +kernel
theorem dX9_draw_20 : decode cX9_draw 20 = .ok (.iload 4, 2) := by decide +kernel
theorem dX9_draw_22 : decode cX9_draw 22 = .ok (.ifCond .ne 5, 3) := by decide +kernel
theorem dX9_draw_25 : decode cX9_draw 25 = .ok (.iconst 2, 1) := by decide +kernel
theorem dX9_draw_26 : decode cX9_draw 26 = .ok (.ireturn, 1) := by decide +kernel
theorem dX9_draw_27 : decode cX9_draw 27 = .ok (.iload 4, 2) := by decide +kernel
theorem dX9_draw_29 : decode cX9_draw 29 = .ok (.iconst 2, 1) := by decide +kernel
theorem dX9_draw_30 : decode cX9_draw 30 = .ok (.if_icmp .ne 40, 3) := by decide +kernel
theorem dX9_draw_33 : decode cX9_draw 33 = .ok (.aload_n 0, 1) := by decide +kernel
theorem dX9_draw_34 : decode cX9_draw 34 = .ok (.getfield 49, 3) := by decide +kernel
theorem dX9_draw_37 : decode cX9_draw 37 = .ok (.aload_n 0, 1) := by decide +kernel
theorem dX9_draw_38 : decode cX9_draw 38 = .ok (.getfield 79, 3) := by decide +kernel
theorem dX9_draw_41 : decode cX9_draw 41 = .ok (.iload_n 1, 1) := by decide +kernel
theorem dX9_draw_42 : decode cX9_draw 42 = .ok (.iload_n 2, 1) := by decide +kernel
theorem dX9_draw_43 : decode cX9_draw 43 = .ok (.invokevirtual 164, 3) := by decide +kernel
theorem dX9_draw_46 : decode cX9_draw 46 = .ok (.istore 5, 2) := by decide +kernel
theorem dX9_draw_48 : decode cX9_draw 48 = .ok (.iload 5, 2) := by decide +kernel
theorem dX9_draw_50 : decode cX9_draw 50 = .ok (.iload_n 3, 1) := by decide +kernel
theorem dX9_draw_51 : decode cX9_draw 51 = .ok (.iadd, 1) := by decide +kernel
theorem dX9_draw_52 : decode cX9_draw 52 = .ok (.aload_n 0, 1) := by decide +kernel
theorem dX9_draw_53 : decode cX9_draw 53 = .ok (.getfield 42, 3) := by decide +kernel
theorem dX9_draw_56 : decode cX9_draw 56 = .ok (.aload_n 0, 1) := by decide +kernel
theorem dX9_draw_57 : decode cX9_draw 57 = .ok (.getfield 63, 3) := by decide +kernel
theorem dX9_draw_60 : decode cX9_draw 60 = .ok (.iload_n 1, 1) := by decide +kernel
theorem dX9_draw_61 : decode cX9_draw 61 = .ok (.iload_n 2, 1) := by decide +kernel
theorem dX9_draw_62 : decode cX9_draw 62 = .ok (.invokevirtual 167, 3) := by decide +kernel
theorem dX9_draw_65 : decode cX9_draw 65 = .ok (.if_icmp .le 5, 3) := by decide +kernel
theorem dX9_draw_68 : decode cX9_draw 68 = .ok (.iconst 3, 1) := by decide +kernel
theorem dX9_draw_69 : decode cX9_draw 69 = .ok (.ireturn, 1) := by decide +kernel
theorem dX9_draw_70 : decode cX9_draw 70 = .ok (.iload_n 3, 1) := by decide +kernel
theorem dX9_draw_71 : decode cX9_draw 71 = .ok (.aload_n 0, 1) := by decide +kernel
theorem dX9_draw_72 : decode cX9_draw 72 = .ok (.getfield 42, 3) := by decide +kernel
theorem dX9_draw_75 : decode cX9_draw 75 = .ok (.getfield 111, 3) := by decide +kernel
theorem dX9_draw_78 : decode cX9_draw 78 = .ok (.iload_n 1, 1) := by decide +kernel
theorem dX9_draw_79 : decode cX9_draw 79 = .ok (.iaload, 1) := by decide +kernel
theorem dX9_draw_80 : decode cX9_draw 80 = .ok (.if_icmp .le 5, 3) := by decide +kernel
theorem dX9_draw_83 : decode cX9_draw 83 = .ok (.iconst 4, 1) := by decide +kernel
theorem dX9_draw_84 : decode cX9_draw 84 = .ok (.ireturn, 1) := by decide +kernel
theorem dX9_draw_85 : decode cX9_draw 85 = .ok (.aload_n 0, 1) := by decide +kernel
theorem dX9_draw_86 : decode cX9_draw 86 = .ok (.getfield 42, 3) := by decide +kernel
theorem dX9_draw_89 : decode cX9_draw 89 = .ok (.getfield 111, 3) := by decide +kernel
theorem dX9_draw_92 : decode cX9_draw 92 = .ok (.iload_n 1, 1) := by decide +kernel
theorem dX9_draw_93 : decode cX9_draw 93 = .ok (.dup2, 1) := by decide +kernel
theorem dX9_draw_94 : decode cX9_draw 94 = .ok (.iaload, 1) := by decide +kernel
theorem dX9_draw_95 : decode cX9_draw 95 = .ok (.iload_n 3, 1) := by decide +kernel
theorem dX9_draw_96 : decode cX9_draw 96 = .ok (.isub, 1) := by decide +kernel
theorem dX9_draw_97 : decode cX9_draw 97 = .ok (.iastore, 1) := by decide +kernel
theorem dX9_draw_98 : decode cX9_draw 98 = .ok (.aload_n 0, 1) := by decide +kernel
theorem dX9_draw_99 : decode cX9_draw 99 = .ok (.getfield 49, 3) := by decide +kernel
theorem dX9_draw_102 : decode cX9_draw 102 = .ok (.aload_n 0, 1) := by decide +kernel
theorem dX9_draw_103 : decode cX9_draw 103 = .ok (.getfield 79, 3) := by decide +kernel
theorem dX9_draw_106 : decode cX9_draw 106 = .ok (.iload_n 1, 1) := by decide +kernel
theorem dX9_draw_107 : decode cX9_draw 107 = .ok (.iload_n 2, 1) := by decide +kernel
theorem dX9_draw_108 : decode cX9_draw 108 = .ok (.iload_n 3, 1) := by decide +kernel
theorem dX9_draw_109 : decode cX9_draw 109 = .ok (.iconst 1, 1) := by decide +kernel
theorem dX9_draw_110 : decode cX9_draw 110 = .ok (.invokevirtual 171, 3) := by decide +kernel
theorem dX9_draw_113 : decode cX9_draw 113 = .ok (.iconst 0, 1) := by decide +kernel
theorem dX9_draw_114 : decode cX9_draw 114 = .ok (.ireturn, 1) := by decide +kernel
theorem dX9_end_0 : decode cX9_end 0 = .ok (.iload_n 1, 1) := by decide +kernel
theorem dX9_end_1 : decode cX9_end 1 = .ok (.ifCond .lt 14, 3) := by decide +kernel
theorem dX9_end_4 : decode cX9_end 4 = .ok (.iload_n 1, 1) := by decide +kernel
theorem dX9_end_5 : decode cX9_end 5 = .ok (.aload_n 0, 1) := by decide +kernel
theorem dX9_end_6 : decode cX9_end 6 = .ok (.getfield 10, 3) := by decide +kernel
theorem dX9_end_9 : decode cX9_end 9 = .ok (.getfield 86, 3) := by decide +kernel
theorem dX9_end_12 : decode cX9_end 12 = .ok (.if_icmp .le 5, 3) := by decide +kernel
theorem dX9_end_15 : decode cX9_end 15 = .ok (.iconst 0, 1) := by decide +kernel
theorem dX9_end_16 : decode cX9_end 16 = .ok (.ireturn, 1) := by decide +kernel
theorem dX9_end_17 : decode cX9_end 17 = .ok (.aload_n 0, 1) := by decide +kernel
theorem dX9_end_18 : decode cX9_end 18 = .ok (.getfield 10, 3) := by decide +kernel
theorem dX9_end_21 : decode cX9_end 21 = .ok (.iload_n 1, 1) := by decide +kernel
theorem dX9_end_22 : decode cX9_end 22 = .ok (.putfield 86, 3) := by decide +kernel
theorem dX9_end_25 : decode cX9_end 25 = .ok (.iconst 1, 1) := by decide +kernel
theorem dX9_end_26 : decode cX9_end 26 = .ok (.ireturn, 1) := by decide +kernel
theorem dX9_fault_0 : decode cX9_fault 0 = .ok (.aload_n 0, 1) := by decide +kernel
theorem dX9_fault_1 : decode cX9_fault 1 = .ok (.getfield 83, 3) := by decide +kernel
theorem dX9_fault_4 : decode cX9_fault 4 = .ok (.ireturn, 1) := by decide +kernel
theorem dX9_feed_0 : decode cX9_feed 0 = .ok (.aload_n 0, 1) := by decide +kernel
theorem dX9_feed_1 : decode cX9_feed 1 = .ok (.getfield 10, 3) := by decide +kernel
theorem dX9_feed_4 : decode cX9_feed 4 = .ok (.getfield 86, 3) := by decide +kernel
theorem dX9_feed_7 : decode cX9_feed 7 = .ok (.bipush 20, 2) := by decide +kernel
theorem dX9_feed_9 : decode cX9_feed 9 = .ok (.iadd, 1) := by decide +kernel
theorem dX9_feed_10 : decode cX9_feed 10 = .ok (.sipush 800, 3) := by decide +kernel
theorem dX9_feed_13 : decode cX9_feed 13 = .ok (.if_icmp .le 5, 3) := by decide +kernel
theorem dX9_feed_16 : decode cX9_feed 16 = .ok (.iconst (-1), 1) := by decide +kernel
theorem dX9_feed_17 : decode cX9_feed 17 = .ok (.ireturn, 1) := by decide +kernel
theorem dX9_feed_18 : decode cX9_feed 18 = .ok (.aload_n 0, 1) := by decide +kernel
theorem dX9_feed_19 : decode cX9_feed 19 = .ok (.getfield 10, 3) := by decide +kernel
theorem dX9_feed_22 : decode cX9_feed 22 = .ok (.iload_n 1, 1) := by decide +kernel
theorem dX9_feed_23 : decode cX9_feed 23 = .ok (.invokevirtual 89, 3) := by decide +kernel
theorem dX9_feed_26 : decode cX9_feed 26 = .ok (.aload_n 0, 1) := by decide +kernel
theorem dX9_feed_27 : decode cX9_feed 27 = .ok (.getfield 10, 3) := by decide +kernel
theorem dX9_feed_30 : decode cX9_feed 30 = .ok (.iload_n 2, 1) := by decide +kernel
theorem dX9_feed_31 : decode cX9_feed 31 = .ok (.invokevirtual 89, 3) := by decide +kernel
theorem dX9_feed_34 : decode cX9_feed 34 = .ok (.aload_n 0, 1) := by decide +kernel
theorem dX9_feed_35 : decode cX9_feed 35 = .ok (.getfield 10, 3) := by decide +kernel
theorem dX9_feed_38 : decode cX9_feed 38 = .ok (.iload_n 3, 1) := by decide +kernel
theorem dX9_feed_39 : decode cX9_feed 39 = .ok (.invokevirtual 89, 3) := by decide +kernel
theorem dX9_feed_42 : decode cX9_feed 42 = .ok (.aload_n 0, 1) := by decide +kernel
theorem dX9_feed_43 : decode cX9_feed 43 = .ok (.getfield 10, 3) := by decide +kernel
theorem dX9_feed_46 : decode cX9_feed 46 = .ok (.iload 4, 2) := by decide +kernel
theorem dX9_feed_48 : decode cX9_feed 48 = .ok (.invokevirtual 89, 3) := by decide +kernel
theorem dX9_feed_51 : decode cX9_feed 51 = .ok (.aload_n 0, 1) := by decide +kernel
theorem dX9_feed_52 : decode cX9_feed 52 = .ok (.getfield 10, 3) := by decide +kernel
theorem dX9_feed_55 : decode cX9_feed 55 = .ok (.iload 5, 2) := by decide +kernel
theorem dX9_feed_57 : decode cX9_feed 57 = .ok (.invokevirtual 89, 3) := by decide +kernel
theorem dX9_feed_60 : decode cX9_feed 60 = .ok (.aload_n 0, 1) := by decide +kernel
theorem dX9_feed_61 : decode cX9_feed 61 = .ok (.getfield 10, 3) := by decide +kernel
theorem dX9_feed_64 : decode cX9_feed 64 = .ok (.getfield 86, 3) := by decide +kernel
theorem dX9_feed_67 : decode cX9_feed 67 = .ok (.ireturn, 1) := by decide +kernel
theorem dX9_fine_0 : decode cX9_fine 0 = .ok (.aload_n 0, 1) := by decide +kernel
theorem dX9_fine_1 : decode cX9_fine 1 = .ok (.getfield 49, 3) := by decide +kernel
theorem dX9_fine_4 : decode cX9_fine 4 = .ok (.iload_n 1, 1) := by decide +kernel
theorem dX9_fine_5 : decode cX9_fine 5 = .ok (.iload_n 2, 1) := by decide +kernel
theorem dX9_fine_6 : decode cX9_fine 6 = .ok (.iload_n 3, 1) := by decide +kernel
theorem dX9_fine_7 : decode cX9_fine 7 = .ok (.iconst 0, 1) := by decide +kernel
theorem dX9_fine_8 : decode cX9_fine 8 = .ok (.iload 4, 2) := by decide +kernel
theorem dX9_fine_10 : decode cX9_fine 10 = .ok (.invokevirtual 195, 3) := by decide +kernel
theorem dX9_fine_13 : decode cX9_fine 13 = .ok (.istore 5, 2) := by decide +kernel
theorem dX9_fine_15 : decode cX9_fine 15 = .ok (.aload_n 0, 1) := by decide +kernel
theorem dX9_fine_16 : decode cX9_fine 16 = .ok (.getfield 49, 3) := by decide +kernel
theorem dX9_fine_19 : decode cX9_fine 19 = .ok (.iload_n 1, 1) := by decide +kernel
theorem dX9_fine_20 : decode cX9_fine 20 = .ok (.iload_n 2, 1) := by decide +kernel
theorem dX9_fine_21 : decode cX9_fine 21 = .ok (.iload_n 3, 1) := by decide +kernel
theorem dX9_fine_22 : decode cX9_fine 22 = .ok (.iconst 1, 1) := by decide +kernel
theorem dX9_fine_23 : decode cX9_fine 23 = .ok (.iload 4, 2) := by decide +kernel
theorem dX9_fine_25 : decode cX9_fine 25 = .ok (.invokevirtual 195, 3) := by decide +kernel
theorem dX9_fine_28 : decode cX9_fine 28 = .ok (.istore 6, 2) := by decide +kernel
theorem dX9_fine_30 : decode cX9_fine 30 = .ok (.iconst 2, 1) := by decide +kernel
theorem dX9_fine_31 : decode cX9_fine 31 = .ok (.iload 5, 2) := by decide +kernel
theorem dX9_fine_33 : decode cX9_fine 33 = .ok (.imul, 1) := by decide +kernel
theorem dX9_fine_34 : decode cX9_fine 34 = .ok (.iload 6, 2) := by decide +kernel
theorem dX9_fine_36 : decode cX9_fine 36 = .ok (.isub, 1) := by decide +kernel
theorem dX9_fine_37 : decode cX9_fine 37 = .ok (.iconst 0, 1) := by decide +kernel
theorem dX9_fine_38 : decode cX9_fine 38 = .ok (.invokestatic 262, 3) := by decide +kernel
theorem dX9_fine_41 : decode cX9_fine 41 = .ok (.ireturn, 1) := by decide +kernel
theorem dX9_judge_0 : decode cX9_judge 0 = .ok (.iload_n 1, 1) := by decide +kernel
theorem dX9_judge_1 : decode cX9_judge 1 = .ok (.invokestatic 151, 3) := by decide +kernel
theorem dX9_judge_4 : decode cX9_judge 4 = .ok (.ifCond .ne 5, 3) := by decide +kernel
theorem dX9_judge_7 : decode cX9_judge 7 = .ok (.iconst (-1), 1) := by decide +kernel
theorem dX9_judge_8 : decode cX9_judge 8 = .ok (.ireturn, 1) := by decide +kernel
theorem dX9_judge_9 : decode cX9_judge 9 = .ok (.iload 5, 2) := by decide +kernel
theorem dX9_judge_11 : decode cX9_judge 11 = .ok (.tableswitch 89 0 3 #[29, 53, 65, 79], 29) := by decide +kernel
theorem dX9_judge_40 : decode cX9_judge 40 = .ok (.aload_n 0, 1) := by decide +kernel
theorem dX9_judge_41 : decode cX9_judge 41 = .ok (.getfield 49, 3) := by decide +kernel
theorem dX9_judge_44 : decode cX9_judge 44 = .ok (.iload_n 1, 1) := by decide +kernel
theorem dX9_judge_45 : decode cX9_judge 45 = .ok (.iload_n 2, 1) := by decide +kernel
theorem dX9_judge_46 : decode cX9_judge 46 = .ok (.iload_n 3, 1) := by decide +kernel
theorem dX9_judge_47 : decode cX9_judge 47 = .ok (.iconst 1, 1) := by decide +kernel
theorem dX9_judge_48 : decode cX9_judge 48 = .ok (.invokevirtual 191, 3) := by decide +kernel
theorem dX9_judge_51 : decode cX9_judge 51 = .ok (.aload_n 0, 1) := by decide +kernel
theorem dX9_judge_52 : decode cX9_judge 52 = .ok (.getfield 49, 3) := by decide +kernel
theorem dX9_judge_55 : decode cX9_judge 55 = .ok (.iload_n 1, 1) := by decide +kernel
theorem dX9_judge_56 : decode cX9_judge 56 = .ok (.iload_n 2, 1) := by decide +kernel
theorem dX9_judge_57 : decode cX9_judge 57 = .ok (.iload_n 3, 1) := by decide +kernel
theorem dX9_judge_58 : decode cX9_judge 58 = .ok (.iconst 0, 1) := by decide +kernel
theorem dX9_judge_59 : decode cX9_judge 59 = .ok (.invokevirtual 191, 3) := by decide +kernel
theorem dX9_judge_62 : decode cX9_judge 62 = .ok (.iadd, 1) := by decide +kernel
theorem dX9_judge_63 : decode cX9_judge 63 = .ok (.ireturn, 1) := by decide +kernel
theorem dX9_judge_64 : decode cX9_judge 64 = .ok (.aload_n 0, 1) := by decide +kernel
theorem dX9_judge_65 : decode cX9_judge 65 = .ok (.getfield 49, 3) := by decide +kernel
theorem dX9_judge_68 : decode cX9_judge 68 = .ok (.iload_n 1, 1) := by decide +kernel
theorem dX9_judge_69 : decode cX9_judge 69 = .ok (.iload_n 2, 1) := by decide +kernel
theorem dX9_judge_70 : decode cX9_judge 70 = .ok (.iload_n 3, 1) := by decide +kernel
theorem dX9_judge_71 : decode cX9_judge 71 = .ok (.iconst 0, 1) := by decide +kernel
theorem dX9_judge_72 : decode cX9_judge 72 = .ok (.invokevirtual 191, 3) := by decide +kernel
theorem dX9_judge_75 : decode cX9_judge 75 = .ok (.ireturn, 1) := by decide +kernel
theorem dX9_judge_76 : decode cX9_judge 76 = .ok (.aload_n 0, 1) := by decide +kernel
theorem dX9_judge_77 : decode cX9_judge 77 = .ok (.getfield 49, 3) := by decide +kernel
theorem dX9_judge_80 : decode cX9_judge 80 = .ok (.iload_n 1, 1) := by decide +kernel
theorem dX9_judge_81 : decode cX9_judge 81 = .ok (.iload_n 2, 1) := by decide +kernel
theorem dX9_judge_82 : decode cX9_judge 82 = .ok (.iload_n 3, 1) := by decide +kernel
theorem dX9_judge_83 : decode cX9_judge 83 = .ok (.iconst 0, 1) := by decide +kernel
theorem dX9_judge_84 : decode cX9_judge 84 = .ok (.iload 4, 2) := by decide +kernel
theorem dX9_judge_86 : decode cX9_judge 86 = .ok (.invokevirtual 195, 3) := by decide +kernel
theorem dX9_judge_89 : decode cX9_judge 89 = .ok (.ireturn, 1) := by decide +kernel
theorem dX9_judge_90 : decode cX9_judge 90 = .ok (.aload_n 0, 1) := by decide +kernel
theorem dX9_judge_91 : decode cX9_judge 91 = .ok (.iload_n 1, 1) := by decide +kernel
theorem dX9_judge_92 : decode cX9_judge 92 = .ok (.iload_n 2, 1) := by decide +kernel
theorem dX9_judge_93 : decode cX9_judge 93 = .ok (.iload_n 3, 1) := by decide +kernel
theorem dX9_judge_94 : decode cX9_judge 94 = .ok (.iload 4, 2) := by decide +kernel
theorem dX9_judge_96 : decode cX9_judge 96 = .ok (.invokevirtual 199, 3) := by decide +kernel
theorem dX9_judge_99 : decode cX9_judge 99 = .ok (.ireturn, 1) := by decide +kernel
theorem dX9_judge_100 : decode cX9_judge 100 = .ok (.iconst (-1), 1) := by decide +kernel
theorem dX9_judge_101 : decode cX9_judge 101 = .ok (.ireturn, 1) := by decide +kernel
theorem dX9_lend_0 : decode cX9_lend 0 = .ok (.iload_n 3, 1) := by decide +kernel
theorem dX9_lend_1 : decode cX9_lend 1 = .ok (.invokestatic 151, 3) := by decide +kernel
theorem dX9_lend_4 : decode cX9_lend 4 = .ok (.ifCond .eq 11, 3) := by decide +kernel
theorem dX9_lend_7 : decode cX9_lend 7 = .ok (.iload_n 2, 1) := by decide +kernel
theorem dX9_lend_8 : decode cX9_lend 8 = .ok (.aload_n 0, 1) := by decide +kernel
theorem dX9_lend_9 : decode cX9_lend 9 = .ok (.getfield 79, 3) := by decide +kernel
theorem dX9_lend_12 : decode cX9_lend 12 = .ok (.if_icmp .gt 5, 3) := by decide +kernel
theorem dX9_lend_15 : decode cX9_lend 15 = .ok (.iconst (-1), 1) := by decide +kernel
theorem dX9_lend_16 : decode cX9_lend 16 = .ok (.ireturn, 1) := by decide +kernel
theorem dX9_lend_17 : decode cX9_lend 17 = .ok (.aload_n 0, 1) := by decide +kernel
theorem dX9_lend_18 : decode cX9_lend 18 = .ok (.getfield 35, 3) := by decide +kernel
theorem dX9_lend_21 : decode cX9_lend 21 = .ok (.iload_n 1, 1) := by decide +kernel
theorem dX9_lend_22 : decode cX9_lend 22 = .ok (.iload_n 2, 1) := by decide +kernel
theorem dX9_lend_23 : decode cX9_lend 23 = .ok (.iload_n 3, 1) := by decide +kernel
theorem dX9_lend_24 : decode cX9_lend 24 = .ok (.invokevirtual 157, 3) := by decide +kernel
theorem dX9_lend_27 : decode cX9_lend 27 = .ok (.ireturn, 1) := by decide +kernel
theorem dX9_may_0 : decode cX9_may 0 = .ok (.aload_n 0, 1) := by decide +kernel
theorem dX9_may_1 : decode cX9_may 1 = .ok (.iload_n 1, 1) := by decide +kernel
theorem dX9_may_2 : decode cX9_may 2 = .ok (.invokevirtual 144, 3) := by decide +kernel
theorem dX9_may_5 : decode cX9_may 5 = .ok (.ifCond .eq 10, 3) := by decide +kernel
theorem dX9_may_8 : decode cX9_may 8 = .ok (.iload_n 2, 1) := by decide +kernel
theorem dX9_may_9 : decode cX9_may 9 = .ok (.invokestatic 151, 3) := by decide +kernel
theorem dX9_may_12 : decode cX9_may 12 = .ok (.ifCond .ne 5, 3) := by decide +kernel
theorem dX9_may_15 : decode cX9_may 15 = .ok (.iconst (-1), 1) := by decide +kernel
theorem dX9_may_16 : decode cX9_may 16 = .ok (.ireturn, 1) := by decide +kernel
theorem dX9_may_17 : decode cX9_may 17 = .ok (.aload_n 0, 1) := by decide +kernel
theorem dX9_may_18 : decode cX9_may 18 = .ok (.iload_n 1, 1) := by decide +kernel
theorem dX9_may_19 : decode cX9_may 19 = .ok (.iload_n 2, 1) := by decide +kernel
theorem dX9_may_20 : decode cX9_may 20 = .ok (.invokevirtual 154, 3) := by decide +kernel
theorem dX9_may_23 : decode cX9_may 23 = .ok (.ireturn, 1) := by decide +kernel
theorem dX9_next_0 : decode cX9_next 0 = .ok (.aload_n 0, 1) := by decide +kernel
theorem dX9_next_1 : decode cX9_next 1 = .ok (.getfield 79, 3) := by decide +kernel
theorem dX9_next_4 : decode cX9_next 4 = .ok (.sipush 199, 3) := by decide +kernel
theorem dX9_next_7 : decode cX9_next 7 = .ok (.if_icmp .lt 5, 3) := by decide +kernel
theorem dX9_next_10 : decode cX9_next 10 = .ok (.iconst 0, 1) := by decide +kernel
theorem dX9_next_11 : decode cX9_next 11 = .ok (.ireturn, 1) := by decide +kernel
theorem dX9_next_12 : decode cX9_next 12 = .ok (.aload_n 0, 1) := by decide +kernel
theorem dX9_next_13 : decode cX9_next 13 = .ok (.dup, 1) := by decide +kernel
theorem dX9_next_14 : decode cX9_next 14 = .ok (.getfield 79, 3) := by decide +kernel
theorem dX9_next_17 : decode cX9_next 17 = .ok (.iconst 1, 1) := by decide +kernel
theorem dX9_next_18 : decode cX9_next 18 = .ok (.iadd, 1) := by decide +kernel
theorem dX9_next_19 : decode cX9_next 19 = .ok (.putfield 79, 3) := by decide +kernel
theorem dX9_next_22 : decode cX9_next 22 = .ok (.aload_n 0, 1) := by decide +kernel
theorem dX9_next_23 : decode cX9_next 23 = .ok (.getfield 42, 3) := by decide +kernel
theorem dX9_next_26 : decode cX9_next 26 = .ok (.aload_n 0, 1) := by decide +kernel
theorem dX9_next_27 : decode cX9_next 27 = .ok (.getfield 42, 3) := by decide +kernel
theorem dX9_next_30 : decode cX9_next 30 = .ok (.aload_n 0, 1) := by decide +kernel
theorem dX9_next_31 : decode cX9_next 31 = .ok (.getfield 28, 3) := by decide +kernel
theorem dX9_next_34 : decode cX9_next 34 = .ok (.invokevirtual 140, 3) := by decide +kernel
theorem dX9_next_37 : decode cX9_next 37 = .ok (.aload_n 0, 1) := by decide +kernel
theorem dX9_next_38 : decode cX9_next 38 = .ok (.invokevirtual 134, 3) := by decide +kernel
theorem dX9_next_41 : decode cX9_next 41 = .ok (.iconst 1, 1) := by decide +kernel
theorem dX9_next_42 : decode cX9_next 42 = .ok (.ireturn, 1) := by decide +kernel
theorem dX9_owner_0 : decode cX9_owner 0 = .ok (.aload_n 0, 1) := by decide +kernel
theorem dX9_owner_1 : decode cX9_owner 1 = .ok (.getfield 35, 3) := by decide +kernel
theorem dX9_owner_4 : decode cX9_owner 4 = .ok (.iload_n 1, 1) := by decide +kernel
theorem dX9_owner_5 : decode cX9_owner 5 = .ok (.iload_n 2, 1) := by decide +kernel
theorem dX9_owner_6 : decode cX9_owner 6 = .ok (.invokevirtual 147, 3) := by decide +kernel
theorem dX9_owner_9 : decode cX9_owner 9 = .ok (.ireturn, 1) := by decide +kernel
theorem dX9_report_0 : decode cX9_report 0 = .ok (.aload_n 0, 1) := by decide +kernel
theorem dX9_report_1 : decode cX9_report 1 = .ok (.getfield 49, 3) := by decide +kernel
theorem dX9_report_4 : decode cX9_report 4 = .ok (.iload_n 1, 1) := by decide +kernel
theorem dX9_report_5 : decode cX9_report 5 = .ok (.invokevirtual 175, 3) := by decide +kernel
theorem dX9_report_8 : decode cX9_report 8 = .ok (.ifCond .eq 18, 3) := by decide +kernel
theorem dX9_report_11 : decode cX9_report 11 = .ok (.aload_n 0, 1) := by decide +kernel
theorem dX9_report_12 : decode cX9_report 12 = .ok (.getfield 49, 3) := by decide +kernel
theorem dX9_report_15 : decode cX9_report 15 = .ok (.getfield 178, 3) := by decide +kernel
theorem dX9_report_18 : decode cX9_report 18 = .ok (.iconst 5, 1) := by decide +kernel
theorem dX9_report_19 : decode cX9_report 19 = .ok (.aaload, 1) := by decide +kernel
theorem dX9_report_20 : decode cX9_report 20 = .ok (.iload_n 1, 1) := by decide +kernel
theorem dX9_report_21 : decode cX9_report 21 = .ok (.iaload, 1) := by decide +kernel
theorem dX9_report_22 : decode cX9_report 22 = .ok (.iconst (-1), 1) := by decide +kernel
theorem dX9_report_23 : decode cX9_report 23 = .ok (.if_icmp .eq 5, 3) := by decide +kernel
theorem dX9_report_26 : decode cX9_report 26 = .ok (.iconst 0, 1) := by decide +kernel
theorem dX9_report_27 : decode cX9_report 27 = .ok (.ireturn, 1) := by decide +kernel
theorem dX9_report_28 : decode cX9_report 28 = .ok (.aload_n 0, 1) := by decide +kernel
theorem dX9_report_29 : decode cX9_report 29 = .ok (.getfield 49, 3) := by decide +kernel
theorem dX9_report_32 : decode cX9_report 32 = .ok (.getfield 178, 3) := by decide +kernel
theorem dX9_report_35 : decode cX9_report 35 = .ok (.iconst 5, 1) := by decide +kernel
theorem dX9_report_36 : decode cX9_report 36 = .ok (.aaload, 1) := by decide +kernel
theorem dX9_report_37 : decode cX9_report 37 = .ok (.iload_n 1, 1) := by decide +kernel
theorem dX9_report_38 : decode cX9_report 38 = .ok (.aload_n 0, 1) := by decide +kernel
theorem dX9_report_39 : decode cX9_report 39 = .ok (.getfield 79, 3) := by decide +kernel
theorem dX9_report_42 : decode cX9_report 42 = .ok (.iastore, 1) := by decide +kernel
theorem dX9_report_43 : decode cX9_report 43 = .ok (.iconst 1, 1) := by decide +kernel
theorem dX9_report_44 : decode cX9_report 44 = .ok (.ireturn, 1) := by decide +kernel
theorem dX9_rights_0 : decode cX9_rights 0 = .ok (.aload_n 0, 1) := by decide +kernel
theorem dX9_rights_1 : decode cX9_rights 1 = .ok (.getfield 67, 3) := by decide +kernel
theorem dX9_rights_4 : decode cX9_rights 4 = .ok (.invokevirtual 117, 3) := by decide +kernel
theorem dX9_rights_7 : decode cX9_rights 7 = .ok (.aload_n 0, 1) := by decide +kernel
theorem dX9_rights_8 : decode cX9_rights 8 = .ok (.getfield 21, 3) := by decide +kernel
theorem dX9_rights_11 : decode cX9_rights 11 = .ok (.aload_n 0, 1) := by decide +kernel
theorem dX9_rights_12 : decode cX9_rights 12 = .ok (.getfield 67, 3) := by decide +kernel
theorem dX9_rights_15 : decode cX9_rights 15 = .ok (.invokevirtual 120, 3) := by decide +kernel
theorem dX9_rights_18 : decode cX9_rights 18 = .ok (.istore_n 1, 1) := by decide +kernel
theorem dX9_rights_19 : decode cX9_rights 19 = .ok (.aload_n 0, 1) := by decide +kernel
theorem dX9_rights_20 : decode cX9_rights 20 = .ok (.getfield 10, 3) := by decide +kernel
theorem dX9_rights_23 : decode cX9_rights 23 = .ok (.iconst 0, 1) := by decide +kernel
theorem dX9_rights_24 : decode cX9_rights 24 = .ok (.putfield 86, 3) := by decide +kernel
theorem dX9_rights_27 : decode cX9_rights 27 = .ok (.aload_n 0, 1) := by decide +kernel
theorem dX9_rights_28 : decode cX9_rights 28 = .ok (.aload_n 0, 1) := by decide +kernel
theorem dX9_rights_29 : decode cX9_rights 29 = .ok (.getfield 21, 3) := by decide +kernel
theorem dX9_rights_32 : decode cX9_rights 32 = .ok (.getfield 124, 3) := by decide +kernel
theorem dX9_rights_35 : decode cX9_rights 35 = .ok (.putfield 83, 3) := by decide +kernel
theorem dX9_rights_38 : decode cX9_rights 38 = .ok (.iload_n 1, 1) := by decide +kernel
theorem dX9_rights_39 : decode cX9_rights 39 = .ok (.ifCond .ne 13, 3) := by decide +kernel
theorem dX9_rights_42 : decode cX9_rights 42 = .ok (.iconst (-1), 1) := by decide +kernel
theorem dX9_rights_43 : decode cX9_rights 43 = .ok (.aload_n 0, 1) := by decide +kernel
theorem dX9_rights_44 : decode cX9_rights 44 = .ok (.getfield 21, 3) := by decide +kernel
theorem dX9_rights_47 : decode cX9_rights 47 = .ok (.getfield 127, 3) := by decide +kernel
theorem dX9_rights_50 : decode cX9_rights 50 = .ok (.isub, 1) := by decide +kernel
theorem dX9_rights_51 : decode cX9_rights 51 = .ok (.ireturn, 1) := by decide +kernel
theorem dX9_rights_52 : decode cX9_rights 52 = .ok (.aload_n 0, 1) := by decide +kernel
theorem dX9_rights_53 : decode cX9_rights 53 = .ok (.getfield 63, 3) := by decide +kernel
theorem dX9_rights_56 : decode cX9_rights 56 = .ok (.astore_n 2, 1) := by decide +kernel
theorem dX9_rights_57 : decode cX9_rights 57 = .ok (.aload_n 0, 1) := by decide +kernel
theorem dX9_rights_58 : decode cX9_rights 58 = .ok (.aload_n 0, 1) := by decide +kernel
theorem dX9_rights_59 : decode cX9_rights 59 = .ok (.getfield 67, 3) := by decide +kernel
theorem dX9_rights_62 : decode cX9_rights 62 = .ok (.putfield 63, 3) := by decide +kernel
theorem dX9_rights_65 : decode cX9_rights 65 = .ok (.aload_n 0, 1) := by decide +kernel
theorem dX9_rights_66 : decode cX9_rights 66 = .ok (.aload_n 2, 1) := by decide +kernel
theorem dX9_rights_67 : decode cX9_rights 67 = .ok (.putfield 67, 3) := by decide +kernel
theorem dX9_rights_70 : decode cX9_rights 70 = .ok (.aload_n 0, 1) := by decide +kernel
theorem dX9_rights_71 : decode cX9_rights 71 = .ok (.getfield 35, 3) := by decide +kernel
theorem dX9_rights_74 : decode cX9_rights 74 = .ok (.aload_n 0, 1) := by decide +kernel
theorem dX9_rights_75 : decode cX9_rights 75 = .ok (.getfield 63, 3) := by decide +kernel
theorem dX9_rights_78 : decode cX9_rights 78 = .ok (.aload_n 0, 1) := by decide +kernel
theorem dX9_rights_79 : decode cX9_rights 79 = .ok (.getfield 79, 3) := by decide +kernel
theorem dX9_rights_82 : decode cX9_rights 82 = .ok (.invokevirtual 130, 3) := by decide +kernel
theorem dX9_rights_85 : decode cX9_rights 85 = .ok (.aload_n 0, 1) := by decide +kernel
theorem dX9_rights_86 : decode cX9_rights 86 = .ok (.invokevirtual 134, 3) := by decide +kernel
theorem dX9_rights_89 : decode cX9_rights 89 = .ok (.aload_n 0, 1) := by decide +kernel
theorem dX9_rights_90 : decode cX9_rights 90 = .ok (.getfield 63, 3) := by decide +kernel
theorem dX9_rights_93 : decode cX9_rights 93 = .ok (.getfield 137, 3) := by decide +kernel
theorem dX9_rights_96 : decode cX9_rights 96 = .ok (.ireturn, 1) := by decide +kernel
theorem dX9_settleToday_0 : decode cX9_settleToday 0 = .ok (.aload_n 0, 1) := by decide +kernel
theorem dX9_settleToday_1 : decode cX9_settleToday 1 = .ok (.getfield 42, 3) := by decide +kernel
theorem dX9_settleToday_4 : decode cX9_settleToday 4 = .ok (.aload_n 0, 1) := by decide +kernel
theorem dX9_settleToday_5 : decode cX9_settleToday 5 = .ok (.getfield 63, 3) := by decide +kernel
theorem dX9_settleToday_8 : decode cX9_settleToday 8 = .ok (.aload_n 0, 1) := by decide +kernel
theorem dX9_settleToday_9 : decode cX9_settleToday 9 = .ok (.getfield 35, 3) := by decide +kernel
theorem dX9_settleToday_12 : decode cX9_settleToday 12 = .ok (.aload_n 0, 1) := by decide +kernel
theorem dX9_settleToday_13 : decode cX9_settleToday 13 = .ok (.getfield 79, 3) := by decide +kernel
theorem dX9_settleToday_16 : decode cX9_settleToday 16 = .ok (.invokevirtual 250, 3) := by decide +kernel
theorem dX9_settleToday_19 : decode cX9_settleToday 19 = .ok (.aload_n 0, 1) := by decide +kernel
theorem dX9_settleToday_20 : decode cX9_settleToday 20 = .ok (.getfield 35, 3) := by decide +kernel
theorem dX9_settleToday_23 : decode cX9_settleToday 23 = .ok (.aload_n 0, 1) := by decide +kernel
theorem dX9_settleToday_24 : decode cX9_settleToday 24 = .ok (.getfield 42, 3) := by decide +kernel
theorem dX9_settleToday_27 : decode cX9_settleToday 27 = .ok (.aload_n 0, 1) := by decide +kernel
theorem dX9_settleToday_28 : decode cX9_settleToday 28 = .ok (.getfield 79, 3) := by decide +kernel
theorem dX9_settleToday_31 : decode cX9_settleToday 31 = .ok (.invokevirtual 254, 3) := by decide +kernel
theorem dX9_settleToday_34 : decode cX9_settleToday 34 = .ok (.return_, 1) := by decide +kernel
theorem dX9_standing_0 : decode cX9_standing 0 = .ok (.aload_n 0, 1) := by decide +kernel
theorem dX9_standing_1 : decode cX9_standing 1 = .ok (.getfield 42, 3) := by decide +kernel
theorem dX9_standing_4 : decode cX9_standing 4 = .ok (.aload_n 0, 1) := by decide +kernel
theorem dX9_standing_5 : decode cX9_standing 5 = .ok (.getfield 63, 3) := by decide +kernel
theorem dX9_standing_8 : decode cX9_standing 8 = .ok (.iload_n 1, 1) := by decide +kernel
theorem dX9_standing_9 : decode cX9_standing 9 = .ok (.iload_n 2, 1) := by decide +kernel
theorem dX9_standing_10 : decode cX9_standing 10 = .ok (.invokevirtual 258, 3) := by decide +kernel
theorem dX9_standing_13 : decode cX9_standing 13 = .ok (.ifCond .eq 5, 3) := by decide +kernel
theorem dX9_standing_16 : decode cX9_standing 16 = .ok (.iconst 1, 1) := by decide +kernel
theorem dX9_standing_17 : decode cX9_standing 17 = .ok (.ireturn, 1) := by decide +kernel
theorem dX9_standing_18 : decode cX9_standing 18 = .ok (.aload_n 0, 1) := by decide +kernel
theorem dX9_standing_19 : decode cX9_standing 19 = .ok (.getfield 42, 3) := by decide +kernel
theorem dX9_standing_22 : decode cX9_standing 22 = .ok (.aload_n 0, 1) := by decide +kernel
theorem dX9_standing_23 : decode cX9_standing 23 = .ok (.getfield 63, 3) := by decide +kernel
theorem dX9_standing_26 : decode cX9_standing 26 = .ok (.iload_n 1, 1) := by decide +kernel
theorem dX9_standing_27 : decode cX9_standing 27 = .ok (.iload_n 2, 1) := by decide +kernel
theorem dX9_standing_28 : decode cX9_standing 28 = .ok (.invokevirtual 167, 3) := by decide +kernel
theorem dX9_standing_31 : decode cX9_standing 31 = .ok (.iconst (-1), 1) := by decide +kernel
theorem dX9_standing_32 : decode cX9_standing 32 = .ok (.if_icmp .ne 7, 3) := by decide +kernel
theorem dX9_standing_35 : decode cX9_standing 35 = .ok (.iconst 0, 1) := by decide +kernel
theorem dX9_standing_36 : decode cX9_standing 36 = .ok (.goto 4, 3) := by decide +kernel
theorem dX9_standing_39 : decode cX9_standing 39 = .ok (.iconst 2, 1) := by decide +kernel
theorem dX9_standing_40 : decode cX9_standing 40 = .ok (.ireturn, 1) := by decide +kernel
theorem dX9_take_0 : decode cX9_take 0 = .ok (.aload_n 0, 1) := by decide +kernel
theorem dX9_take_1 : decode cX9_take 1 = .ok (.iload_n 1, 1) := by decide +kernel
theorem dX9_take_2 : decode cX9_take 2 = .ok (.iload_n 2, 1) := by decide +kernel
theorem dX9_take_3 : decode cX9_take 3 = .ok (.iload_n 3, 1) := by decide +kernel
theorem dX9_take_4 : decode cX9_take 4 = .ok (.invokevirtual 161, 3) := by decide +kernel
theorem dX9_take_7 : decode cX9_take 7 = .ok (.ifCond .ne 5, 3) := by decide +kernel
theorem dX9_take_10 : decode cX9_take 10 = .ok (.iconst 1, 1) := by decide +kernel
theorem dX9_take_11 : decode cX9_take 11 = .ok (.ireturn, 1) := by decide +kernel
theorem dX9_take_12 : decode cX9_take 12 = .ok (.aload_n 0, 1) := by decide +kernel
theorem dX9_take_13 : decode cX9_take 13 = .ok (.iload_n 1, 1) := by decide +kernel
theorem dX9_take_14 : decode cX9_take 14 = .ok (.iload_n 2, 1) := by decide +kernel
theorem dX9_take_15 : decode cX9_take 15 = .ok (.invokevirtual 154, 3) := by decide +kernel
theorem dX9_take_18 : decode cX9_take 18 = .ok (.iconst 1, 1) := by decide +kernel
theorem dX9_take_19 : decode cX9_take 19 = .ok (.if_icmp .ne 5, 3) := by decide +kernel
theorem dX9_take_22 : decode cX9_take 22 = .ok (.iconst 5, 1) := by decide +kernel
theorem dX9_take_23 : decode cX9_take 23 = .ok (.ireturn, 1) := by decide +kernel
theorem dX9_take_24 : decode cX9_take 24 = .ok (.iload_n 3, 1) := by decide +kernel
theorem dX9_take_25 : decode cX9_take 25 = .ok (.aload_n 0, 1) := by decide +kernel
theorem dX9_take_26 : decode cX9_take 26 = .ok (.getfield 42, 3) := by decide +kernel
theorem dX9_take_29 : decode cX9_take 29 = .ok (.getfield 111, 3) := by decide +kernel
theorem dX9_take_32 : decode cX9_take 32 = .ok (.iload_n 1, 1) := by decide +kernel
theorem dX9_take_33 : decode cX9_take 33 = .ok (.iaload, 1) := by decide +kernel
theorem dX9_take_34 : decode cX9_take 34 = .ok (.if_icmp .le 5, 3) := by decide +kernel
theorem dX9_take_37 : decode cX9_take 37 = .ok (.iconst 4, 1) := by decide +kernel
theorem dX9_take_38 : decode cX9_take 38 = .ok (.ireturn, 1) := by decide +kernel
theorem dX9_take_39 : decode cX9_take 39 = .ok (.aload_n 0, 1) := by decide +kernel
theorem dX9_take_40 : decode cX9_take 40 = .ok (.getfield 42, 3) := by decide +kernel
theorem dX9_take_43 : decode cX9_take 43 = .ok (.getfield 111, 3) := by decide +kernel
theorem dX9_take_46 : decode cX9_take 46 = .ok (.iload_n 1, 1) := by decide +kernel
theorem dX9_take_47 : decode cX9_take 47 = .ok (.dup2, 1) := by decide +kernel
theorem dX9_take_48 : decode cX9_take 48 = .ok (.iaload, 1) := by decide +kernel
theorem dX9_take_49 : decode cX9_take 49 = .ok (.iload_n 3, 1) := by decide +kernel
theorem dX9_take_50 : decode cX9_take 50 = .ok (.isub, 1) := by decide +kernel
theorem dX9_take_51 : decode cX9_take 51 = .ok (.iastore, 1) := by decide +kernel
theorem dX9_take_52 : decode cX9_take 52 = .ok (.aload_n 0, 1) := by decide +kernel
theorem dX9_take_53 : decode cX9_take 53 = .ok (.getfield 49, 3) := by decide +kernel
theorem dX9_take_56 : decode cX9_take 56 = .ok (.aload_n 0, 1) := by decide +kernel
theorem dX9_take_57 : decode cX9_take 57 = .ok (.getfield 79, 3) := by decide +kernel
theorem dX9_take_60 : decode cX9_take 60 = .ok (.iload_n 1, 1) := by decide +kernel
theorem dX9_take_61 : decode cX9_take 61 = .ok (.iload_n 2, 1) := by decide +kernel
theorem dX9_take_62 : decode cX9_take 62 = .ok (.iload_n 3, 1) := by decide +kernel
theorem dX9_take_63 : decode cX9_take 63 = .ok (.iconst 0, 1) := by decide +kernel
theorem dX9_take_64 : decode cX9_take 64 = .ok (.invokevirtual 171, 3) := by decide +kernel
theorem dX9_take_67 : decode cX9_take 67 = .ok (.iconst 0, 1) := by decide +kernel
theorem dX9_take_68 : decode cX9_take 68 = .ok (.ireturn, 1) := by decide +kernel
theorem dX9_water_0 : decode cX9_water 0 = .ok (.aload_n 0, 1) := by decide +kernel
theorem dX9_water_1 : decode cX9_water 1 = .ok (.iload_n 1, 1) := by decide +kernel
theorem dX9_water_2 : decode cX9_water 2 = .ok (.invokevirtual 144, 3) := by decide +kernel
theorem dX9_water_5 : decode cX9_water 5 = .ok (.ifCond .ne 5, 3) := by decide +kernel
theorem dX9_water_8 : decode cX9_water 8 = .ok (.iconst (-1), 1) := by decide +kernel
theorem dX9_water_9 : decode cX9_water 9 = .ok (.ireturn, 1) := by decide +kernel
theorem dX9_water_10 : decode cX9_water 10 = .ok (.iload_n 2, 1) := by decide +kernel
theorem dX9_water_11 : decode cX9_water 11 = .ok (.tableswitch 69 0 3 #[29, 39, 49, 59], 29) := by decide +kernel
theorem dX9_water_40 : decode cX9_water 40 = .ok (.aload_n 0, 1) := by decide +kernel
theorem dX9_water_41 : decode cX9_water 41 = .ok (.getfield 42, 3) := by decide +kernel
theorem dX9_water_44 : decode cX9_water 44 = .ok (.getfield 111, 3) := by decide +kernel
theorem dX9_water_47 : decode cX9_water 47 = .ok (.iload_n 1, 1) := by decide +kernel
theorem dX9_water_48 : decode cX9_water 48 = .ok (.iaload, 1) := by decide +kernel
theorem dX9_water_49 : decode cX9_water 49 = .ok (.ireturn, 1) := by decide +kernel
theorem dX9_water_50 : decode cX9_water 50 = .ok (.aload_n 0, 1) := by decide +kernel
theorem dX9_water_51 : decode cX9_water 51 = .ok (.getfield 42, 3) := by decide +kernel
theorem dX9_water_54 : decode cX9_water 54 = .ok (.getfield 114, 3) := by decide +kernel
theorem dX9_water_57 : decode cX9_water 57 = .ok (.iload_n 1, 1) := by decide +kernel
theorem dX9_water_58 : decode cX9_water 58 = .ok (.iaload, 1) := by decide +kernel
theorem dX9_water_59 : decode cX9_water 59 = .ok (.ireturn, 1) := by decide +kernel
theorem dX9_water_60 : decode cX9_water 60 = .ok (.aload_n 0, 1) := by decide +kernel
theorem dX9_water_61 : decode cX9_water 61 = .ok (.getfield 28, 3) := by decide +kernel
theorem dX9_water_64 : decode cX9_water 64 = .ok (.getfield 104, 3) := by decide +kernel
theorem dX9_water_67 : decode cX9_water 67 = .ok (.iload_n 1, 1) := by decide +kernel
theorem dX9_water_68 : decode cX9_water 68 = .ok (.iaload, 1) := by decide +kernel
theorem dX9_water_69 : decode cX9_water 69 = .ok (.ireturn, 1) := by decide +kernel
theorem dX9_water_70 : decode cX9_water 70 = .ok (.aload_n 0, 1) := by decide +kernel
theorem dX9_water_71 : decode cX9_water 71 = .ok (.getfield 28, 3) := by decide +kernel
theorem dX9_water_74 : decode cX9_water 74 = .ok (.getfield 108, 3) := by decide +kernel
theorem dX9_water_77 : decode cX9_water 77 = .ok (.iload_n 1, 1) := by decide +kernel
theorem dX9_water_78 : decode cX9_water 78 = .ok (.iaload, 1) := by decide +kernel
theorem dX9_water_79 : decode cX9_water 79 = .ok (.ireturn, 1) := by decide +kernel
theorem dX9_water_80 : decode cX9_water 80 = .ok (.iconst (-1), 1) := by decide +kernel
theorem dX9_water_81 : decode cX9_water 81 = .ok (.ireturn, 1) := by decide +kernel
theorem dX9_well_0 : decode cX9_well 0 = .ok (.iload_n 1, 1) := by decide +kernel
theorem dX9_well_1 : decode cX9_well 1 = .ok (.invokestatic 93, 3) := by decide +kernel
theorem dX9_well_4 : decode cX9_well 4 = .ok (.ifCond .eq 14, 3) := by decide +kernel
theorem dX9_well_7 : decode cX9_well 7 = .ok (.aload_n 0, 1) := by decide +kernel
theorem dX9_well_8 : decode cX9_well 8 = .ok (.getfield 28, 3) := by decide +kernel
theorem dX9_well_11 : decode cX9_well 11 = .ok (.iload_n 1, 1) := by decide +kernel
theorem dX9_well_12 : decode cX9_well 12 = .ok (.invokevirtual 97, 3) := by decide +kernel
theorem dX9_well_15 : decode cX9_well 15 = .ok (.ifCond .eq 5, 3) := by decide +kernel
theorem dX9_well_18 : decode cX9_well 18 = .ok (.iconst 0, 1) := by decide +kernel
theorem dX9_well_19 : decode cX9_well 19 = .ok (.ireturn, 1) := by decide +kernel
theorem dX9_well_20 : decode cX9_well 20 = .ok (.iload_n 2, 1) := by decide +kernel
theorem dX9_well_21 : decode cX9_well 21 = .ok (.iconst 1, 1) := by decide +kernel
theorem dX9_well_22 : decode cX9_well 22 = .ok (.sipush 1000, 3) := by decide +kernel
theorem dX9_well_25 : decode cX9_well 25 = .ok (.invokestatic 100, 3) := by decide +kernel
theorem dX9_well_28 : decode cX9_well 28 = .ok (.ifCond .eq 24, 3) := by decide +kernel
theorem dX9_well_31 : decode cX9_well 31 = .ok (.iload_n 3, 1) := by decide +kernel
theorem dX9_well_32 : decode cX9_well 32 = .ok (.iconst 0, 1) := by decide +kernel
theorem dX9_well_33 : decode cX9_well 33 = .ok (.sipush 200, 3) := by decide +kernel
theorem dX9_well_36 : decode cX9_well 36 = .ok (.invokestatic 100, 3) := by decide +kernel
theorem dX9_well_39 : decode cX9_well 39 = .ok (.ifCond .eq 13, 3) := by decide +kernel
theorem dX9_well_42 : decode cX9_well 42 = .ok (.iload 4, 2) := by decide +kernel
theorem dX9_well_44 : decode cX9_well 44 = .ok (.iconst 0, 1) := by decide +kernel
theorem dX9_well_45 : decode cX9_well 45 = .ok (.iload_n 2, 1) := by decide +kernel
theorem dX9_well_46 : decode cX9_well 46 = .ok (.invokestatic 100, 3) := by decide +kernel
theorem dX9_well_49 : decode cX9_well 49 = .ok (.ifCond .ne 5, 3) := by decide +kernel
theorem dX9_well_52 : decode cX9_well 52 = .ok (.iconst 0, 1) := by decide +kernel
theorem dX9_well_53 : decode cX9_well 53 = .ok (.ireturn, 1) := by decide +kernel
theorem dX9_well_54 : decode cX9_well 54 = .ok (.aload_n 0, 1) := by decide +kernel
theorem dX9_well_55 : decode cX9_well 55 = .ok (.getfield 28, 3) := by decide +kernel
theorem dX9_well_58 : decode cX9_well 58 = .ok (.getfield 104, 3) := by decide +kernel
theorem dX9_well_61 : decode cX9_well 61 = .ok (.iload_n 1, 1) := by decide +kernel
theorem dX9_well_62 : decode cX9_well 62 = .ok (.iload_n 2, 1) := by decide +kernel
theorem dX9_well_63 : decode cX9_well 63 = .ok (.iastore, 1) := by decide +kernel
theorem dX9_well_64 : decode cX9_well 64 = .ok (.aload_n 0, 1) := by decide +kernel
theorem dX9_well_65 : decode cX9_well 65 = .ok (.getfield 28, 3) := by decide +kernel
theorem dX9_well_68 : decode cX9_well 68 = .ok (.getfield 108, 3) := by decide +kernel
theorem dX9_well_71 : decode cX9_well 71 = .ok (.iload_n 1, 1) := by decide +kernel
theorem dX9_well_72 : decode cX9_well 72 = .ok (.iload_n 3, 1) := by decide +kernel
theorem dX9_well_73 : decode cX9_well 73 = .ok (.iastore, 1) := by decide +kernel
theorem dX9_well_74 : decode cX9_well 74 = .ok (.aload_n 0, 1) := by decide +kernel
theorem dX9_well_75 : decode cX9_well 75 = .ok (.getfield 42, 3) := by decide +kernel
theorem dX9_well_78 : decode cX9_well 78 = .ok (.getfield 111, 3) := by decide +kernel
theorem dX9_well_81 : decode cX9_well 81 = .ok (.iload_n 1, 1) := by decide +kernel
theorem dX9_well_82 : decode cX9_well 82 = .ok (.iload 4, 2) := by decide +kernel
theorem dX9_well_84 : decode cX9_well 84 = .ok (.iastore, 1) := by decide +kernel
theorem dX9_well_85 : decode cX9_well 85 = .ok (.aload_n 0, 1) := by decide +kernel
theorem dX9_well_86 : decode cX9_well 86 = .ok (.getfield 42, 3) := by decide +kernel
theorem dX9_well_89 : decode cX9_well 89 = .ok (.getfield 114, 3) := by decide +kernel
theorem dX9_well_92 : decode cX9_well 92 = .ok (.iload_n 1, 1) := by decide +kernel
theorem dX9_well_93 : decode cX9_well 93 = .ok (.iload 4, 2) := by decide +kernel
theorem dX9_well_95 : decode cX9_well 95 = .ok (.iastore, 1) := by decide +kernel
theorem dX9_well_96 : decode cX9_well 96 = .ok (.iconst 1, 1) := by decide +kernel
theorem dX9_well_97 : decode cX9_well 97 = .ok (.ireturn, 1) := by decide +kernel
set_option maxHeartbeats 4000000 in
set_option maxRecDepth 100000 in
/-- WellCourt.settleToday -/
theorem s_settleToday (l : Launch) (G : va_G) (cy : Nat → ClassId) (sK sV : Nat → Nat) (ad : Nat → Nat → Nat) (sz : Nat) (st : gS) (hB : gBd bX st) : gsMv l yX9_settleToday cX9_settleToday 1 ({ frames := 3, cells := 0, slots := 0, locals := 67 } : Room) G cy sK sV (shX cy ad) cnX ad sz [.ref (ad 0 0)] st (fun (u : gS) => gBN bX kX [1100, 1500] st u ∧ (True)) := by
  refine gs_start (fun A => gsQv G (shX cy ad) cnX ad _ A) (by decide) (Nat.le_of_ble_eq_true rfl) ?_
  intro p e s m below meth c A ls H hx hb hr hml hlocks hown hts hK hov hE hI hM hm hS hA hl
  have hl : lv_has ls 1 [(0, .ref (ad 0 0))] := hl
  have hB_st : gBN bX kX [1100, 1500] st st := gBN.rf hB
  refine lv_aload_n hx hb dX9_settleToday_0 rfl (lv_at hl 0 rfl) ?_
  refine gs_get (C := RX9) (T := TX9) (N := 12) hx hb hts inX9 hown hK hM 0 0 4 (by decide) rfl rfl (by decide) (hts _ gm_295) (fun _ h9 => h9) rfl dX9_settleToday_1 ?_
  refine lv_aload_n hx hb dX9_settleToday_4 rfl (lv_at hl 0 rfl) ?_
  refine gs_get (C := RX9) (T := TX9) (N := 12) hx hb hts inX9 hown hK hM 0 0 7 (by decide) rfl rfl (by decide) (hts _ gm_298) (fun _ h9 => h9) rfl dX9_settleToday_5 ?_
  have h_1 : (0 : Int) ≤ (st 0 0 7).toInt ∧ (st 0 0 7).toInt ≤ (1 : Int) := hB_st.1 0 0 7
  refine lv_aload_n hx hb dX9_settleToday_8 rfl (lv_at hl 0 rfl) ?_
  refine gs_get (C := RX9) (T := TX9) (N := 12) hx hb hts inX9 hown hK hM 0 0 3 (by decide) rfl rfl (by decide) (hts _ gm_294) (fun _ h9 => h9) rfl dX9_settleToday_9 ?_
  refine lv_aload_n hx hb dX9_settleToday_12 rfl (lv_at hl 0 rfl) ?_
  refine gs_get (C := RX9) (T := TX9) (N := 12) hx hb hts inX9 hown hK hM 0 0 10 (by decide) rfl rfl (by decide) (hts _ gm_301) (fun _ h9 => h9) rfl dX9_settleToday_13 ?_
  have bf_2 : (0 : Int) ≤ (st 0 0 10).toInt ∧ (st 0 0 10).toInt ≤ (199 : Int) := hB_st.1 0 0 10
  refine gs_callv (va_runV (As := [.ref (ad 25 ((st 0 0 7).toNatClampNeg)), .ref (ad 9 0), .int (st 0 0 10)]) (rest := []) ⟨hx, hb, hml, hown, hts⟩ (s_X1_settle l G cy sK sV ad H.size st hB_st.1 15 (st 0 0 7) (st 0 0 10) ((st 0 0 10).toInt) rfl (by decide) h_1 ) ⟨(gz_cb (n := 3) hts gm_547 gm_7 gm_550 ⟨by decide +kernel, by decide +kernel, by decide +kernel⟩ ⟨Nat.le_of_ble_eq_true rfl, Nat.le_of_ble_eq_true rfl⟩), hts _ gm_548, hts _ gm_549⟩ (gs_preV hK hov hE hI hM hm hS hA 12 15 (by decide) rfl rfl) rfl rfl hl.1 rfl (lv_room (Nat.le_of_ble_eq_true rfl)) dX9_settleToday_16 ⟨Nat.le_of_ble_eq_true rfl, Nat.le_of_ble_eq_true rfl⟩) hm hS hA (fun st_3 H locs hw_3 hM hS => ?_)
  obtain ⟨n_3, hw_3⟩ := hw_3
  have hB_st_3 : gBN bX kX [1100, 1500] st st_3 := hB_st.call n_3 (by decide)
  refine lv_aload_n hx hb dX9_settleToday_19 rfl (lv_at hl 0 rfl) ?_
  refine gs_get (C := RX9) (T := TX9) (N := 12) hx hb hts inX9 hown hK hM 0 0 3 (by decide) rfl rfl (by decide) (hts _ gm_294) (fun _ h9 => h9) rfl dX9_settleToday_20 ?_
  refine lv_aload_n hx hb dX9_settleToday_23 rfl (lv_at hl 0 rfl) ?_
  refine gs_get (C := RX9) (T := TX9) (N := 12) hx hb hts inX9 hown hK hM 0 0 4 (by decide) rfl rfl (by decide) (hts _ gm_295) (fun _ h9 => h9) rfl dX9_settleToday_24 ?_
  refine lv_aload_n hx hb dX9_settleToday_27 rfl (lv_at hl 0 rfl) ?_
  refine gs_get (C := RX9) (T := TX9) (N := 12) hx hb hts inX9 hown hK hM 0 0 10 (by decide) rfl rfl (by decide) (hts _ gm_301) (fun _ h9 => h9) rfl dX9_settleToday_28 ?_
  refine lv_topi (fun x_4 ex_4 => ?_)
  have ex_4 : (st 0 0 10) = x_4 := Eq.symm (ex_4.trans (n_3.2 0 0 10 (show (10 : Nat) ∉ _ from by decide)))
  subst ex_4
  have bf_5 : (0 : Int) ≤ (st 0 0 10).toInt ∧ (st 0 0 10).toInt ≤ (199 : Int) := hB_st.1 0 0 10
  refine gs_callv (va_runV (As := [.ref (ad 12 15), .int (st 0 0 10)]) (rest := []) ⟨hx, hb, hml, hown, hts⟩ (s_X0_keep l G cy sK sV ad H.size st_3 hB_st_3.1 15 (st 0 0 10) ((st 0 0 10).toInt) rfl (by decide) ) ⟨(gz_cb (n := 2) hts gm_563 gm_5 gm_566 ⟨by decide +kernel, by decide +kernel, by decide +kernel⟩ ⟨Nat.le_of_ble_eq_true rfl, Nat.le_of_ble_eq_true rfl⟩), hts _ gm_564, hts _ gm_565⟩ (gs_preV hK hov hE hI hM hm hS hA 9 0 (by decide) rfl rfl) rfl rfl hl.1 rfl (lv_room (Nat.le_of_ble_eq_true rfl)) dX9_settleToday_31 ⟨Nat.le_of_ble_eq_true rfl, Nat.le_of_ble_eq_true rfl⟩) hm hS hA (fun st_6 H locs hw_6 hM hS => ?_)
  obtain ⟨n_6, hw_6⟩ := hw_6
  have hB_st_6 : gBN bX kX [1100, 1500] st st_6 := hB_st_3.call n_6 (by decide)
  exact gs_vret hx hb hr hlocks hM hS ⟨hB_st_6, trivial⟩ (by exact Nat.le_refl _) (by exact Nat.le_refl _) dX9_settleToday_34

set_option maxHeartbeats 4000000 in
set_option maxRecDepth 100000 in
/-- WellCourt.standing -/
theorem s_standing (l : Launch) (G : va_G) (cy : Nat → ClassId) (sK sV : Nat → Nat) (ad : Nat → Nat → Nat) (sz : Nat) (st : gS) (hB : gBd bX st) (x : Int32) (y : Int32) (Xx : Int) (Xy : Int) (kx : x.toInt = Xx) (ky : y.toInt = Xy) (hx0 : 0 ≤ Xx) (hx1 : Xx < 6) : gsMi l yX9_standing cX9_standing 3 (some .int) ({ frames := 3, cells := 0, slots := 0, locals := 66 } : Room) G cy sK sV (shX cy ad) cnX ad sz [.ref (ad 0 0), .int x, .int y] st (fun (r : Int32) (u : gS) => gBN bX kX [] st u ∧ ((0 ≤ r.toInt) ∧ (r.toInt ≤ 2))) := by
  refine gs_start (fun A => gsQi G (shX cy ad) cnX ad _ A) (by decide) (Nat.le_of_ble_eq_true rfl) ?_
  intro p e s m below meth c A ls H hx hb hr hml hlocks hown hts hK hov hE hI hM hm hS hA hl
  have hl : lv_has ls 3 [(0, .ref (ad 0 0)), (1, .int x), (2, .int y)] := hl
  have hB_st : gBN bX kX [] st st := gBN.rf hB
  refine lv_aload_n hx hb dX9_standing_0 rfl (lv_at hl 0 rfl) ?_
  refine gs_get (C := RX9) (T := TX9) (N := 12) hx hb hts inX9 hown hK hM 0 0 4 (by decide) rfl rfl (by decide) (hts _ gm_295) (fun _ h9 => h9) rfl dX9_standing_1 ?_
  refine lv_aload_n hx hb dX9_standing_4 rfl (lv_at hl 0 rfl) ?_
  refine gs_get (C := RX9) (T := TX9) (N := 12) hx hb hts inX9 hown hK hM 0 0 7 (by decide) rfl rfl (by decide) (hts _ gm_298) (fun _ h9 => h9) rfl dX9_standing_5 ?_
  have h_1 : (0 : Int) ≤ (st 0 0 7).toInt ∧ (st 0 0 7).toInt ≤ (1 : Int) := hB_st.1 0 0 7
  refine lv_iload_n hx hb dX9_standing_8 rfl (lv_at hl 1 rfl) ?_
  refine lv_iload_n hx hb dX9_standing_9 rfl (lv_at hl 2 rfl) ?_
  refine gs_calli (va_runV (As := [.ref (ad 25 ((st 0 0 7).toNatClampNeg)), .int x, .int y]) (rest := []) ⟨hx, hb, hml, hown, hts⟩ (s_X1_isRight l G cy sK sV ad H.size st hB_st.1 15 (st 0 0 7) x y x.toInt y.toInt rfl rfl (by decide) h_1 (by first | decide | omega) (by first | decide | omega)) ⟨(gz_cb (n := 3) hts gm_605 gm_7 gm_608 ⟨by decide +kernel, by decide +kernel, by decide +kernel⟩ ⟨Nat.le_of_ble_eq_true rfl, Nat.le_of_ble_eq_true rfl⟩), hts _ gm_606, hts _ gm_607⟩ (gs_preV hK hov hE hI hM hm hS hA 12 15 (by decide) rfl rfl) rfl rfl hl.1 rfl (lv_room (Nat.le_of_ble_eq_true rfl)) dX9_standing_10 ⟨Nat.le_of_ble_eq_true rfl, Nat.le_of_ble_eq_true rfl⟩) hm hS hA (fun r_2 st_2 H locs hw_2 hM hS => ?_)
  obtain ⟨n_2, hw_2⟩ := hw_2
  have n_2 := gBN.nil n_2
  subst n_2
  rcases hw_2 with rfl | rfl
  · skip
    refine lv_if_eq (tgt := 18) hx hb dX9_standing_13 (by decide) (fun h9 => absurd h9 (by decide)) (fun _ => ?_)
    refine lv_iconst (v := 1) hx hb dX9_standing_16 (by decide) ?_
    exact gs_iret hx hb hr hlocks hM hS rfl ⟨hB_st, (by have hl0 : (1 : Int32).toInt = 1 := (by decide); omega), (by have hl0 : (1 : Int32).toInt = 1 := (by decide); omega)⟩ (by exact Nat.le_refl _) (by exact Nat.le_refl _) dX9_standing_17
  · skip
    refine lv_if_eq (tgt := 18) hx hb dX9_standing_13 (by decide) (fun _ => ?_) (fun h9 => absurd (by decide) h9)
    refine lv_aload_n hx hb dX9_standing_18 rfl (lv_at hl 0 rfl) ?_
    refine gs_get (C := RX9) (T := TX9) (N := 12) hx hb hts inX9 hown hK hM 0 0 4 (by decide) rfl rfl (by decide) (hts _ gm_295) (fun _ h9 => h9) rfl dX9_standing_19 ?_
    refine lv_aload_n hx hb dX9_standing_22 rfl (lv_at hl 0 rfl) ?_
    refine gs_get (C := RX9) (T := TX9) (N := 12) hx hb hts inX9 hown hK hM 0 0 7 (by decide) rfl rfl (by decide) (hts _ gm_298) (fun _ h9 => h9) rfl dX9_standing_23 ?_
    have h_3 : (0 : Int) ≤ (st 0 0 7).toInt ∧ (st 0 0 7).toInt ≤ (1 : Int) := hB_st.1 0 0 7
    refine lv_iload_n hx hb dX9_standing_26 rfl (lv_at hl 1 rfl) ?_
    refine lv_iload_n hx hb dX9_standing_27 rfl (lv_at hl 2 rfl) ?_
    refine gs_calli (va_runV (As := [.ref (ad 25 ((st 0 0 7).toNatClampNeg)), .int x, .int y]) (rest := []) ⟨hx, hb, hml, hown, hts⟩ (s_X1_guestMany l G cy sK sV ad H.size st hB_st.1 15 (st 0 0 7) x y x.toInt y.toInt rfl rfl (by decide) h_3 (by first | decide | omega) (by first | decide | omega)) ⟨(gz_cb (n := 3) hts gm_618 gm_7 gm_621 ⟨by decide +kernel, by decide +kernel, by decide +kernel⟩ ⟨Nat.le_of_ble_eq_true rfl, Nat.le_of_ble_eq_true rfl⟩), hts _ gm_619, hts _ gm_620⟩ (gs_preV hK hov hE hI hM hm hS hA 12 15 (by decide) rfl rfl) rfl rfl hl.1 rfl (lv_room (Nat.le_of_ble_eq_true rfl)) dX9_standing_28 ⟨Nat.le_of_ble_eq_true rfl, Nat.le_of_ble_eq_true rfl⟩) hm hS hA (fun r_4 st_4 H locs hw_4 hM hS => ?_)
    obtain ⟨n_4, hw_4⟩ := hw_4
    have n_4 := gBN.nil n_4
    subst n_4
    refine lv_iconst (v := (-1)) hx hb dX9_standing_31 (by decide) ?_
    refine lv_icmp_ne (tgt := 39) hx hb dX9_standing_32 (by decide) (fun c_5 => ?_) (fun c_5 => ?_)
    · have ic_5 := gz_ne (rfl : r_4.toInt = r_4.toInt) (by decide : ((-1) : Int32).toInt = -1) c_5
      refine lv_iconst (v := 2) hx hb dX9_standing_39 (by decide) ?_
      exact gs_iret hx hb hr hlocks hM hS rfl ⟨hB_st, (by have hl0 : (2 : Int32).toInt = 2 := (by decide); omega), (by have hl0 : (2 : Int32).toInt = 2 := (by decide); omega)⟩ (by exact Nat.le_refl _) (by exact Nat.le_refl _) dX9_standing_40
    · have ic_5 := gz_eqn (rfl : r_4.toInt = r_4.toInt) (by decide : ((-1) : Int32).toInt = -1) c_5
      refine lv_iconst (v := 0) hx hb dX9_standing_35 (by decide) ?_
      refine lv_goto (tgt := 40) hx hb dX9_standing_36 (by decide) ?_
      exact gs_iret hx hb hr hlocks hM hS rfl ⟨hB_st, (by have hl0 : (0 : Int32).toInt = 0 := (by decide); omega), (by have hl0 : (0 : Int32).toInt = 0 := (by decide); omega)⟩ (by exact Nat.le_refl _) (by exact Nat.le_refl _) dX9_standing_40

set_option maxHeartbeats 4000000 in
set_option maxRecDepth 100000 in
/-- WellCourt.canBeDrawn -/
theorem s_canBeDrawn (l : Launch) (G : va_G) (cy : Nat → ClassId) (sK sV : Nat → Nat) (ad : Nat → Nat → Nat) (sz : Nat) (st : gS) (hB : gBd bX st) (x : Int32) (y : Int32) (w : Int32) (Xx : Int) (Xy : Int) (Xw : Int) (kx : x.toInt = Xx) (ky : y.toInt = Xy) (kw : w.toInt = Xw) : gsMi l yX9_canBeDrawn cX9_canBeDrawn 4 (some .boolean) ({ frames := 2, cells := 0, slots := 0, locals := 42 } : Room) G cy sK sV (shX cy ad) cnX ad sz [.ref (ad 0 0), .int x, .int y, .int w] st (fun (r : Int32) (u : gS) => gBN bX kX [] st u ∧ ((r = 1 ∧ (0 ≤ Xx) ∧ (Xx < 6) ∧ (0 ≤ Xy) ∧ (Xy ≤ 5) ∧ (1 ≤ Xw) ∧ (Xw ≤ 1000) ∧ ((st 16 0 1).toInt < 300)) ∨ (r = 0))) := by
  refine gs_start (fun A => gsQi G (shX cy ad) cnX ad _ A) (by decide) (Nat.le_of_ble_eq_true rfl) ?_
  intro p e s m below meth c A ls H hx hb hr hml hlocks hown hts hK hov hE hI hM hm hS hA hl
  have hl : lv_has ls 4 [(0, .ref (ad 0 0)), (1, .int x), (2, .int y), (3, .int w)] := hl
  have hB_st : gBN bX kX [] st st := gBN.rf hB
  refine lv_aload_n hx hb dX9_canBeDrawn_0 rfl (lv_at hl 0 rfl) ?_
  refine lv_iload_n hx hb dX9_canBeDrawn_1 rfl (lv_at hl 1 rfl) ?_
  refine gs_calli (va_runV (As := [.int x]) (rest := []) ⟨hx, hb, hml, hown, hts⟩ (s_isWellThere l G cy sK sV ad H.size st hB_st.1 x x.toInt rfl ) ⟨(gz_cb (n := 1) hts gm_587 gm_1 gm_590 ⟨by decide +kernel, by decide +kernel, by decide +kernel⟩ ⟨Nat.le_of_ble_eq_true rfl, Nat.le_of_ble_eq_true rfl⟩), hts _ gm_589, hts _ gs_17⟩ (gs_preV hK hov hE hI hM hm hS hA 0 0 (by decide) rfl rfl) rfl rfl hl.1 rfl (lv_room (Nat.le_of_ble_eq_true rfl)) dX9_canBeDrawn_2 ⟨Nat.le_of_ble_eq_true rfl, Nat.le_of_ble_eq_true rfl⟩) hm hS hA (fun r_1 st_1 H locs hw_1 hM hS => ?_)
  obtain ⟨n_1, hw_1⟩ := hw_1
  have n_1 := gBN.nil n_1
  subst n_1
  rcases hw_1 with ⟨rfl, hw_1_0, hw_1_1, hw_1_2⟩ | ⟨rfl, hw_1_0⟩
  · skip
    refine lv_if_eq (tgt := 43) hx hb dX9_canBeDrawn_5 (by decide) (fun h9 => absurd h9 (by decide)) (fun _ => ?_)
    refine lv_iload_n hx hb dX9_canBeDrawn_8 rfl (lv_at hl 2 rfl) ?_
    refine gs_calli (va_runS (As := [.int y]) (rest := []) ⟨hx, hb, hml, hown, hts⟩ (s_isClan l G cy sK sV ad H.size st hB_st.1 y y.toInt rfl ) ⟨(gz_cb (n := 1) hts gm_600 gm_1 gm_487 ⟨by decide +kernel, by decide +kernel, by decide +kernel⟩ ⟨Nat.le_of_ble_eq_true rfl, Nat.le_of_ble_eq_true rfl⟩), hts _ gm_486⟩ (gs_preS hK hov hE hI hM hm hS hA) rfl rfl hl.1 rfl (lv_room (Nat.le_of_ble_eq_true rfl)) dX9_canBeDrawn_9 ⟨Nat.le_of_ble_eq_true rfl, Nat.le_of_ble_eq_true rfl⟩) hm hS hA (fun r_2 st_2 H locs hw_2 hM hS => ?_)
    obtain ⟨n_2, hw_2⟩ := hw_2
    have n_2 := gBN.nil n_2
    subst n_2
    rcases hw_2 with ⟨rfl, hw_2_0, hw_2_1⟩ | ⟨rfl, hw_2_0⟩
    · skip
      refine lv_if_eq (tgt := 43) hx hb dX9_canBeDrawn_12 (by decide) (fun h9 => absurd h9 (by decide)) (fun _ => ?_)
      refine lv_iload_n hx hb dX9_canBeDrawn_15 rfl (lv_at hl 3 rfl) ?_
      refine lv_iconst (v := 1) hx hb dX9_canBeDrawn_16 (by decide) ?_
      refine lv_sipush (v := 1000) hx hb dX9_canBeDrawn_17 (by decide) ?_
      refine gs_calli (va_runS (As := [.int w, .int 1, .int 1000]) (rest := []) ⟨hx, hb, hml, hown, hts⟩ (s_isWithin l G cy sK sV ad H.size st hB_st.1 w (1 : Int32) (1000 : Int32) w.toInt 1 1000 rfl (by decide) (by decide) ) ⟨(gz_cb (n := 3) hts gm_351 gm_1 gm_353 ⟨by decide +kernel, by decide +kernel, by decide +kernel⟩ ⟨Nat.le_of_ble_eq_true rfl, Nat.le_of_ble_eq_true rfl⟩), hts _ gm_352⟩ (gs_preS hK hov hE hI hM hm hS hA) rfl rfl hl.1 rfl (lv_room (Nat.le_of_ble_eq_true rfl)) dX9_canBeDrawn_20 ⟨Nat.le_of_ble_eq_true rfl, Nat.le_of_ble_eq_true rfl⟩) hm hS hA (fun r_3 st_3 H locs hw_3 hM hS => ?_)
      obtain ⟨n_3, hw_3⟩ := hw_3
      have n_3 := gBN.nil n_3
      subst n_3
      rcases hw_3 with ⟨rfl, hw_3_0, hw_3_1⟩ | ⟨rfl, hw_3_0⟩
      · skip
        refine lv_if_eq (tgt := 43) hx hb dX9_canBeDrawn_23 (by decide) (fun h9 => absurd h9 (by decide)) (fun _ => ?_)
        refine lv_aload_n hx hb dX9_canBeDrawn_26 rfl (lv_at hl 0 rfl) ?_
        refine gs_get (C := RX9) (T := TX9) (N := 12) hx hb hts inX9 hown hK hM 0 0 5 (by decide) rfl rfl (by decide) (hts _ gm_296) (fun _ h9 => h9) rfl dX9_canBeDrawn_27 ?_
        refine gs_getN (host := "WellCourt") (C := RX5) (T := TX5) (N := 2) hx hb hts inX5 hown hK hM 16 0 1 (by decide) rfl rfl (by decide) (va_Nw.use rfl (hov.2.2 _ gn_144)) (fun _ h9 => h9) rfl dX9_canBeDrawn_30 ?_
        have bf_4 : (0 : Int) ≤ (st 16 0 1).toInt ∧ (st 16 0 1).toInt ≤ (300 : Int) := hB_st.1 16 0 1
        refine lv_sipush (v := 300) hx hb dX9_canBeDrawn_33 (by decide) ?_
        refine lv_icmp_ge (tgt := 43) hx hb dX9_canBeDrawn_36 (by decide) (fun c_5 => ?_) (fun c_5 => ?_)
        · have ic_5 := gz_le (by decide : (300 : Int32).toInt = 300) (rfl : (st 16 0 1).toInt = (st 16 0 1).toInt) c_5
          refine lv_iconst (v := 0) hx hb dX9_canBeDrawn_43 (by decide) ?_
          exact gs_iret hx hb hr hlocks hM hS (by decide) ⟨hB_st, (Or.inr (rfl))⟩ (by exact Nat.le_refl _) (by exact Nat.le_refl _) dX9_canBeDrawn_44
        · have ic_5 := gz_nle (by decide : (300 : Int32).toInt = 300) (rfl : (st 16 0 1).toInt = (st 16 0 1).toInt) c_5
          refine lv_iconst (v := 1) hx hb dX9_canBeDrawn_39 (by decide) ?_
          refine lv_goto (tgt := 44) hx hb dX9_canBeDrawn_40 (by decide) ?_
          exact gs_iret hx hb hr hlocks hM hS (by decide) ⟨hB_st, (Or.inl (⟨rfl, (by have hl0 : (1 : Int32).toInt = 1 := (by decide); omega), (by have hl0 : (1 : Int32).toInt = 1 := (by decide); omega), (by have hl0 : (1 : Int32).toInt = 1 := (by decide); omega), (by have hl0 : (1 : Int32).toInt = 1 := (by decide); omega), (by have hl0 : (1 : Int32).toInt = 1 := (by decide); omega), (by have hl0 : (1 : Int32).toInt = 1 := (by decide); omega), (by have hl0 : (1 : Int32).toInt = 1 := (by decide); have hb1 : (0 : Int) ≤ (st 16 0 1).toInt ∧ (st 16 0 1).toInt ≤ (300 : Int) := hB_st.1 16 0 1; omega)⟩))⟩ (by exact Nat.le_refl _) (by exact Nat.le_refl _) dX9_canBeDrawn_44
      · skip
        refine lv_if_eq (tgt := 43) hx hb dX9_canBeDrawn_23 (by decide) (fun _ => ?_) (fun h9 => absurd (by decide) h9)
        refine lv_iconst (v := 0) hx hb dX9_canBeDrawn_43 (by decide) ?_
        exact gs_iret hx hb hr hlocks hM hS (by decide) ⟨hB_st, (Or.inr (rfl))⟩ (by exact Nat.le_refl _) (by exact Nat.le_refl _) dX9_canBeDrawn_44
    · skip
      refine lv_if_eq (tgt := 43) hx hb dX9_canBeDrawn_12 (by decide) (fun _ => ?_) (fun h9 => absurd (by decide) h9)
      refine lv_iconst (v := 0) hx hb dX9_canBeDrawn_43 (by decide) ?_
      exact gs_iret hx hb hr hlocks hM hS (by decide) ⟨hB_st, (Or.inr (rfl))⟩ (by exact Nat.le_refl _) (by exact Nat.le_refl _) dX9_canBeDrawn_44
  · skip
    refine lv_if_eq (tgt := 43) hx hb dX9_canBeDrawn_5 (by decide) (fun _ => ?_) (fun h9 => absurd (by decide) h9)
    refine lv_iconst (v := 0) hx hb dX9_canBeDrawn_43 (by decide) ?_
    exact gs_iret hx hb hr hlocks hM hS (by decide) ⟨hB_st, (Or.inr (rfl))⟩ (by exact Nat.le_refl _) (by exact Nat.le_refl _) dX9_canBeDrawn_44

set_option maxHeartbeats 4000000 in
set_option maxRecDepth 100000 in
/-- WellCourt.fine -/
theorem s_fine (l : Launch) (G : va_G) (cy : Nat → ClassId) (sK sV : Nat → Nat) (ad : Nat → Nat → Nat) (sz : Nat) (st : gS) (hB : gBd bX st) (x : Int32) (y : Int32) (w : Int32) (v : Int32) (Xx : Int) (Xy : Int) (Xw : Int) (Xv : Int) (kx : x.toInt = Xx) (ky : y.toInt = Xy) (kw : w.toInt = Xw) (kv : v.toInt = Xv) : gsMi l yX9_fine cX9_fine 7 (some .int) ({ frames := 2, cells := 0, slots := 0, locals := 50 } : Room) G cy sK sV (shX cy ad) cnX ad sz [.ref (ad 0 0), .int x, .int y, .int w, .int v] st (fun (r : Int32) (u : gS) => gBN bX kX [] st u ∧ (True)) := by
  refine gs_start (fun A => gsQi G (shX cy ad) cnX ad _ A) (by decide) (Nat.le_of_ble_eq_true rfl) ?_
  intro p e s m below meth c A ls H hx hb hr hml hlocks hown hts hK hov hE hI hM hm hS hA hl
  have hl : lv_has ls 7 [(0, .ref (ad 0 0)), (1, .int x), (2, .int y), (3, .int w), (4, .int v)] := hl
  have hB_st : gBN bX kX [] st st := gBN.rf hB
  refine lv_aload_n hx hb dX9_fine_0 rfl (lv_at hl 0 rfl) ?_
  refine gs_get (C := RX9) (T := TX9) (N := 12) hx hb hts inX9 hown hK hM 0 0 5 (by decide) rfl rfl (by decide) (hts _ gm_296) (fun _ h9 => h9) rfl dX9_fine_1 ?_
  refine lv_iload_n hx hb dX9_fine_4 rfl (lv_at hl 1 rfl) ?_
  refine lv_iload_n hx hb dX9_fine_5 rfl (lv_at hl 2 rfl) ?_
  refine lv_iload_n hx hb dX9_fine_6 rfl (lv_at hl 3 rfl) ?_
  refine lv_iconst (v := 0) hx hb dX9_fine_7 (by decide) ?_
  refine lv_iload hx hb dX9_fine_8 (lv_at hl 4 rfl) ?_
  refine gs_calli (va_runV (As := [.int x, .int y, .int w, .int 0, .int v]) (rest := []) ⟨hx, hb, hml, hown, hts⟩ (s_X5_sumKnown l G cy sK sV ad H.size st hB_st.1 x y w (0 : Int32) v x.toInt y.toInt w.toInt 0 v.toInt rfl rfl rfl (by decide) rfl ) ⟨(gz_cb (n := 5) hts gm_676 gm_8 gm_679 ⟨by decide +kernel, by decide +kernel, by decide +kernel⟩ ⟨Nat.le_of_ble_eq_true rfl, Nat.le_of_ble_eq_true rfl⟩), hts _ gm_677, hts _ gm_678⟩ (gs_preV hK hov hE hI hM hm hS hA 16 0 (by decide) rfl rfl) rfl rfl hl.1 rfl (lv_room (Nat.le_of_ble_eq_true rfl)) dX9_fine_10 ⟨Nat.le_of_ble_eq_true rfl, Nat.le_of_ble_eq_true rfl⟩) hm hS hA (fun r_1 st_1 H locs hw_1 hM hS => ?_)
  obtain ⟨n_1, hw_1⟩ := hw_1
  have n_1 := gBN.nil n_1
  subst n_1
  refine lv_istore (lv' := [(5, .int r_1), (0, .ref (ad 0 0)), (1, .int x), (2, .int y), (3, .int w), (4, .int v)]) hx hb dX9_fine_13 hl (by decide) rfl (fun ls hl => ?_)
  refine lv_aload_n hx hb dX9_fine_15 rfl (lv_at hl 1 rfl) ?_
  refine gs_get (C := RX9) (T := TX9) (N := 12) hx hb hts inX9 hown hK hM 0 0 5 (by decide) rfl rfl (by decide) (hts _ gm_296) (fun _ h9 => h9) rfl dX9_fine_16 ?_
  refine lv_iload_n hx hb dX9_fine_19 rfl (lv_at hl 2 rfl) ?_
  refine lv_iload_n hx hb dX9_fine_20 rfl (lv_at hl 3 rfl) ?_
  refine lv_iload_n hx hb dX9_fine_21 rfl (lv_at hl 4 rfl) ?_
  refine lv_iconst (v := 1) hx hb dX9_fine_22 (by decide) ?_
  refine lv_iload hx hb dX9_fine_23 (lv_at hl 5 rfl) ?_
  refine gs_calli (va_runV (As := [.int x, .int y, .int w, .int 1, .int v]) (rest := []) ⟨hx, hb, hml, hown, hts⟩ (s_X5_sumKnown l G cy sK sV ad H.size st hB_st.1 x y w (1 : Int32) v x.toInt y.toInt w.toInt 1 v.toInt rfl rfl rfl (by decide) rfl ) ⟨(gz_cb (n := 5) hts gm_676 gm_8 gm_679 ⟨by decide +kernel, by decide +kernel, by decide +kernel⟩ ⟨Nat.le_of_ble_eq_true rfl, Nat.le_of_ble_eq_true rfl⟩), hts _ gm_677, hts _ gm_678⟩ (gs_preV hK hov hE hI hM hm hS hA 16 0 (by decide) rfl rfl) rfl rfl hl.1 rfl (lv_room (Nat.le_of_ble_eq_true rfl)) dX9_fine_25 ⟨Nat.le_of_ble_eq_true rfl, Nat.le_of_ble_eq_true rfl⟩) hm hS hA (fun r_2 st_2 H locs hw_2 hM hS => ?_)
  obtain ⟨n_2, hw_2⟩ := hw_2
  have n_2 := gBN.nil n_2
  subst n_2
  refine lv_istore (lv' := [(6, .int r_2), (5, .int r_1), (0, .ref (ad 0 0)), (1, .int x), (2, .int y), (3, .int w), (4, .int v)]) hx hb dX9_fine_28 hl (by decide) rfl (fun ls hl => ?_)
  refine lv_iconst (v := 2) hx hb dX9_fine_30 (by decide) ?_
  refine lv_iload hx hb dX9_fine_31 (lv_at hl 1 rfl) ?_
  refine lv_imul hx hb dX9_fine_33 ?_
  refine lv_topi (fun x_3 ex_3 => ?_)
  refine lv_iload hx hb dX9_fine_34 (lv_at hl 0 rfl) ?_
  refine lv_isub hx hb dX9_fine_36 ?_
  refine lv_topi (fun x_4 ex_4 => ?_)
  refine lv_iconst (v := 0) hx hb dX9_fine_37 (by decide) ?_
  refine va_mmax hx hb (hml.trans hl.1.symm) hown (hts _ gm_688) (hts _ gm_537) (hts _ gm_17) (hts _ gm_538) (Nat.le_of_ble_eq_true rfl) (Nat.le_of_ble_eq_true rfl) (Nat.le_of_ble_eq_true rfl) (Nat.le_of_ble_eq_true rfl) dX9_fine_38 ?_
  refine lv_topi (fun x_5 ex_5 => ?_)
  have tx_5 := gs_max ex_5
  have ux_5 : (0 : Int32).toInt = 0 := (by decide)
  exact gs_iret hx hb hr hlocks hM hS rfl ⟨hB_st, trivial⟩ (by exact Nat.le_refl _) (by exact Nat.le_refl _) dX9_fine_41

set_option maxHeartbeats 4000000 in
set_option maxRecDepth 100000 in
/-- WellCourt.feed -/
theorem s_feed (l : Launch) (G : va_G) (cy : Nat → ClassId) (sK sV : Nat → Nat) (ad : Nat → Nat → Nat) (sz : Nat) (st : gS) (hB : gBd bX st) (x : Int32) (y : Int32) (w : Int32) (v : Int32) (t : Int32) : gsMi l yX9_feed cX9_feed 6 (some .int) ({ frames := 1, cells := 0, slots := 0, locals := 22 } : Room) G cy sK sV (shX cy ad) cnX ad sz [.ref (ad 0 0), .int x, .int y, .int w, .int v, .int t] st (fun (r : Int32) (u : gS) => gBN bX kX [101, 200] st u ∧ (((r.toInt = -1 ∧ 780 < (st 1 0 1).toInt ∧ (u 1 0 1).toInt = (st 1 0 1).toInt) ∨ ((st 1 0 1).toInt ≤ 780 ∧ r.toInt = (st 1 0 1).toInt + 20 ∧ (u 1 0 1).toInt = (st 1 0 1).toInt + 20)))) := by
  refine gs_start (fun A => gsQi G (shX cy ad) cnX ad _ A) (by decide) (Nat.le_of_ble_eq_true rfl) ?_
  intro p e s m below meth c A ls H hx hb hr hml hlocks hown hts hK hov hE hI hM hm hS hA hl
  have hl : lv_has ls 6 [(0, .ref (ad 0 0)), (1, .int x), (2, .int y), (3, .int w), (4, .int v), (5, .int t)] := hl
  have hB_st : gBN bX kX [101, 200] st st := gBN.rf hB
  refine lv_aload_n hx hb dX9_feed_0 rfl (lv_at hl 0 rfl) ?_
  refine gs_get (C := RX9) (T := TX9) (N := 12) hx hb hts inX9 hown hK hM 0 0 0 (by decide) rfl rfl (by decide) (hts _ gm_291) (fun _ h9 => h9) rfl dX9_feed_1 ?_
  refine gs_getN (host := "WellCourt") (C := RX8) (T := TX8) (N := 2) hx hb hts inX8 hown hK hM 1 0 1 (by decide) rfl rfl (by decide) (va_Nw.use rfl (hov.2.2 _ gn_40)) (fun _ h9 => h9) rfl dX9_feed_4 ?_
  have bf_1 : (0 : Int) ≤ (st 1 0 1).toInt ∧ (st 1 0 1).toInt ≤ (800 : Int) := hB_st.1 1 0 1
  refine lv_bipush (v := 20) hx hb dX9_feed_7 (by decide) ?_
  refine lv_iadd hx hb dX9_feed_9 ?_
  refine lv_topi (fun x_2 ex_2 => ?_)
  try have tx_2 : x_2.toInt = (st 1 0 1).toInt + 20 := by rw [ex_2]; exact gz_addP (x := (st 1 0 1).toInt) (y := 20) rfl (by decide) (by omega) (by omega)
  refine lv_sipush (v := 800) hx hb dX9_feed_10 (by decide) ?_
  refine lv_icmp_le (tgt := 18) hx hb dX9_feed_13 (by decide) (fun c_3 => ?_) (fun c_3 => ?_)
  · have ic_3 := gz_le (rfl : x_2.toInt = x_2.toInt) (by decide : (800 : Int32).toInt = 800) c_3
    refine lv_aload_n hx hb dX9_feed_18 rfl (lv_at hl 0 rfl) ?_
    refine gs_get (C := RX9) (T := TX9) (N := 12) hx hb hts inX9 hown hK hM 0 0 0 (by decide) rfl rfl (by decide) (hts _ gm_291) (fun _ h9 => h9) rfl dX9_feed_19 ?_
    refine lv_iload_n hx hb dX9_feed_22 rfl (lv_at hl 1 rfl) ?_
    refine gs_callv (va_runV (As := [.int x]) (rest := []) ⟨hx, hb, hml, hown, hts⟩ (s_X8_append l G cy sK sV ad H.size st hB_st.1 x ) ⟨(gz_cb (n := 1) hts gm_332 gm_2 gm_335 ⟨by decide +kernel, by decide +kernel, by decide +kernel⟩ ⟨Nat.le_of_ble_eq_true rfl, Nat.le_of_ble_eq_true rfl⟩), hts _ gm_333, hts _ gm_334⟩ (gs_preV hK hov hE hI hM hm hS hA 1 0 (by decide) rfl rfl) rfl rfl hl.1 rfl (lv_room (Nat.le_of_ble_eq_true rfl)) dX9_feed_23 ⟨Nat.le_of_ble_eq_true rfl, Nat.le_of_ble_eq_true rfl⟩) hm hS hA (fun st_4 H locs hw_4 hM hS => ?_)
    obtain ⟨n_4, hw_4⟩ := hw_4
    have hB_st_4 : gBN bX kX [101, 200] st st_4 := hB_st.call n_4 (by decide)
    have hbhw_40 : (0 : Int) ≤ (st 1 0 1).toInt ∧ (st 1 0 1).toInt ≤ (800 : Int) := hB_st.1 1 0 1
    have hw_4_0 := hw_4
    refine lv_aload_n hx hb dX9_feed_26 rfl (lv_at hl 0 rfl) ?_
    refine gs_get (C := RX9) (T := TX9) (N := 12) hx hb hts inX9 hown hK hM 0 0 0 (by decide) rfl rfl (by decide) (hts _ gm_291) (fun _ h9 => h9) rfl dX9_feed_27 ?_
    refine lv_iload_n hx hb dX9_feed_30 rfl (lv_at hl 2 rfl) ?_
    refine gs_callv (va_runV (As := [.int y]) (rest := []) ⟨hx, hb, hml, hown, hts⟩ (s_X8_append l G cy sK sV ad H.size st_4 hB_st_4.1 y ) ⟨(gz_cb (n := 1) hts gm_332 gm_2 gm_335 ⟨by decide +kernel, by decide +kernel, by decide +kernel⟩ ⟨Nat.le_of_ble_eq_true rfl, Nat.le_of_ble_eq_true rfl⟩), hts _ gm_333, hts _ gm_334⟩ (gs_preV hK hov hE hI hM hm hS hA 1 0 (by decide) rfl rfl) rfl rfl hl.1 rfl (lv_room (Nat.le_of_ble_eq_true rfl)) dX9_feed_31 ⟨Nat.le_of_ble_eq_true rfl, Nat.le_of_ble_eq_true rfl⟩) hm hS hA (fun st_5 H locs hw_5 hM hS => ?_)
    obtain ⟨n_5, hw_5⟩ := hw_5
    have hB_st_5 : gBN bX kX [101, 200] st st_5 := hB_st_4.call n_5 (by decide)
    have hbhw_50 : (0 : Int) ≤ (st_4 1 0 1).toInt ∧ (st_4 1 0 1).toInt ≤ (800 : Int) := hB_st_4.1 1 0 1
    have hw_5_0 := hw_5
    refine lv_aload_n hx hb dX9_feed_34 rfl (lv_at hl 0 rfl) ?_
    refine gs_get (C := RX9) (T := TX9) (N := 12) hx hb hts inX9 hown hK hM 0 0 0 (by decide) rfl rfl (by decide) (hts _ gm_291) (fun _ h9 => h9) rfl dX9_feed_35 ?_
    refine lv_iload_n hx hb dX9_feed_38 rfl (lv_at hl 3 rfl) ?_
    refine gs_callv (va_runV (As := [.int w]) (rest := []) ⟨hx, hb, hml, hown, hts⟩ (s_X8_append l G cy sK sV ad H.size st_5 hB_st_5.1 w ) ⟨(gz_cb (n := 1) hts gm_332 gm_2 gm_335 ⟨by decide +kernel, by decide +kernel, by decide +kernel⟩ ⟨Nat.le_of_ble_eq_true rfl, Nat.le_of_ble_eq_true rfl⟩), hts _ gm_333, hts _ gm_334⟩ (gs_preV hK hov hE hI hM hm hS hA 1 0 (by decide) rfl rfl) rfl rfl hl.1 rfl (lv_room (Nat.le_of_ble_eq_true rfl)) dX9_feed_39 ⟨Nat.le_of_ble_eq_true rfl, Nat.le_of_ble_eq_true rfl⟩) hm hS hA (fun st_6 H locs hw_6 hM hS => ?_)
    obtain ⟨n_6, hw_6⟩ := hw_6
    have hB_st_6 : gBN bX kX [101, 200] st st_6 := hB_st_5.call n_6 (by decide)
    have hbhw_60 : (0 : Int) ≤ (st_5 1 0 1).toInt ∧ (st_5 1 0 1).toInt ≤ (800 : Int) := hB_st_5.1 1 0 1
    have hw_6_0 := hw_6
    refine lv_aload_n hx hb dX9_feed_42 rfl (lv_at hl 0 rfl) ?_
    refine gs_get (C := RX9) (T := TX9) (N := 12) hx hb hts inX9 hown hK hM 0 0 0 (by decide) rfl rfl (by decide) (hts _ gm_291) (fun _ h9 => h9) rfl dX9_feed_43 ?_
    refine lv_iload hx hb dX9_feed_46 (lv_at hl 4 rfl) ?_
    refine gs_callv (va_runV (As := [.int v]) (rest := []) ⟨hx, hb, hml, hown, hts⟩ (s_X8_append l G cy sK sV ad H.size st_6 hB_st_6.1 v ) ⟨(gz_cb (n := 1) hts gm_332 gm_2 gm_335 ⟨by decide +kernel, by decide +kernel, by decide +kernel⟩ ⟨Nat.le_of_ble_eq_true rfl, Nat.le_of_ble_eq_true rfl⟩), hts _ gm_333, hts _ gm_334⟩ (gs_preV hK hov hE hI hM hm hS hA 1 0 (by decide) rfl rfl) rfl rfl hl.1 rfl (lv_room (Nat.le_of_ble_eq_true rfl)) dX9_feed_48 ⟨Nat.le_of_ble_eq_true rfl, Nat.le_of_ble_eq_true rfl⟩) hm hS hA (fun st_7 H locs hw_7 hM hS => ?_)
    obtain ⟨n_7, hw_7⟩ := hw_7
    have hB_st_7 : gBN bX kX [101, 200] st st_7 := hB_st_6.call n_7 (by decide)
    have hbhw_70 : (0 : Int) ≤ (st_6 1 0 1).toInt ∧ (st_6 1 0 1).toInt ≤ (800 : Int) := hB_st_6.1 1 0 1
    have hw_7_0 := hw_7
    refine lv_aload_n hx hb dX9_feed_51 rfl (lv_at hl 0 rfl) ?_
    refine gs_get (C := RX9) (T := TX9) (N := 12) hx hb hts inX9 hown hK hM 0 0 0 (by decide) rfl rfl (by decide) (hts _ gm_291) (fun _ h9 => h9) rfl dX9_feed_52 ?_
    refine lv_iload hx hb dX9_feed_55 (lv_at hl 5 rfl) ?_
    refine gs_callv (va_runV (As := [.int t]) (rest := []) ⟨hx, hb, hml, hown, hts⟩ (s_X8_append l G cy sK sV ad H.size st_7 hB_st_7.1 t ) ⟨(gz_cb (n := 1) hts gm_332 gm_2 gm_335 ⟨by decide +kernel, by decide +kernel, by decide +kernel⟩ ⟨Nat.le_of_ble_eq_true rfl, Nat.le_of_ble_eq_true rfl⟩), hts _ gm_333, hts _ gm_334⟩ (gs_preV hK hov hE hI hM hm hS hA 1 0 (by decide) rfl rfl) rfl rfl hl.1 rfl (lv_room (Nat.le_of_ble_eq_true rfl)) dX9_feed_57 ⟨Nat.le_of_ble_eq_true rfl, Nat.le_of_ble_eq_true rfl⟩) hm hS hA (fun st_8 H locs hw_8 hM hS => ?_)
    obtain ⟨n_8, hw_8⟩ := hw_8
    have hB_st_8 : gBN bX kX [101, 200] st st_8 := hB_st_7.call n_8 (by decide)
    have hbhw_80 : (0 : Int) ≤ (st_7 1 0 1).toInt ∧ (st_7 1 0 1).toInt ≤ (800 : Int) := hB_st_7.1 1 0 1
    have hw_8_0 := hw_8
    refine lv_aload_n hx hb dX9_feed_60 rfl (lv_at hl 0 rfl) ?_
    refine gs_get (C := RX9) (T := TX9) (N := 12) hx hb hts inX9 hown hK hM 0 0 0 (by decide) rfl rfl (by decide) (hts _ gm_291) (fun _ h9 => h9) rfl dX9_feed_61 ?_
    refine gs_getN (host := "WellCourt") (C := RX8) (T := TX8) (N := 2) hx hb hts inX8 hown hK hM 1 0 1 (by decide) rfl rfl (by decide) (va_Nw.use rfl (hov.2.2 _ gn_40)) (fun _ h9 => h9) rfl dX9_feed_64 ?_
    have bf_9 : (0 : Int) ≤ (st_8 1 0 1).toInt ∧ (st_8 1 0 1).toInt ≤ (800 : Int) := hB_st_8.1 1 0 1
    exact gs_iret hx hb hr hlocks hM hS rfl ⟨hB_st_8, (by have hb0 : (0 : Int) ≤ (st 1 0 1).toInt ∧ (st 1 0 1).toInt ≤ (800 : Int) := hB_st.1 1 0 1; have hb1 : (0 : Int) ≤ (st_8 1 0 1).toInt ∧ (st_8 1 0 1).toInt ≤ (800 : Int) := hB_st_8.1 1 0 1; omega)⟩ (by exact Nat.le_refl _) (by exact Nat.le_refl _) dX9_feed_67
  · have ic_3 := gz_nle (rfl : x_2.toInt = x_2.toInt) (by decide : (800 : Int32).toInt = 800) c_3
    refine lv_iconst (v := (-1)) hx hb dX9_feed_16 (by decide) ?_
    exact gs_iret hx hb hr hlocks hM hS rfl ⟨hB_st, (by have hl0 : ((-1) : Int32).toInt = -1 := (by decide); have hb1 : (0 : Int) ≤ (st 1 0 1).toInt ∧ (st 1 0 1).toInt ≤ (800 : Int) := hB_st.1 1 0 1; omega)⟩ (by exact Nat.le_refl _) (by exact Nat.le_refl _) dX9_feed_17

set_option maxHeartbeats 4000000 in
set_option maxRecDepth 100000 in
/-- WellCourt.end -/
theorem s_end (l : Launch) (G : va_G) (cy : Nat → ClassId) (sK sV : Nat → Nat) (ad : Nat → Nat → Nat) (sz : Nat) (st : gS) (hB : gBd bX st) (x : Int32) (Xx : Int) (kx : x.toInt = Xx) : gsMi l yX9_end cX9_end 2 (some .boolean) ({ frames := 0, cells := 0, slots := 0, locals := 0 } : Room) G cy sK sV (shX cy ad) cnX ad sz [.ref (ad 0 0), .int x] st (fun (r : Int32) (u : gS) => gBN bX kX [101] st u ∧ ((r = 1 ∧ (0 ≤ Xx) ∧ (Xx ≤ (st 1 0 1).toInt) ∧ ((u 1 0 1).toInt = Xx)) ∨ (r = 0 ∧ (Xx < 0 ∨ (st 1 0 1).toInt < Xx) ∧ ((u 1 0 1).toInt = (st 1 0 1).toInt)))) := by
  refine gs_start (fun A => gsQi G (shX cy ad) cnX ad _ A) (by decide) (Nat.le_of_ble_eq_true rfl) ?_
  intro p e s m below meth c A ls H hx hb hr hml hlocks hown hts hK hov hE hI hM hm hS hA hl
  have hl : lv_has ls 2 [(0, .ref (ad 0 0)), (1, .int x)] := hl
  have hB_st : gBN bX kX [101] st st := gBN.rf hB
  refine lv_iload_n hx hb dX9_end_0 rfl (lv_at hl 1 rfl) ?_
  refine lv_if_lt (tgt := 15) hx hb dX9_end_1 (by decide) (fun c_1 => ?_) (fun c_1 => ?_)
  · have ic_1 := gz_lt (rfl : x.toInt = x.toInt) (by decide : (0 : Int32).toInt = 0) c_1
    refine lv_iconst (v := 0) hx hb dX9_end_15 (by decide) ?_
    exact gs_iret hx hb hr hlocks hM hS (by decide) ⟨hB_st, (Or.inr (⟨rfl, (by have hl0 : (0 : Int32).toInt = 0 := (by decide); have hb1 : (0 : Int) ≤ (st 1 0 1).toInt ∧ (st 1 0 1).toInt ≤ (800 : Int) := hB_st.1 1 0 1; omega), (by have hl0 : (0 : Int32).toInt = 0 := (by decide); have hb1 : (0 : Int) ≤ (st 1 0 1).toInt ∧ (st 1 0 1).toInt ≤ (800 : Int) := hB_st.1 1 0 1; omega)⟩))⟩ (by exact Nat.le_refl _) (by exact Nat.le_refl _) dX9_end_16
  · have ic_1 := gz_nlt (rfl : x.toInt = x.toInt) (by decide : (0 : Int32).toInt = 0) c_1
    refine lv_iload_n hx hb dX9_end_4 rfl (lv_at hl 1 rfl) ?_
    refine lv_aload_n hx hb dX9_end_5 rfl (lv_at hl 0 rfl) ?_
    refine gs_get (C := RX9) (T := TX9) (N := 12) hx hb hts inX9 hown hK hM 0 0 0 (by decide) rfl rfl (by decide) (hts _ gm_291) (fun _ h9 => h9) rfl dX9_end_6 ?_
    refine gs_getN (host := "WellCourt") (C := RX8) (T := TX8) (N := 2) hx hb hts inX8 hown hK hM 1 0 1 (by decide) rfl rfl (by decide) (va_Nw.use rfl (hov.2.2 _ gn_40)) (fun _ h9 => h9) rfl dX9_end_9 ?_
    have bf_2 : (0 : Int) ≤ (st 1 0 1).toInt ∧ (st 1 0 1).toInt ≤ (800 : Int) := hB_st.1 1 0 1
    refine lv_icmp_le (tgt := 17) hx hb dX9_end_12 (by decide) (fun c_3 => ?_) (fun c_3 => ?_)
    · have ic_3 := gz_le (rfl : x.toInt = x.toInt) (rfl : (st 1 0 1).toInt = (st 1 0 1).toInt) c_3
      refine lv_aload_n hx hb dX9_end_17 rfl (lv_at hl 0 rfl) ?_
      refine gs_get (C := RX9) (T := TX9) (N := 12) hx hb hts inX9 hown hK hM 0 0 0 (by decide) rfl rfl (by decide) (hts _ gm_291) (fun _ h9 => h9) rfl dX9_end_18 ?_
      refine lv_iload_n hx hb dX9_end_21 rfl (lv_at hl 1 rfl) ?_
      refine gs_putN (host := "WellCourt") (C := RX8) (T := TX8) (N := 2) (ty := .int) (val := .int x) hx hb hts inX8 tyX8 tyX8_ok nmX8 hown hK hI hm hM hS 1 0 1 (by decide) rfl rfl (by decide) (va_Nw.use rfl (hov.2.2 _ gn_40)) (fun _ h9 => h9) rfl (x : Int32) rfl (by decide +kernel) rfl rfl (Nat.le_of_ble_eq_true rfl) dX9_end_22 (fun st_4 H locs est_4 hM hS => ?_)
      have hB_st_4 : gBN bX kX [101] st st_4 := by rw [est_4]; exact hB_st.up (show (101 : Nat) ∈ _ from by decide) (show (0 : Int) ≤ x.toInt from by omega) (show x.toInt ≤ (800 : Int) from by omega)
      refine lv_iconst (v := 1) hx hb dX9_end_25 (by decide) ?_
      exact gs_iret hx hb hr hlocks hM hS (by decide) ⟨hB_st_4, (Or.inl (⟨rfl, (by have hl0 : (1 : Int32).toInt = 1 := (by decide); omega), (by have hl0 : (1 : Int32).toInt = 1 := (by decide); have hb1 : (0 : Int) ≤ (st 1 0 1).toInt ∧ (st 1 0 1).toInt ≤ (800 : Int) := hB_st.1 1 0 1; omega), (by have hl0 : (1 : Int32).toInt = 1 := (by decide); have hq1 : (st_4 1 0 1).toInt = (x : Int32).toInt := congrArg Int32.toInt (((congrFun (congrFun (congrFun est_4 1) 0) 1).trans (gU_same _ _ _ _ _))); have hb2 : (0 : Int) ≤ (st_4 1 0 1).toInt ∧ (st_4 1 0 1).toInt ≤ (800 : Int) := hB_st_4.1 1 0 1; omega)⟩))⟩ (by exact Nat.le_refl _) (by exact Nat.le_refl _) dX9_end_26
    · have ic_3 := gz_nle (rfl : x.toInt = x.toInt) (rfl : (st 1 0 1).toInt = (st 1 0 1).toInt) c_3
      have lc_3 := gi_hi x
      refine lv_iconst (v := 0) hx hb dX9_end_15 (by decide) ?_
      exact gs_iret hx hb hr hlocks hM hS (by decide) ⟨hB_st, (Or.inr (⟨rfl, (by have hl0 : (0 : Int32).toInt = 0 := (by decide); have hb1 : (0 : Int) ≤ (st 1 0 1).toInt ∧ (st 1 0 1).toInt ≤ (800 : Int) := hB_st.1 1 0 1; omega), (by have hl0 : (0 : Int32).toInt = 0 := (by decide); have hb1 : (0 : Int) ≤ (st 1 0 1).toInt ∧ (st 1 0 1).toInt ≤ (800 : Int) := hB_st.1 1 0 1; omega)⟩))⟩ (by exact Nat.le_refl _) (by exact Nat.le_refl _) dX9_end_16

set_option maxHeartbeats 4000000 in
set_option maxRecDepth 100000 in
/-- WellCourt.well -/
theorem s_well (l : Launch) (G : va_G) (cy : Nat → ClassId) (sK sV : Nat → Nat) (ad : Nat → Nat → Nat) (sz : Nat) (st : gS) (hB : gBd bX st) (x : Int32) (y : Int32) (w : Int32) (v : Int32) (Xx : Int) (Xy : Int) (Xw : Int) (Xv : Int) (kx : x.toInt = Xx) (ky : y.toInt = Xy) (kw : w.toInt = Xw) (kv : v.toInt = Xv) : gsMi l yX9_well cX9_well 5 (some .boolean) ({ frames := 1, cells := 0, slots := 0, locals := 22 } : Room) G cy sK sV (shX cy ad) cnX ad sz [.ref (ad 0 0), .int x, .int y, .int w, .int v] st (fun (r : Int32) (u : gS) => gBN bX kX [500, 600, 1300, 1400] st u ∧ ((r = 1 ∧ (0 ≤ Xx) ∧ (Xx ≤ 5) ∧ ((st 5 0 x.toNatClampNeg).toInt ≤ 0) ∧ (1 ≤ Xy) ∧ (Xy ≤ 1000) ∧ (0 ≤ Xw) ∧ (Xw ≤ 200) ∧ (0 ≤ Xv) ∧ (Xv ≤ Xy) ∧ (u 5 0 = upd (st 5 0) x.toNatClampNeg y)) ∨ (r = 0 ∧ (Xx < 0 ∨ 5 < Xx ∨ 0 < (st 5 0 x.toNatClampNeg).toInt ∨ Xy < 1 ∨ 1000 < Xy ∨ Xw < 0 ∨ 200 < Xw ∨ Xv < 0 ∨ Xy < Xv) ∧ (u 5 0 = st 5 0)))) := by
  refine gs_start (fun A => gsQi G (shX cy ad) cnX ad _ A) (by decide) (Nat.le_of_ble_eq_true rfl) ?_
  intro p e s m below meth c A ls H hx hb hr hml hlocks hown hts hK hov hE hI hM hm hS hA hl
  have hl : lv_has ls 5 [(0, .ref (ad 0 0)), (1, .int x), (2, .int y), (3, .int w), (4, .int v)] := hl
  have hB_st : gBN bX kX [500, 600, 1300, 1400] st st := gBN.rf hB
  refine lv_iload_n hx hb dX9_well_0 rfl (lv_at hl 1 rfl) ?_
  refine gs_calli (va_runS (As := [.int x]) (rest := []) ⟨hx, hb, hml, hown, hts⟩ (s_isWell l G cy sK sV ad H.size st hB_st.1 x x.toInt rfl ) ⟨(gz_cb (n := 1) hts gm_344 gm_1 gm_346 ⟨by decide +kernel, by decide +kernel, by decide +kernel⟩ ⟨Nat.le_of_ble_eq_true rfl, Nat.le_of_ble_eq_true rfl⟩), hts _ gm_345⟩ (gs_preS hK hov hE hI hM hm hS hA) rfl rfl hl.1 rfl (lv_room (Nat.le_of_ble_eq_true rfl)) dX9_well_1 ⟨Nat.le_of_ble_eq_true rfl, Nat.le_of_ble_eq_true rfl⟩) hm hS hA (fun r_1 st_1 H locs hw_1 hM hS => ?_)
  obtain ⟨n_1, hw_1⟩ := hw_1
  have n_1 := gBN.nil n_1
  subst n_1
  rcases hw_1 with ⟨rfl, hw_1_0, hw_1_1⟩ | ⟨rfl, hw_1_0⟩
  · skip
    refine lv_if_eq (tgt := 18) hx hb dX9_well_4 (by decide) (fun h9 => absurd h9 (by decide)) (fun _ => ?_)
    refine lv_aload_n hx hb dX9_well_7 rfl (lv_at hl 0 rfl) ?_
    refine gs_get (C := RX9) (T := TX9) (N := 12) hx hb hts inX9 hown hK hM 0 0 2 (by decide) rfl rfl (by decide) (hts _ gm_293) (fun _ h9 => h9) rfl dX9_well_8 ?_
    refine lv_iload_n hx hb dX9_well_11 rfl (lv_at hl 1 rfl) ?_
    refine gs_calli (va_runV (As := [.int x]) (rest := []) ⟨hx, hb, hml, hown, hts⟩ (s_X3_isThere l G cy sK sV ad H.size st hB_st.1 x x.toInt rfl (by first | decide | omega) (by first | decide | omega)) ⟨(gz_cb (n := 1) hts gm_347 gm_4 gm_350 ⟨by decide +kernel, by decide +kernel, by decide +kernel⟩ ⟨Nat.le_of_ble_eq_true rfl, Nat.le_of_ble_eq_true rfl⟩), hts _ gm_348, hts _ gm_349⟩ (gs_preV hK hov hE hI hM hm hS hA 4 0 (by decide) rfl rfl) rfl rfl hl.1 rfl (lv_room (Nat.le_of_ble_eq_true rfl)) dX9_well_12 ⟨Nat.le_of_ble_eq_true rfl, Nat.le_of_ble_eq_true rfl⟩) hm hS hA (fun r_2 st_2 H locs hw_2 hM hS => ?_)
    obtain ⟨n_2, hw_2⟩ := hw_2
    have n_2 := gBN.nil n_2
    subst n_2
    rcases hw_2 with ⟨rfl, hw_2_0⟩ | ⟨rfl, hw_2_0⟩
    · skip
      refine lv_if_eq (tgt := 20) hx hb dX9_well_15 (by decide) (fun h9 => absurd h9 (by decide)) (fun _ => ?_)
      refine lv_iconst (v := 0) hx hb dX9_well_18 (by decide) ?_
      exact gs_iret hx hb hr hlocks hM hS (by decide) ⟨hB_st, (Or.inr (⟨rfl, (by have hl0 : (0 : Int32).toInt = 0 := (by decide); omega), (rfl)⟩))⟩ (by exact Nat.le_refl _) (by exact Nat.le_refl _) dX9_well_19
    · skip
      refine lv_if_eq (tgt := 20) hx hb dX9_well_15 (by decide) (fun _ => ?_) (fun h9 => absurd (by decide) h9)
      refine lv_iload_n hx hb dX9_well_20 rfl (lv_at hl 2 rfl) ?_
      refine lv_iconst (v := 1) hx hb dX9_well_21 (by decide) ?_
      refine lv_sipush (v := 1000) hx hb dX9_well_22 (by decide) ?_
      refine gs_calli (va_runS (As := [.int y, .int 1, .int 1000]) (rest := []) ⟨hx, hb, hml, hown, hts⟩ (s_isWithin l G cy sK sV ad H.size st hB_st.1 y (1 : Int32) (1000 : Int32) y.toInt 1 1000 rfl (by decide) (by decide) ) ⟨(gz_cb (n := 3) hts gm_351 gm_1 gm_353 ⟨by decide +kernel, by decide +kernel, by decide +kernel⟩ ⟨Nat.le_of_ble_eq_true rfl, Nat.le_of_ble_eq_true rfl⟩), hts _ gm_352⟩ (gs_preS hK hov hE hI hM hm hS hA) rfl rfl hl.1 rfl (lv_room (Nat.le_of_ble_eq_true rfl)) dX9_well_25 ⟨Nat.le_of_ble_eq_true rfl, Nat.le_of_ble_eq_true rfl⟩) hm hS hA (fun r_3 st_3 H locs hw_3 hM hS => ?_)
      obtain ⟨n_3, hw_3⟩ := hw_3
      have n_3 := gBN.nil n_3
      subst n_3
      rcases hw_3 with ⟨rfl, hw_3_0, hw_3_1⟩ | ⟨rfl, hw_3_0⟩
      · skip
        refine lv_if_eq (tgt := 52) hx hb dX9_well_28 (by decide) (fun h9 => absurd h9 (by decide)) (fun _ => ?_)
        refine lv_iload_n hx hb dX9_well_31 rfl (lv_at hl 3 rfl) ?_
        refine lv_iconst (v := 0) hx hb dX9_well_32 (by decide) ?_
        refine lv_sipush (v := 200) hx hb dX9_well_33 (by decide) ?_
        refine gs_calli (va_runS (As := [.int w, .int 0, .int 200]) (rest := []) ⟨hx, hb, hml, hown, hts⟩ (s_isWithin l G cy sK sV ad H.size st hB_st.1 w (0 : Int32) (200 : Int32) w.toInt 0 200 rfl (by decide) (by decide) ) ⟨(gz_cb (n := 3) hts gm_351 gm_1 gm_353 ⟨by decide +kernel, by decide +kernel, by decide +kernel⟩ ⟨Nat.le_of_ble_eq_true rfl, Nat.le_of_ble_eq_true rfl⟩), hts _ gm_352⟩ (gs_preS hK hov hE hI hM hm hS hA) rfl rfl hl.1 rfl (lv_room (Nat.le_of_ble_eq_true rfl)) dX9_well_36 ⟨Nat.le_of_ble_eq_true rfl, Nat.le_of_ble_eq_true rfl⟩) hm hS hA (fun r_4 st_4 H locs hw_4 hM hS => ?_)
        obtain ⟨n_4, hw_4⟩ := hw_4
        have n_4 := gBN.nil n_4
        subst n_4
        rcases hw_4 with ⟨rfl, hw_4_0, hw_4_1⟩ | ⟨rfl, hw_4_0⟩
        · skip
          refine lv_if_eq (tgt := 52) hx hb dX9_well_39 (by decide) (fun h9 => absurd h9 (by decide)) (fun _ => ?_)
          refine lv_iload hx hb dX9_well_42 (lv_at hl 4 rfl) ?_
          refine lv_iconst (v := 0) hx hb dX9_well_44 (by decide) ?_
          refine lv_iload_n hx hb dX9_well_45 rfl (lv_at hl 2 rfl) ?_
          refine gs_calli (va_runS (As := [.int v, .int 0, .int y]) (rest := []) ⟨hx, hb, hml, hown, hts⟩ (s_isWithin l G cy sK sV ad H.size st hB_st.1 v (0 : Int32) y v.toInt 0 y.toInt rfl (by decide) rfl ) ⟨(gz_cb (n := 3) hts gm_351 gm_1 gm_353 ⟨by decide +kernel, by decide +kernel, by decide +kernel⟩ ⟨Nat.le_of_ble_eq_true rfl, Nat.le_of_ble_eq_true rfl⟩), hts _ gm_352⟩ (gs_preS hK hov hE hI hM hm hS hA) rfl rfl hl.1 rfl (lv_room (Nat.le_of_ble_eq_true rfl)) dX9_well_46 ⟨Nat.le_of_ble_eq_true rfl, Nat.le_of_ble_eq_true rfl⟩) hm hS hA (fun r_5 st_5 H locs hw_5 hM hS => ?_)
          obtain ⟨n_5, hw_5⟩ := hw_5
          have n_5 := gBN.nil n_5
          subst n_5
          rcases hw_5 with ⟨rfl, hw_5_0, hw_5_1⟩ | ⟨rfl, hw_5_0⟩
          · skip
            refine lv_if_ne (tgt := 54) hx hb dX9_well_49 (by decide) (fun _ => ?_) (fun h9 => absurd h9 (by decide))
            refine lv_aload_n hx hb dX9_well_54 rfl (lv_at hl 0 rfl) ?_
            refine gs_get (C := RX9) (T := TX9) (N := 12) hx hb hts inX9 hown hK hM 0 0 2 (by decide) rfl rfl (by decide) (hts _ gm_293) (fun _ h9 => h9) rfl dX9_well_55 ?_
            refine gs_getN (host := "WellCourt") (C := RX3) (T := TX3) (N := 3) hx hb hts inX3 hown hK hM 4 0 0 (by decide) rfl rfl (by decide) (va_Nw.use rfl (hov.2.2 _ gn_84)) (fun _ h9 => h9) rfl dX9_well_58 ?_
            refine lv_iload_n hx hb dX9_well_61 rfl (lv_at hl 1 rfl) ?_
            refine lv_iload_n hx hb dX9_well_62 rfl (lv_at hl 2 rfl) ?_
            refine gs_iast hx hb hK hI hm hM hS 5 0 (by decide) (fun _ => rfl) (vp_in_iff.mpr ⟨by omega, by omega⟩) dX9_well_63 (fun st_6 H locs est_6 hM hS => ?_)
            have hB_st_6 : gBN bX kX [500, 600, 1300, 1400] st st_6 := by rw [est_6]; exact hB_st.up (show (500 : Nat) ∈ _ from by decide) (gi_lo _) (gi_hi _)
            refine lv_aload_n hx hb dX9_well_64 rfl (lv_at hl 0 rfl) ?_
            refine gs_get (C := RX9) (T := TX9) (N := 12) hx hb hts inX9 hown hK hM 0 0 2 (by decide) rfl rfl (by decide) (hts _ gm_293) (fun _ h9 => h9) rfl dX9_well_65 ?_
            refine gs_getN (host := "WellCourt") (C := RX3) (T := TX3) (N := 3) hx hb hts inX3 hown hK hM 4 0 1 (by decide) rfl rfl (by decide) (va_Nw.use rfl (hov.2.2 _ gn_87)) (fun _ h9 => h9) rfl dX9_well_68 ?_
            refine lv_iload_n hx hb dX9_well_71 rfl (lv_at hl 1 rfl) ?_
            refine lv_iload_n hx hb dX9_well_72 rfl (lv_at hl 3 rfl) ?_
            refine gs_iast hx hb hK hI hm hM hS 6 0 (by decide) (fun _ => rfl) (vp_in_iff.mpr ⟨by omega, by omega⟩) dX9_well_73 (fun st_7 H locs est_7 hM hS => ?_)
            have hB_st_7 : gBN bX kX [500, 600, 1300, 1400] st st_7 := by rw [est_7]; exact hB_st_6.up (show (600 : Nat) ∈ _ from by decide) (gi_lo _) (gi_hi _)
            refine lv_aload_n hx hb dX9_well_74 rfl (lv_at hl 0 rfl) ?_
            refine gs_get (C := RX9) (T := TX9) (N := 12) hx hb hts inX9 hown hK hM 0 0 4 (by decide) rfl rfl (by decide) (hts _ gm_295) (fun _ h9 => h9) rfl dX9_well_75 ?_
            refine gs_getN (host := "WellCourt") (C := RX1) (T := TX1) (N := 3) hx hb hts inX1 hown hK hM 12 15 0 (by decide) rfl rfl (by decide) (va_Nw.use rfl (hov.2.2 _ gn_121)) (fun _ h9 => h9) rfl dX9_well_78 ?_
            refine lv_iload_n hx hb dX9_well_81 rfl (lv_at hl 1 rfl) ?_
            refine lv_iload hx hb dX9_well_82 (lv_at hl 4 rfl) ?_
            refine gs_iast hx hb hK hI hm hM hS 13 15 (by decide) (fun _ => rfl) (vp_in_iff.mpr ⟨by omega, by omega⟩) dX9_well_84 (fun st_8 H locs est_8 hM hS => ?_)
            have hB_st_8 : gBN bX kX [500, 600, 1300, 1400] st st_8 := by rw [est_8]; exact hB_st_7.up (show (1300 : Nat) ∈ _ from by decide) (gi_lo _) (gi_hi _)
            refine lv_aload_n hx hb dX9_well_85 rfl (lv_at hl 0 rfl) ?_
            refine gs_get (C := RX9) (T := TX9) (N := 12) hx hb hts inX9 hown hK hM 0 0 4 (by decide) rfl rfl (by decide) (hts _ gm_295) (fun _ h9 => h9) rfl dX9_well_86 ?_
            refine gs_getN (host := "WellCourt") (C := RX1) (T := TX1) (N := 3) hx hb hts inX1 hown hK hM 12 15 1 (by decide) rfl rfl (by decide) (va_Nw.use rfl (hov.2.2 _ gn_124)) (fun _ h9 => h9) rfl dX9_well_89 ?_
            refine lv_iload_n hx hb dX9_well_92 rfl (lv_at hl 1 rfl) ?_
            refine lv_iload hx hb dX9_well_93 (lv_at hl 4 rfl) ?_
            refine gs_iast hx hb hK hI hm hM hS 14 15 (by decide) (fun _ => rfl) (vp_in_iff.mpr ⟨by omega, by omega⟩) dX9_well_95 (fun st_9 H locs est_9 hM hS => ?_)
            have hB_st_9 : gBN bX kX [500, 600, 1300, 1400] st st_9 := by rw [est_9]; exact hB_st_8.up (show (1400 : Nat) ∈ _ from by decide) (gi_lo _) (gi_hi _)
            refine lv_iconst (v := 1) hx hb dX9_well_96 (by decide) ?_
            exact gs_iret hx hb hr hlocks hM hS (by decide) ⟨hB_st_9, (Or.inl (⟨rfl, (by have hl0 : (1 : Int32).toInt = 1 := (by decide); omega), (by have hl0 : (1 : Int32).toInt = 1 := (by decide); omega), (by have hl0 : (1 : Int32).toInt = 1 := (by decide); omega), (by have hl0 : (1 : Int32).toInt = 1 := (by decide); omega), (by have hl0 : (1 : Int32).toInt = 1 := (by decide); omega), (by have hl0 : (1 : Int32).toInt = 1 := (by decide); omega), (by have hl0 : (1 : Int32).toInt = 1 := (by decide); omega), (by have hl0 : (1 : Int32).toInt = 1 := (by decide); omega), (by have hl0 : (1 : Int32).toInt = 1 := (by decide); omega), (((congrFun (congrFun est_9 5) 0).trans ((congrFun (gU_k (by decide)) 0).trans ((congrFun (congrFun est_8 5) 0).trans ((congrFun (gU_k (by decide)) 0).trans ((congrFun (congrFun est_7 5) 0).trans ((congrFun (gU_k (by decide)) 0).trans ((congrFun (congrFun est_6 5) 0).trans ((gU_at _ _ _ _ _).trans (congrArg (fun f9 => upd f9 (x.toNatClampNeg) (y : Int32)) rfl))))))))))⟩))⟩ (by exact Nat.le_refl _) (by exact Nat.le_refl _) dX9_well_97
          · skip
            refine lv_if_ne (tgt := 54) hx hb dX9_well_49 (by decide) (fun h9 => absurd (by decide) h9) (fun _ => ?_)
            refine lv_iconst (v := 0) hx hb dX9_well_52 (by decide) ?_
            exact gs_iret hx hb hr hlocks hM hS (by decide) ⟨hB_st, (Or.inr (⟨rfl, (by have hl0 : (0 : Int32).toInt = 0 := (by decide); omega), (rfl)⟩))⟩ (by exact Nat.le_refl _) (by exact Nat.le_refl _) dX9_well_53
        · skip
          refine lv_if_eq (tgt := 52) hx hb dX9_well_39 (by decide) (fun _ => ?_) (fun h9 => absurd (by decide) h9)
          refine lv_iconst (v := 0) hx hb dX9_well_52 (by decide) ?_
          exact gs_iret hx hb hr hlocks hM hS (by decide) ⟨hB_st, (Or.inr (⟨rfl, (by have hl0 : (0 : Int32).toInt = 0 := (by decide); omega), (rfl)⟩))⟩ (by exact Nat.le_refl _) (by exact Nat.le_refl _) dX9_well_53
      · skip
        refine lv_if_eq (tgt := 52) hx hb dX9_well_28 (by decide) (fun _ => ?_) (fun h9 => absurd (by decide) h9)
        refine lv_iconst (v := 0) hx hb dX9_well_52 (by decide) ?_
        exact gs_iret hx hb hr hlocks hM hS (by decide) ⟨hB_st, (Or.inr (⟨rfl, (by have hl0 : (0 : Int32).toInt = 0 := (by decide); omega), (rfl)⟩))⟩ (by exact Nat.le_refl _) (by exact Nat.le_refl _) dX9_well_53
  · skip
    refine lv_if_eq (tgt := 18) hx hb dX9_well_4 (by decide) (fun _ => ?_) (fun h9 => absurd (by decide) h9)
    refine lv_iconst (v := 0) hx hb dX9_well_18 (by decide) ?_
    exact gs_iret hx hb hr hlocks hM hS (by decide) ⟨hB_st, (Or.inr (⟨rfl, (by have hl0 : (0 : Int32).toInt = 0 := (by decide); omega), (rfl)⟩))⟩ (by exact Nat.le_refl _) (by exact Nat.le_refl _) dX9_well_19

set_option maxHeartbeats 4000000 in
set_option maxRecDepth 100000 in
/-- WellCourt.rights -/
theorem s_rights (l : Launch) (G : va_G) (cy : Nat → ClassId) (sK sV : Nat → Nat) (ad : Nat → Nat → Nat) (sz : Nat) (st : gS) (hB : gBd bX st) : gsMi l yX9_rights cX9_rights 3 (some .int) ({ frames := 8, cells := 0, slots := 0, locals := 176 } : Room) G cy sK sV (shX cy ad) cnX ad sz [.ref (ad 0 0)] st (fun (r : Int32) (u : gS) => gBN bX kX [7, 8, 11, 101, 301, 302, 303, 304, 305, 1100, 1500, 2500, 2505, 2509, 2700, 2800, 2900, 3000, 3100, 3200, 3300, 3400, 3500, 3600, 3700] st u ∧ (((u 1 0 1).toInt = 0))) := by
  refine gs_start (fun A => gsQi G (shX cy ad) cnX ad _ A) (by decide) (Nat.le_of_ble_eq_true rfl) ?_
  intro p e s m below meth c A ls H hx hb hr hml hlocks hown hts hK hov hE hI hM hm hS hA hl
  have hl : lv_has ls 3 [(0, .ref (ad 0 0))] := hl
  have hB_st : gBN bX kX [7, 8, 11, 101, 301, 302, 303, 304, 305, 1100, 1500, 2500, 2505, 2509, 2700, 2800, 2900, 3000, 3100, 3200, 3300, 3400, 3500, 3600, 3700] st st := gBN.rf hB
  refine lv_aload_n hx hb dX9_rights_0 rfl (lv_at hl 0 rfl) ?_
  refine gs_get (C := RX9) (T := TX9) (N := 12) hx hb hts inX9 hown hK hM 0 0 8 (by decide) rfl rfl (by decide) (hts _ gm_299) (fun _ h9 => h9) rfl dX9_rights_1 ?_
  have h_1 : (0 : Int) ≤ (st 0 0 8).toInt ∧ (st 0 0 8).toInt ≤ (1 : Int) := hB_st.1 0 0 8
  refine gs_callv (va_runV (As := []) (rest := []) ⟨hx, hb, hml, hown, hts⟩ (s_X4_clear l G cy sK sV ad H.size st hB_st.1 (st 0 0 8) h_1 ) ⟨(gz_cb (n := 0) hts gm_358 gm_10 gm_361 ⟨by decide +kernel, by decide +kernel, by decide +kernel⟩ ⟨Nat.le_of_ble_eq_true rfl, Nat.le_of_ble_eq_true rfl⟩), hts _ gm_359, hts _ gm_360⟩ (gs_preV hK hov hE hI hM hm hS hA 25 ((st 0 0 8).toNatClampNeg) (gs_sel h_1) rfl rfl) rfl rfl hl.1 rfl (lv_room (Nat.le_of_ble_eq_true rfl)) dX9_rights_4 ⟨Nat.le_of_ble_eq_true rfl, Nat.le_of_ble_eq_true rfl⟩) hm hS hA (fun st_2 H locs hw_2 hM hS => ?_)
  obtain ⟨n_2, hw_2⟩ := hw_2
  have hB_st_2 : gBN bX kX [7, 8, 11, 101, 301, 302, 303, 304, 305, 1100, 1500, 2500, 2505, 2509, 2700, 2800, 2900, 3000, 3100, 3200, 3300, 3400, 3500, 3600, 3700] st st_2 := hB_st.call n_2 (by decide)
  refine lv_aload_n hx hb dX9_rights_7 rfl (lv_at hl 0 rfl) ?_
  refine gs_get (C := RX9) (T := TX9) (N := 12) hx hb hts inX9 hown hK hM 0 0 1 (by decide) rfl rfl (by decide) (hts _ gm_292) (fun _ h9 => h9) rfl dX9_rights_8 ?_
  refine lv_aload_n hx hb dX9_rights_11 rfl (lv_at hl 0 rfl) ?_
  refine gs_get (C := RX9) (T := TX9) (N := 12) hx hb hts inX9 hown hK hM 0 0 8 (by decide) rfl rfl (by decide) (hts _ gm_299) (fun _ h9 => h9) rfl dX9_rights_12 ?_
  have h_3 : (0 : Int) ≤ (st_2 0 0 8).toInt ∧ (st_2 0 0 8).toInt ≤ (1 : Int) := hB_st_2.1 0 0 8
  refine gs_calli (va_runV (As := [.ref (ad 25 ((st_2 0 0 8).toNatClampNeg))]) (rest := []) ⟨hx, hb, hml, hown, hts⟩ (s_X7_readText l G cy sK sV ad H.size st_2 hB_st_2.1 (st_2 0 0 8) h_3 ) ⟨(gz_cb (n := 1) hts gm_363 gm_3 gm_366 ⟨by decide +kernel, by decide +kernel, by decide +kernel⟩ ⟨Nat.le_of_ble_eq_true rfl, Nat.le_of_ble_eq_true rfl⟩), hts _ gm_364, hts _ gm_365⟩ (gs_preV hK hov hE hI hM hm hS hA 3 0 (by decide) rfl rfl) rfl rfl hl.1 rfl (lv_room (Nat.le_of_ble_eq_true rfl)) dX9_rights_15 ⟨Nat.le_of_ble_eq_true rfl, Nat.le_of_ble_eq_true rfl⟩) hm hS hA (fun r_4 st_4 H locs hw_4 hM hS => ?_)
  obtain ⟨n_4, hw_4⟩ := hw_4
  have hB_st_4 : gBN bX kX [7, 8, 11, 101, 301, 302, 303, 304, 305, 1100, 1500, 2500, 2505, 2509, 2700, 2800, 2900, 3000, 3100, 3200, 3300, 3400, 3500, 3600, 3700] st st_4 := hB_st_2.call n_4 (by decide)
  rcases hw_4 with rfl | rfl
  · skip
    refine lv_istore_n (lv' := [(1, .int 1), (0, .ref (ad 0 0))]) hx hb dX9_rights_18 rfl hl (by decide) rfl (fun ls hl => ?_)
    refine lv_aload_n hx hb dX9_rights_19 rfl (lv_at hl 1 rfl) ?_
    refine gs_get (C := RX9) (T := TX9) (N := 12) hx hb hts inX9 hown hK hM 0 0 0 (by decide) rfl rfl (by decide) (hts _ gm_291) (fun _ h9 => h9) rfl dX9_rights_20 ?_
    refine lv_iconst (v := 0) hx hb dX9_rights_23 (by decide) ?_
    refine gs_putN (host := "WellCourt") (C := RX8) (T := TX8) (N := 2) (ty := .int) (val := .int 0) hx hb hts inX8 tyX8 tyX8_ok nmX8 hown hK hI hm hM hS 1 0 1 (by decide) rfl rfl (by decide) (va_Nw.use rfl (hov.2.2 _ gn_40)) (fun _ h9 => h9) rfl (0 : Int32) rfl (by decide +kernel) rfl rfl (Nat.le_of_ble_eq_true rfl) dX9_rights_24 (fun st_5 H locs est_5 hM hS => ?_)
    have hB_st_5 : gBN bX kX [7, 8, 11, 101, 301, 302, 303, 304, 305, 1100, 1500, 2500, 2505, 2509, 2700, 2800, 2900, 3000, 3100, 3200, 3300, 3400, 3500, 3600, 3700] st st_5 := by rw [est_5]; exact hB_st_4.up (show (101 : Nat) ∈ _ from by decide) (show (0 : Int) ≤ ((0 : Int32)).toInt from by decide) (show ((0 : Int32)).toInt ≤ (800 : Int) from by decide)
    refine lv_aload_n hx hb dX9_rights_27 rfl (lv_at hl 1 rfl) ?_
    refine lv_aload_n hx hb dX9_rights_28 rfl (lv_at hl 1 rfl) ?_
    refine gs_get (C := RX9) (T := TX9) (N := 12) hx hb hts inX9 hown hK hM 0 0 1 (by decide) rfl rfl (by decide) (hts _ gm_292) (fun _ h9 => h9) rfl dX9_rights_29 ?_
    refine gs_getN (host := "WellCourt") (C := RX7) (T := TX7) (N := 6) hx hb hts inX7 hown hK hM 3 0 4 (by decide) rfl rfl (by decide) (va_Nw.use rfl (hov.2.2 _ gn_58)) (fun _ h9 => h9) rfl dX9_rights_32 ?_
    refine lv_topi (fun x_6 ex_6 => ?_)
    have ex_6 : (st_4 3 0 4) = x_6 := Eq.symm (ex_6.trans ((congrFun (congrFun (congrFun est_5 3) 0) 4).trans (congrFun (congrFun (gU_k (by decide)) 0) 4)))
    subst ex_6
    refine gs_put (C := RX9) (T := TX9) (N := 12) (ty := .int) (val := .int (st_4 3 0 4)) hx hb hts inX9 tyX9 tyX9_ok nmX9 hown hK hI hm hM hS 0 0 11 (by decide) rfl rfl (by decide) (hts _ gm_302) (fun _ h9 => h9) rfl ((st_4 3 0 4) : Int32) rfl (by decide +kernel) rfl rfl (Nat.le_of_ble_eq_true rfl) dX9_rights_35 (fun st_8 H locs est_8 hM hS => ?_)
    have hB_st_8 : gBN bX kX [7, 8, 11, 101, 301, 302, 303, 304, 305, 1100, 1500, 2500, 2505, 2509, 2700, 2800, 2900, 3000, 3100, 3200, 3300, 3400, 3500, 3600, 3700] st st_8 := by rw [est_8]; exact hB_st_5.up (show (11 : Nat) ∈ _ from by decide) (gi_lo _) (gi_hi _)
    refine lv_iload_n hx hb dX9_rights_38 rfl (lv_at hl 0 rfl) ?_
    refine lv_if_ne (tgt := 52) hx hb dX9_rights_39 (by decide) (fun _ => ?_) (fun h9 => absurd h9 (by decide))
    refine lv_aload_n hx hb dX9_rights_52 rfl (lv_at hl 1 rfl) ?_
    refine gs_get (C := RX9) (T := TX9) (N := 12) hx hb hts inX9 hown hK hM 0 0 7 (by decide) rfl rfl (by decide) (hts _ gm_298) (fun _ h9 => h9) rfl dX9_rights_53 ?_
    have h_9 : (0 : Int) ≤ (st_8 0 0 7).toInt ∧ (st_8 0 0 7).toInt ≤ (1 : Int) := hB_st_8.1 0 0 7
    refine lv_astore_n (lv' := [(2, .ref (ad 25 ((st_8 0 0 7).toNatClampNeg))), (1, .int 1), (0, .ref (ad 0 0))]) hx hb dX9_rights_56 rfl hl (by decide) rfl (fun ls hl => ?_)
    refine lv_aload_n hx hb dX9_rights_57 rfl (lv_at hl 2 rfl) ?_
    refine lv_aload_n hx hb dX9_rights_58 rfl (lv_at hl 2 rfl) ?_
    refine gs_get (C := RX9) (T := TX9) (N := 12) hx hb hts inX9 hown hK hM 0 0 8 (by decide) rfl rfl (by decide) (hts _ gm_299) (fun _ h9 => h9) rfl dX9_rights_59 ?_
    have h_10 : (0 : Int) ≤ (st_8 0 0 8).toInt ∧ (st_8 0 0 8).toInt ≤ (1 : Int) := hB_st_8.1 0 0 8
    refine gs_put (C := RX9) (T := TX9) (N := 12) (ty := .object "WellCourt$Law") (val := .ref (ad 25 ((st_8 0 0 8).toNatClampNeg))) hx hb hts inX9 tyX9 tyX9_ok nmX9 hown hK hI hm hM hS 0 0 7 (by decide) rfl rfl (by decide) (hts _ gm_298) (fun _ h9 => h9) rfl ((st_8 0 0 8) : Int32) rfl (by decide +kernel) rfl rfl (Nat.le_of_ble_eq_true rfl) dX9_rights_62 (fun st_11 H locs est_11 hM hS => ?_)
    have hB_st_11 : gBN bX kX [7, 8, 11, 101, 301, 302, 303, 304, 305, 1100, 1500, 2500, 2505, 2509, 2700, 2800, 2900, 3000, 3100, 3200, 3300, 3400, 3500, 3600, 3700] st st_11 := by rw [est_11]; exact hB_st_8.up (show (7 : Nat) ∈ _ from by decide) (show (0 : Int) ≤ (st_8 0 0 8).toInt from by omega) (show (st_8 0 0 8).toInt ≤ (1 : Int) from by omega)
    refine lv_aload_n hx hb dX9_rights_65 rfl (lv_at hl 2 rfl) ?_
    refine lv_aload_n hx hb dX9_rights_66 rfl (lv_at hl 0 rfl) ?_
    refine gs_put (C := RX9) (T := TX9) (N := 12) (ty := .object "WellCourt$Law") (val := .ref (ad 25 ((st_8 0 0 7).toNatClampNeg))) hx hb hts inX9 tyX9 tyX9_ok nmX9 hown hK hI hm hM hS 0 0 8 (by decide) rfl rfl (by decide) (hts _ gm_299) (fun _ h9 => h9) rfl ((st_8 0 0 7) : Int32) rfl (by decide +kernel) rfl rfl (Nat.le_of_ble_eq_true rfl) dX9_rights_67 (fun st_12 H locs est_12 hM hS => ?_)
    have hB_st_12 : gBN bX kX [7, 8, 11, 101, 301, 302, 303, 304, 305, 1100, 1500, 2500, 2505, 2509, 2700, 2800, 2900, 3000, 3100, 3200, 3300, 3400, 3500, 3600, 3700] st st_12 := by rw [est_12]; exact hB_st_11.up (show (8 : Nat) ∈ _ from by decide) (show (0 : Int) ≤ (st_8 0 0 7).toInt from by omega) (show (st_8 0 0 7).toInt ≤ (1 : Int) from by omega)
    refine lv_aload_n hx hb dX9_rights_70 rfl (lv_at hl 2 rfl) ?_
    refine gs_get (C := RX9) (T := TX9) (N := 12) hx hb hts inX9 hown hK hM 0 0 3 (by decide) rfl rfl (by decide) (hts _ gm_294) (fun _ h9 => h9) rfl dX9_rights_71 ?_
    refine lv_aload_n hx hb dX9_rights_74 rfl (lv_at hl 2 rfl) ?_
    refine gs_get (C := RX9) (T := TX9) (N := 12) hx hb hts inX9 hown hK hM 0 0 7 (by decide) rfl rfl (by decide) (hts _ gm_298) (fun _ h9 => h9) rfl dX9_rights_75 ?_
    have h_13 : (0 : Int) ≤ (st_12 0 0 7).toInt ∧ (st_12 0 0 7).toInt ≤ (1 : Int) := hB_st_12.1 0 0 7
    refine lv_aload_n hx hb dX9_rights_78 rfl (lv_at hl 2 rfl) ?_
    refine gs_get (C := RX9) (T := TX9) (N := 12) hx hb hts inX9 hown hK hM 0 0 10 (by decide) rfl rfl (by decide) (hts _ gm_301) (fun _ h9 => h9) rfl dX9_rights_79 ?_
    refine lv_topi (fun x_14 ex_14 => ?_)
    have ex_14 : (st 0 0 10) = x_14 := Eq.symm (ex_14.trans (((congrFun (congrFun (congrFun est_12 0) 0) 10).trans (gU_other (by decide))).trans (((congrFun (congrFun (congrFun est_11 0) 0) 10).trans (gU_other (by decide))).trans (((congrFun (congrFun (congrFun est_8 0) 0) 10).trans (gU_other (by decide))).trans (((congrFun (congrFun (congrFun est_5 0) 0) 10).trans (congrFun (congrFun (gU_k (by decide)) 0) 10)).trans ((n_4.2 0 0 10 (show (10 : Nat) ∉ _ from by decide)).trans (n_2.2 0 0 10 (show (10 : Nat) ∉ _ from by decide))))))))
    subst ex_14
    have bf_15 : (0 : Int) ≤ (st 0 0 10).toInt ∧ (st 0 0 10).toInt ≤ (199 : Int) := hB_st.1 0 0 10
    refine gs_callv (va_runV (As := [.ref (ad 25 ((st_12 0 0 7).toNatClampNeg)), .int (st 0 0 10)]) (rest := []) ⟨hx, hb, hml, hown, hts⟩ (s_X0_tellTurns l G cy sK sV ad H.size st_12 hB_st_12.1 (st_12 0 0 7) (st 0 0 10) ((st 0 0 10).toInt) rfl h_13 ) ⟨(gz_cb (n := 2) hts gm_532 gm_5 gm_535 ⟨by decide +kernel, by decide +kernel, by decide +kernel⟩ ⟨Nat.le_of_ble_eq_true rfl, Nat.le_of_ble_eq_true rfl⟩), hts _ gm_533, hts _ gm_534⟩ (gs_preV hK hov hE hI hM hm hS hA 9 0 (by decide) rfl rfl) rfl rfl hl.1 rfl (lv_room (Nat.le_of_ble_eq_true rfl)) dX9_rights_82 ⟨Nat.le_of_ble_eq_true rfl, Nat.le_of_ble_eq_true rfl⟩) hm hS hA (fun st_16 H locs hw_16 hM hS => ?_)
    obtain ⟨n_16, hw_16⟩ := hw_16
    have hB_st_16 : gBN bX kX [7, 8, 11, 101, 301, 302, 303, 304, 305, 1100, 1500, 2500, 2505, 2509, 2700, 2800, 2900, 3000, 3100, 3200, 3300, 3400, 3500, 3600, 3700] st st_16 := hB_st_12.call n_16 (by decide)
    refine lv_aload_n hx hb dX9_rights_85 rfl (lv_at hl 2 rfl) ?_
    refine gs_callv (va_runV (As := []) (rest := []) ⟨hx, hb, hml, hown, hts⟩ (s_settleToday l G cy sK sV ad H.size st_16 hB_st_16.1  ) ⟨(gz_cb (n := 0) hts gm_543 gm_1 gm_546 ⟨by decide +kernel, by decide +kernel, by decide +kernel⟩ ⟨Nat.le_of_ble_eq_true rfl, Nat.le_of_ble_eq_true rfl⟩), hts _ gm_545, hts _ gs_16⟩ (gs_preV hK hov hE hI hM hm hS hA 0 0 (by decide) rfl rfl) rfl rfl hl.1 rfl (lv_room (Nat.le_of_ble_eq_true rfl)) dX9_rights_86 ⟨Nat.le_of_ble_eq_true rfl, Nat.le_of_ble_eq_true rfl⟩) hm hS hA (fun st_17 H locs hw_17 hM hS => ?_)
    obtain ⟨n_17, hw_17⟩ := hw_17
    have hB_st_17 : gBN bX kX [7, 8, 11, 101, 301, 302, 303, 304, 305, 1100, 1500, 2500, 2505, 2509, 2700, 2800, 2900, 3000, 3100, 3200, 3300, 3400, 3500, 3600, 3700] st st_17 := hB_st_16.call n_17 (by decide)
    refine lv_aload_n hx hb dX9_rights_89 rfl (lv_at hl 2 rfl) ?_
    refine gs_get (C := RX9) (T := TX9) (N := 12) hx hb hts inX9 hown hK hM 0 0 7 (by decide) rfl rfl (by decide) (hts _ gm_298) (fun _ h9 => h9) rfl dX9_rights_90 ?_
    have h_18 : (0 : Int) ≤ (st_17 0 0 7).toInt ∧ (st_17 0 0 7).toInt ≤ (1 : Int) := hB_st_17.1 0 0 7
    refine gs_getN (host := "WellCourt") (C := RX4) (T := TX4) (N := 14) hx hb hts inX4 hown hK hM 25 ((st_17 0 0 7).toNatClampNeg) 0 (gs_sel h_18) rfl rfl (by decide) (va_Nw.use rfl (hov.2.2 _ gn_190)) (fun _ h9 => h9) rfl dX9_rights_93 ?_
    refine lv_topi (fun x_19 ex_19 => ?_)
    have ex_19 : (st_4 25 ((st_17 0 0 7).toNatClampNeg) 0) = x_19 := Eq.symm (ex_19.trans ((n_17.2 25 ((st_17 0 0 7).toNatClampNeg) 0 (show (2500 : Nat) ∉ _ from by decide)).trans ((n_16.2 25 ((st_17 0 0 7).toNatClampNeg) 0 (show (2500 : Nat) ∉ _ from by decide)).trans (((congrFun (congrFun (congrFun est_12 25) ((st_17 0 0 7).toNatClampNeg)) 0).trans (congrFun (congrFun (gU_k (by decide)) ((st_17 0 0 7).toNatClampNeg)) 0)).trans (((congrFun (congrFun (congrFun est_11 25) ((st_17 0 0 7).toNatClampNeg)) 0).trans (congrFun (congrFun (gU_k (by decide)) ((st_17 0 0 7).toNatClampNeg)) 0)).trans (((congrFun (congrFun (congrFun est_8 25) ((st_17 0 0 7).toNatClampNeg)) 0).trans (congrFun (congrFun (gU_k (by decide)) ((st_17 0 0 7).toNatClampNeg)) 0)).trans ((congrFun (congrFun (congrFun est_5 25) ((st_17 0 0 7).toNatClampNeg)) 0).trans (congrFun (congrFun (gU_k (by decide)) ((st_17 0 0 7).toNatClampNeg)) 0))))))))
    subst ex_19
    exact gs_iret hx hb hr hlocks hM hS rfl ⟨hB_st_17, (by have hq0 : (st_17 1 0 1).toInt = 0 := (congrArg Int32.toInt (((n_17.2 1 0 1 (show (101 : Nat) ∉ _ from by decide)).trans ((n_16.2 1 0 1 (show (101 : Nat) ∉ _ from by decide)).trans (((congrFun (congrFun (congrFun est_12 1) 0) 1).trans (congrFun (congrFun (gU_k (by decide)) 0) 1)).trans (((congrFun (congrFun (congrFun est_11 1) 0) 1).trans (congrFun (congrFun (gU_k (by decide)) 0) 1)).trans (((congrFun (congrFun (congrFun est_8 1) 0) 1).trans (congrFun (congrFun (gU_k (by decide)) 0) 1)).trans ((congrFun (congrFun (congrFun est_5 1) 0) 1).trans (gU_same _ _ _ _ _))))))))).trans (by decide); omega)⟩ (by exact Nat.le_refl _) (by exact Nat.le_refl _) dX9_rights_96
  · skip
    refine lv_istore_n (lv' := [(1, .int 0), (0, .ref (ad 0 0))]) hx hb dX9_rights_18 rfl hl (by decide) rfl (fun ls hl => ?_)
    refine lv_aload_n hx hb dX9_rights_19 rfl (lv_at hl 1 rfl) ?_
    refine gs_get (C := RX9) (T := TX9) (N := 12) hx hb hts inX9 hown hK hM 0 0 0 (by decide) rfl rfl (by decide) (hts _ gm_291) (fun _ h9 => h9) rfl dX9_rights_20 ?_
    refine lv_iconst (v := 0) hx hb dX9_rights_23 (by decide) ?_
    refine gs_putN (host := "WellCourt") (C := RX8) (T := TX8) (N := 2) (ty := .int) (val := .int 0) hx hb hts inX8 tyX8 tyX8_ok nmX8 hown hK hI hm hM hS 1 0 1 (by decide) rfl rfl (by decide) (va_Nw.use rfl (hov.2.2 _ gn_40)) (fun _ h9 => h9) rfl (0 : Int32) rfl (by decide +kernel) rfl rfl (Nat.le_of_ble_eq_true rfl) dX9_rights_24 (fun st_21 H locs est_21 hM hS => ?_)
    have hB_st_21 : gBN bX kX [7, 8, 11, 101, 301, 302, 303, 304, 305, 1100, 1500, 2500, 2505, 2509, 2700, 2800, 2900, 3000, 3100, 3200, 3300, 3400, 3500, 3600, 3700] st st_21 := by rw [est_21]; exact hB_st_4.up (show (101 : Nat) ∈ _ from by decide) (show (0 : Int) ≤ ((0 : Int32)).toInt from by decide) (show ((0 : Int32)).toInt ≤ (800 : Int) from by decide)
    refine lv_aload_n hx hb dX9_rights_27 rfl (lv_at hl 1 rfl) ?_
    refine lv_aload_n hx hb dX9_rights_28 rfl (lv_at hl 1 rfl) ?_
    refine gs_get (C := RX9) (T := TX9) (N := 12) hx hb hts inX9 hown hK hM 0 0 1 (by decide) rfl rfl (by decide) (hts _ gm_292) (fun _ h9 => h9) rfl dX9_rights_29 ?_
    refine gs_getN (host := "WellCourt") (C := RX7) (T := TX7) (N := 6) hx hb hts inX7 hown hK hM 3 0 4 (by decide) rfl rfl (by decide) (va_Nw.use rfl (hov.2.2 _ gn_58)) (fun _ h9 => h9) rfl dX9_rights_32 ?_
    refine lv_topi (fun x_22 ex_22 => ?_)
    have ex_22 : (st_4 3 0 4) = x_22 := Eq.symm (ex_22.trans ((congrFun (congrFun (congrFun est_21 3) 0) 4).trans (congrFun (congrFun (gU_k (by decide)) 0) 4)))
    subst ex_22
    refine gs_put (C := RX9) (T := TX9) (N := 12) (ty := .int) (val := .int (st_4 3 0 4)) hx hb hts inX9 tyX9 tyX9_ok nmX9 hown hK hI hm hM hS 0 0 11 (by decide) rfl rfl (by decide) (hts _ gm_302) (fun _ h9 => h9) rfl ((st_4 3 0 4) : Int32) rfl (by decide +kernel) rfl rfl (Nat.le_of_ble_eq_true rfl) dX9_rights_35 (fun st_24 H locs est_24 hM hS => ?_)
    have hB_st_24 : gBN bX kX [7, 8, 11, 101, 301, 302, 303, 304, 305, 1100, 1500, 2500, 2505, 2509, 2700, 2800, 2900, 3000, 3100, 3200, 3300, 3400, 3500, 3600, 3700] st st_24 := by rw [est_24]; exact hB_st_21.up (show (11 : Nat) ∈ _ from by decide) (gi_lo _) (gi_hi _)
    refine lv_iload_n hx hb dX9_rights_38 rfl (lv_at hl 0 rfl) ?_
    refine lv_if_ne (tgt := 52) hx hb dX9_rights_39 (by decide) (fun h9 => absurd (by decide) h9) (fun _ => ?_)
    refine lv_iconst (v := (-1)) hx hb dX9_rights_42 (by decide) ?_
    refine lv_aload_n hx hb dX9_rights_43 rfl (lv_at hl 1 rfl) ?_
    refine gs_get (C := RX9) (T := TX9) (N := 12) hx hb hts inX9 hown hK hM 0 0 1 (by decide) rfl rfl (by decide) (hts _ gm_292) (fun _ h9 => h9) rfl dX9_rights_44 ?_
    refine gs_getN (host := "WellCourt") (C := RX7) (T := TX7) (N := 6) hx hb hts inX7 hown hK hM 3 0 5 (by decide) rfl rfl (by decide) (va_Nw.use rfl (hov.2.2 _ gn_60)) (fun _ h9 => h9) rfl dX9_rights_47 ?_
    refine lv_topi (fun x_25 ex_25 => ?_)
    have ex_25 : (st_4 3 0 5) = x_25 := Eq.symm (ex_25.trans (((congrFun (congrFun (congrFun est_24 3) 0) 5).trans (congrFun (congrFun (gU_k (by decide)) 0) 5)).trans ((congrFun (congrFun (congrFun est_21 3) 0) 5).trans (congrFun (congrFun (gU_k (by decide)) 0) 5))))
    subst ex_25
    refine lv_isub hx hb dX9_rights_50 ?_
    refine lv_topi (fun x_27 ex_27 => ?_)
    exact gs_iret hx hb hr hlocks hM hS rfl ⟨hB_st_24, (by have hq0 : (st_24 1 0 1).toInt = 0 := (congrArg Int32.toInt ((((congrFun (congrFun (congrFun est_24 1) 0) 1).trans (congrFun (congrFun (gU_k (by decide)) 0) 1)).trans ((congrFun (congrFun (congrFun est_21 1) 0) 1).trans (gU_same _ _ _ _ _))))).trans (by decide); omega)⟩ (by exact Nat.le_refl _) (by exact Nat.le_refl _) dX9_rights_51

set_option maxHeartbeats 4000000 in
set_option maxRecDepth 100000 in
/-- WellCourt.fault -/
theorem s_fault (l : Launch) (G : va_G) (cy : Nat → ClassId) (sK sV : Nat → Nat) (ad : Nat → Nat → Nat) (sz : Nat) (st : gS) (hB : gBd bX st) : gsMi l yX9_fault cX9_fault 1 (some .int) ({ frames := 0, cells := 0, slots := 0, locals := 0 } : Room) G cy sK sV (shX cy ad) cnX ad sz [.ref (ad 0 0)] st (fun (r : Int32) (u : gS) => gBN bX kX [] st u ∧ (True)) := by
  refine gs_start (fun A => gsQi G (shX cy ad) cnX ad _ A) (by decide) (Nat.le_of_ble_eq_true rfl) ?_
  intro p e s m below meth c A ls H hx hb hr hml hlocks hown hts hK hov hE hI hM hm hS hA hl
  have hl : lv_has ls 1 [(0, .ref (ad 0 0))] := hl
  have hB_st : gBN bX kX [] st st := gBN.rf hB
  refine lv_aload_n hx hb dX9_fault_0 rfl (lv_at hl 0 rfl) ?_
  refine gs_get (C := RX9) (T := TX9) (N := 12) hx hb hts inX9 hown hK hM 0 0 11 (by decide) rfl rfl (by decide) (hts _ gm_302) (fun _ h9 => h9) rfl dX9_fault_1 ?_
  exact gs_iret hx hb hr hlocks hM hS rfl ⟨hB_st, trivial⟩ (by exact Nat.le_refl _) (by exact Nat.le_refl _) dX9_fault_4

set_option maxHeartbeats 4000000 in
set_option maxRecDepth 100000 in
/-- WellCourt.next -/
theorem s_next (l : Launch) (G : va_G) (cy : Nat → ClassId) (sK sV : Nat → Nat) (ad : Nat → Nat → Nat) (sz : Nat) (st : gS) (hB : gBd bX st) : gsMi l yX9_next cX9_next 1 (some .boolean) ({ frames := 4, cells := 0, slots := 0, locals := 87 } : Room) G cy sK sV (shX cy ad) cnX ad sz [.ref (ad 0 0)] st (fun (r : Int32) (u : gS) => gBN bX kX [10, 1100, 1300, 1400, 1500] st u ∧ ((r = 1 ∧ ((st 0 0 10).toInt < 199) ∧ ((u 0 0 10).toInt = (st 0 0 10).toInt + 1)) ∨ (r = 0 ∧ (199 ≤ (st 0 0 10).toInt) ∧ ((u 0 0 10).toInt = (st 0 0 10).toInt)))) := by
  refine gs_start (fun A => gsQi G (shX cy ad) cnX ad _ A) (by decide) (Nat.le_of_ble_eq_true rfl) ?_
  intro p e s m below meth c A ls H hx hb hr hml hlocks hown hts hK hov hE hI hM hm hS hA hl
  have hl : lv_has ls 1 [(0, .ref (ad 0 0))] := hl
  have hB_st : gBN bX kX [10, 1100, 1300, 1400, 1500] st st := gBN.rf hB
  refine lv_aload_n hx hb dX9_next_0 rfl (lv_at hl 0 rfl) ?_
  refine gs_get (C := RX9) (T := TX9) (N := 12) hx hb hts inX9 hown hK hM 0 0 10 (by decide) rfl rfl (by decide) (hts _ gm_301) (fun _ h9 => h9) rfl dX9_next_1 ?_
  have bf_1 : (0 : Int) ≤ (st 0 0 10).toInt ∧ (st 0 0 10).toInt ≤ (199 : Int) := hB_st.1 0 0 10
  refine lv_sipush (v := 199) hx hb dX9_next_4 (by decide) ?_
  refine lv_icmp_lt (tgt := 12) hx hb dX9_next_7 (by decide) (fun c_2 => ?_) (fun c_2 => ?_)
  · have ic_2 := gz_lt (rfl : (st 0 0 10).toInt = (st 0 0 10).toInt) (by decide : (199 : Int32).toInt = 199) c_2
    refine lv_aload_n hx hb dX9_next_12 rfl (lv_at hl 0 rfl) ?_
    refine lv_dup hx hb dX9_next_13 rfl ?_
    refine gs_get (C := RX9) (T := TX9) (N := 12) hx hb hts inX9 hown hK hM 0 0 10 (by decide) rfl rfl (by decide) (hts _ gm_301) (fun _ h9 => h9) rfl dX9_next_14 ?_
    have bf_3 : (0 : Int) ≤ (st 0 0 10).toInt ∧ (st 0 0 10).toInt ≤ (199 : Int) := hB_st.1 0 0 10
    refine lv_iconst (v := 1) hx hb dX9_next_17 (by decide) ?_
    refine lv_iadd hx hb dX9_next_18 ?_
    refine lv_topi (fun x_4 ex_4 => ?_)
    try have tx_4 : x_4.toInt = (st 0 0 10).toInt + 1 := by rw [ex_4]; exact gz_addP (x := (st 0 0 10).toInt) (y := 1) rfl (by decide) (by omega) (by omega)
    refine gs_put (C := RX9) (T := TX9) (N := 12) (ty := .int) (val := .int x_4) hx hb hts inX9 tyX9 tyX9_ok nmX9 hown hK hI hm hM hS 0 0 10 (by decide) rfl rfl (by decide) (hts _ gm_301) (fun _ h9 => h9) rfl (x_4 : Int32) rfl (by decide +kernel) rfl rfl (Nat.le_of_ble_eq_true rfl) dX9_next_19 (fun st_5 H locs est_5 hM hS => ?_)
    have hB_st_5 : gBN bX kX [10, 1100, 1300, 1400, 1500] st st_5 := by rw [est_5]; exact hB_st.up (show (10 : Nat) ∈ _ from by decide) (show (0 : Int) ≤ x_4.toInt from by omega) (show x_4.toInt ≤ (199 : Int) from by omega)
    refine lv_aload_n hx hb dX9_next_22 rfl (lv_at hl 0 rfl) ?_
    refine gs_get (C := RX9) (T := TX9) (N := 12) hx hb hts inX9 hown hK hM 0 0 4 (by decide) rfl rfl (by decide) (hts _ gm_295) (fun _ h9 => h9) rfl dX9_next_23 ?_
    refine lv_aload_n hx hb dX9_next_26 rfl (lv_at hl 0 rfl) ?_
    refine gs_get (C := RX9) (T := TX9) (N := 12) hx hb hts inX9 hown hK hM 0 0 4 (by decide) rfl rfl (by decide) (hts _ gm_295) (fun _ h9 => h9) rfl dX9_next_27 ?_
    refine lv_aload_n hx hb dX9_next_30 rfl (lv_at hl 0 rfl) ?_
    refine gs_get (C := RX9) (T := TX9) (N := 12) hx hb hts inX9 hown hK hM 0 0 2 (by decide) rfl rfl (by decide) (hts _ gm_293) (fun _ h9 => h9) rfl dX9_next_31 ?_
    refine gs_callv (va_runV (As := [.ref (ad 12 15), .ref (ad 4 0)]) (rest := []) ⟨hx, hb, hml, hown, hts⟩ (s_X1_grow l G cy sK sV ad H.size st_5 hB_st_5.1 15 15 (by decide) (by decide) ) ⟨(gz_cb (n := 2) hts gm_575 gm_7 gm_578 ⟨by decide +kernel, by decide +kernel, by decide +kernel⟩ ⟨Nat.le_of_ble_eq_true rfl, Nat.le_of_ble_eq_true rfl⟩), hts _ gm_576, hts _ gm_577⟩ (gs_preV hK hov hE hI hM hm hS hA 12 15 (by decide) rfl rfl) rfl rfl hl.1 rfl (lv_room (Nat.le_of_ble_eq_true rfl)) dX9_next_34 ⟨Nat.le_of_ble_eq_true rfl, Nat.le_of_ble_eq_true rfl⟩) hm hS hA (fun st_6 H locs hw_6 hM hS => ?_)
    obtain ⟨n_6, hw_6⟩ := hw_6
    have hB_st_6 : gBN bX kX [10, 1100, 1300, 1400, 1500] st st_6 := hB_st_5.call n_6 (by decide)
    refine lv_aload_n hx hb dX9_next_37 rfl (lv_at hl 0 rfl) ?_
    refine gs_callv (va_runV (As := []) (rest := []) ⟨hx, hb, hml, hown, hts⟩ (s_settleToday l G cy sK sV ad H.size st_6 hB_st_6.1  ) ⟨(gz_cb (n := 0) hts gm_543 gm_1 gm_546 ⟨by decide +kernel, by decide +kernel, by decide +kernel⟩ ⟨Nat.le_of_ble_eq_true rfl, Nat.le_of_ble_eq_true rfl⟩), hts _ gm_545, hts _ gs_16⟩ (gs_preV hK hov hE hI hM hm hS hA 0 0 (by decide) rfl rfl) rfl rfl hl.1 rfl (lv_room (Nat.le_of_ble_eq_true rfl)) dX9_next_38 ⟨Nat.le_of_ble_eq_true rfl, Nat.le_of_ble_eq_true rfl⟩) hm hS hA (fun st_7 H locs hw_7 hM hS => ?_)
    obtain ⟨n_7, hw_7⟩ := hw_7
    have hB_st_7 : gBN bX kX [10, 1100, 1300, 1400, 1500] st st_7 := hB_st_6.call n_7 (by decide)
    refine lv_iconst (v := 1) hx hb dX9_next_41 (by decide) ?_
    exact gs_iret hx hb hr hlocks hM hS (by decide) ⟨hB_st_7, (Or.inl (⟨rfl, (by have hl0 : (1 : Int32).toInt = 1 := (by decide); have hb1 : (0 : Int) ≤ (st 0 0 10).toInt ∧ (st 0 0 10).toInt ≤ (199 : Int) := hB_st.1 0 0 10; omega), (by have hl0 : (1 : Int32).toInt = 1 := (by decide); have hq1 : (st_7 0 0 10).toInt = (x_4 : Int32).toInt := congrArg Int32.toInt (((n_7.2 0 0 10 (show (10 : Nat) ∉ _ from by decide)).trans ((n_6.2 0 0 10 (show (10 : Nat) ∉ _ from by decide)).trans ((congrFun (congrFun (congrFun est_5 0) 0) 10).trans (gU_same _ _ _ _ _))))); have hb2 : (0 : Int) ≤ (st_7 0 0 10).toInt ∧ (st_7 0 0 10).toInt ≤ (199 : Int) := hB_st_7.1 0 0 10; have hb3 : (0 : Int) ≤ (st 0 0 10).toInt ∧ (st 0 0 10).toInt ≤ (199 : Int) := hB_st.1 0 0 10; omega)⟩))⟩ (by exact Nat.le_refl _) (by exact Nat.le_refl _) dX9_next_42
  · have ic_2 := gz_nlt (rfl : (st 0 0 10).toInt = (st 0 0 10).toInt) (by decide : (199 : Int32).toInt = 199) c_2
    refine lv_iconst (v := 0) hx hb dX9_next_10 (by decide) ?_
    exact gs_iret hx hb hr hlocks hM hS (by decide) ⟨hB_st, (Or.inr (⟨rfl, (by have hl0 : (0 : Int32).toInt = 0 := (by decide); have hb1 : (0 : Int) ≤ (st 0 0 10).toInt ∧ (st 0 0 10).toInt ≤ (199 : Int) := hB_st.1 0 0 10; omega), (by have hl0 : (0 : Int32).toInt = 0 := (by decide); have hb1 : (0 : Int) ≤ (st 0 0 10).toInt ∧ (st 0 0 10).toInt ≤ (199 : Int) := hB_st.1 0 0 10; omega)⟩))⟩ (by exact Nat.le_refl _) (by exact Nat.le_refl _) dX9_next_11

set_option maxHeartbeats 4000000 in
set_option maxRecDepth 100000 in
/-- WellCourt.water -/
theorem s_water (l : Launch) (G : va_G) (cy : Nat → ClassId) (sK sV : Nat → Nat) (ad : Nat → Nat → Nat) (sz : Nat) (st : gS) (hB : gBd bX st) (x : Int32) (y : Int32) (Xx : Int) (Xy : Int) (kx : x.toInt = Xx) (ky : y.toInt = Xy) : gsMi l yX9_water cX9_water 3 (some .int) ({ frames := 2, cells := 0, slots := 0, locals := 42 } : Room) G cy sK sV (shX cy ad) cnX ad sz [.ref (ad 0 0), .int x, .int y] st (fun (r : Int32) (u : gS) => gBN bX kX [] st u ∧ (True)) := by
  refine gs_start (fun A => gsQi G (shX cy ad) cnX ad _ A) (by decide) (Nat.le_of_ble_eq_true rfl) ?_
  intro p e s m below meth c A ls H hx hb hr hml hlocks hown hts hK hov hE hI hM hm hS hA hl
  have hl : lv_has ls 3 [(0, .ref (ad 0 0)), (1, .int x), (2, .int y)] := hl
  have hB_st : gBN bX kX [] st st := gBN.rf hB
  refine lv_aload_n hx hb dX9_water_0 rfl (lv_at hl 0 rfl) ?_
  refine lv_iload_n hx hb dX9_water_1 rfl (lv_at hl 1 rfl) ?_
  refine gs_calli (va_runV (As := [.int x]) (rest := []) ⟨hx, hb, hml, hown, hts⟩ (s_isWellThere l G cy sK sV ad H.size st hB_st.1 x x.toInt rfl ) ⟨(gz_cb (n := 1) hts gm_587 gm_1 gm_590 ⟨by decide +kernel, by decide +kernel, by decide +kernel⟩ ⟨Nat.le_of_ble_eq_true rfl, Nat.le_of_ble_eq_true rfl⟩), hts _ gm_589, hts _ gs_17⟩ (gs_preV hK hov hE hI hM hm hS hA 0 0 (by decide) rfl rfl) rfl rfl hl.1 rfl (lv_room (Nat.le_of_ble_eq_true rfl)) dX9_water_2 ⟨Nat.le_of_ble_eq_true rfl, Nat.le_of_ble_eq_true rfl⟩) hm hS hA (fun r_1 st_1 H locs hw_1 hM hS => ?_)
  obtain ⟨n_1, hw_1⟩ := hw_1
  have n_1 := gBN.nil n_1
  subst n_1
  rcases hw_1 with ⟨rfl, hw_1_0, hw_1_1, hw_1_2⟩ | ⟨rfl, hw_1_0⟩
  · skip
    refine lv_if_ne (tgt := 10) hx hb dX9_water_5 (by decide) (fun _ => ?_) (fun h9 => absurd h9 (by decide))
    refine lv_iload_n hx hb dX9_water_10 rfl (lv_at hl 2 rfl) ?_
    rcases (show y.toInt < 0 ∨ 3 < y.toInt ∨ y.toInt = 0 ∨ y.toInt = 1 ∨ y.toInt = 2 ∨ y.toInt = 3 by omega) with h_2 | h_2 | h_2 | h_2 | h_2 | h_2
    · refine lv_tableOut (tgt := 80) hx hb dX9_water_11 (Or.inl h_2) (by decide) ?_
      refine lv_iconst (v := (-1)) hx hb dX9_water_80 (by decide) ?_
      exact gs_iret hx hb hr hlocks hM hS rfl ⟨hB_st, trivial⟩ (by exact Nat.le_refl _) (by exact Nat.le_refl _) dX9_water_81
    · refine lv_tableOut (tgt := 80) hx hb dX9_water_11 (Or.inr h_2) (by decide) ?_
      refine lv_iconst (v := (-1)) hx hb dX9_water_80 (by decide) ?_
      exact gs_iret hx hb hr hlocks hM hS rfl ⟨hB_st, trivial⟩ (by exact Nat.le_refl _) (by exact Nat.le_refl _) dX9_water_81
    · refine lv_tableIn (tgt := 40) hx hb dX9_water_11 (by omega) (by omega) (by rw [h_2]; rfl) (by decide) ?_
      refine lv_aload_n hx hb dX9_water_40 rfl (lv_at hl 0 rfl) ?_
      refine gs_get (C := RX9) (T := TX9) (N := 12) hx hb hts inX9 hown hK hM 0 0 4 (by decide) rfl rfl (by decide) (hts _ gm_295) (fun _ h9 => h9) rfl dX9_water_41 ?_
      refine gs_getN (host := "WellCourt") (C := RX1) (T := TX1) (N := 3) hx hb hts inX1 hown hK hM 12 15 0 (by decide) rfl rfl (by decide) (va_Nw.use rfl (hov.2.2 _ gn_121)) (fun _ h9 => h9) rfl dX9_water_44 ?_
      refine lv_iload_n hx hb dX9_water_47 rfl (lv_at hl 1 rfl) ?_
      refine gs_iald hx hb hK hM 13 15 (by decide) rfl (vp_in_iff.mpr ⟨by omega, by omega⟩) dX9_water_48 ?_
      refine lv_topi (fun x_3 ex_3 => ?_)
      have qx_3 : x_3.toInt = (st 13 15 (x.toNatClampNeg)).toInt := congrArg Int32.toInt ex_3
      exact gs_iret hx hb hr hlocks hM hS rfl ⟨hB_st, trivial⟩ (by exact Nat.le_refl _) (by exact Nat.le_refl _) dX9_water_49
    · refine lv_tableIn (tgt := 50) hx hb dX9_water_11 (by omega) (by omega) (by rw [h_2]; rfl) (by decide) ?_
      refine lv_aload_n hx hb dX9_water_50 rfl (lv_at hl 0 rfl) ?_
      refine gs_get (C := RX9) (T := TX9) (N := 12) hx hb hts inX9 hown hK hM 0 0 4 (by decide) rfl rfl (by decide) (hts _ gm_295) (fun _ h9 => h9) rfl dX9_water_51 ?_
      refine gs_getN (host := "WellCourt") (C := RX1) (T := TX1) (N := 3) hx hb hts inX1 hown hK hM 12 15 1 (by decide) rfl rfl (by decide) (va_Nw.use rfl (hov.2.2 _ gn_124)) (fun _ h9 => h9) rfl dX9_water_54 ?_
      refine lv_iload_n hx hb dX9_water_57 rfl (lv_at hl 1 rfl) ?_
      refine gs_iald hx hb hK hM 14 15 (by decide) rfl (vp_in_iff.mpr ⟨by omega, by omega⟩) dX9_water_58 ?_
      refine lv_topi (fun x_4 ex_4 => ?_)
      have qx_4 : x_4.toInt = (st 14 15 (x.toNatClampNeg)).toInt := congrArg Int32.toInt ex_4
      exact gs_iret hx hb hr hlocks hM hS rfl ⟨hB_st, trivial⟩ (by exact Nat.le_refl _) (by exact Nat.le_refl _) dX9_water_59
    · refine lv_tableIn (tgt := 60) hx hb dX9_water_11 (by omega) (by omega) (by rw [h_2]; rfl) (by decide) ?_
      refine lv_aload_n hx hb dX9_water_60 rfl (lv_at hl 0 rfl) ?_
      refine gs_get (C := RX9) (T := TX9) (N := 12) hx hb hts inX9 hown hK hM 0 0 2 (by decide) rfl rfl (by decide) (hts _ gm_293) (fun _ h9 => h9) rfl dX9_water_61 ?_
      refine gs_getN (host := "WellCourt") (C := RX3) (T := TX3) (N := 3) hx hb hts inX3 hown hK hM 4 0 0 (by decide) rfl rfl (by decide) (va_Nw.use rfl (hov.2.2 _ gn_84)) (fun _ h9 => h9) rfl dX9_water_64 ?_
      refine lv_iload_n hx hb dX9_water_67 rfl (lv_at hl 1 rfl) ?_
      refine gs_iald hx hb hK hM 5 0 (by decide) rfl (vp_in_iff.mpr ⟨by omega, by omega⟩) dX9_water_68 ?_
      refine lv_topi (fun x_5 ex_5 => ?_)
      have qx_5 : x_5.toInt = (st 5 0 (x.toNatClampNeg)).toInt := congrArg Int32.toInt ex_5
      exact gs_iret hx hb hr hlocks hM hS rfl ⟨hB_st, trivial⟩ (by exact Nat.le_refl _) (by exact Nat.le_refl _) dX9_water_69
    · refine lv_tableIn (tgt := 70) hx hb dX9_water_11 (by omega) (by omega) (by rw [h_2]; rfl) (by decide) ?_
      refine lv_aload_n hx hb dX9_water_70 rfl (lv_at hl 0 rfl) ?_
      refine gs_get (C := RX9) (T := TX9) (N := 12) hx hb hts inX9 hown hK hM 0 0 2 (by decide) rfl rfl (by decide) (hts _ gm_293) (fun _ h9 => h9) rfl dX9_water_71 ?_
      refine gs_getN (host := "WellCourt") (C := RX3) (T := TX3) (N := 3) hx hb hts inX3 hown hK hM 4 0 1 (by decide) rfl rfl (by decide) (va_Nw.use rfl (hov.2.2 _ gn_87)) (fun _ h9 => h9) rfl dX9_water_74 ?_
      refine lv_iload_n hx hb dX9_water_77 rfl (lv_at hl 1 rfl) ?_
      refine gs_iald hx hb hK hM 6 0 (by decide) rfl (vp_in_iff.mpr ⟨by omega, by omega⟩) dX9_water_78 ?_
      refine lv_topi (fun x_6 ex_6 => ?_)
      have qx_6 : x_6.toInt = (st 6 0 (x.toNatClampNeg)).toInt := congrArg Int32.toInt ex_6
      exact gs_iret hx hb hr hlocks hM hS rfl ⟨hB_st, trivial⟩ (by exact Nat.le_refl _) (by exact Nat.le_refl _) dX9_water_79
  · skip
    refine lv_if_ne (tgt := 10) hx hb dX9_water_5 (by decide) (fun h9 => absurd (by decide) h9) (fun _ => ?_)
    refine lv_iconst (v := (-1)) hx hb dX9_water_8 (by decide) ?_
    exact gs_iret hx hb hr hlocks hM hS rfl ⟨hB_st, trivial⟩ (by exact Nat.le_refl _) (by exact Nat.le_refl _) dX9_water_9

set_option maxHeartbeats 4000000 in
set_option maxRecDepth 100000 in
/-- WellCourt.owner -/
theorem s_owner (l : Launch) (G : va_G) (cy : Nat → ClassId) (sK sV : Nat → Nat) (ad : Nat → Nat → Nat) (sz : Nat) (st : gS) (hB : gBd bX st) (x : Int32) (y : Int32) (Xx : Int) (Xy : Int) (kx : x.toInt = Xx) (ky : y.toInt = Xy) : gsMi l yX9_owner cX9_owner 3 (some .int) ({ frames := 2, cells := 0, slots := 0, locals := 42 } : Room) G cy sK sV (shX cy ad) cnX ad sz [.ref (ad 0 0), .int x, .int y] st (fun (r : Int32) (u : gS) => gBN bX kX [] st u ∧ (True)) := by
  refine gs_start (fun A => gsQi G (shX cy ad) cnX ad _ A) (by decide) (Nat.le_of_ble_eq_true rfl) ?_
  intro p e s m below meth c A ls H hx hb hr hml hlocks hown hts hK hov hE hI hM hm hS hA hl
  have hl : lv_has ls 3 [(0, .ref (ad 0 0)), (1, .int x), (2, .int y)] := hl
  have hB_st : gBN bX kX [] st st := gBN.rf hB
  refine lv_aload_n hx hb dX9_owner_0 rfl (lv_at hl 0 rfl) ?_
  refine gs_get (C := RX9) (T := TX9) (N := 12) hx hb hts inX9 hown hK hM 0 0 3 (by decide) rfl rfl (by decide) (hts _ gm_294) (fun _ h9 => h9) rfl dX9_owner_1 ?_
  refine lv_iload_n hx hb dX9_owner_4 rfl (lv_at hl 1 rfl) ?_
  refine lv_iload_n hx hb dX9_owner_5 rfl (lv_at hl 2 rfl) ?_
  refine gs_calli (va_runV (As := [.int x, .int y]) (rest := []) ⟨hx, hb, hml, hown, hts⟩ (s_X0_ownerOn l G cy sK sV ad H.size st hB_st.1 x y x.toInt y.toInt rfl rfl ) ⟨(gz_cb (n := 2) hts gm_595 gm_5 gm_558 ⟨by decide +kernel, by decide +kernel, by decide +kernel⟩ ⟨Nat.le_of_ble_eq_true rfl, Nat.le_of_ble_eq_true rfl⟩), hts _ gm_556, hts _ gm_557⟩ (gs_preV hK hov hE hI hM hm hS hA 9 0 (by decide) rfl rfl) rfl rfl hl.1 rfl (lv_room (Nat.le_of_ble_eq_true rfl)) dX9_owner_6 ⟨Nat.le_of_ble_eq_true rfl, Nat.le_of_ble_eq_true rfl⟩) hm hS hA (fun r_1 st_1 H locs hw_1 hM hS => ?_)
  obtain ⟨n_1, hw_1⟩ := hw_1
  have n_1 := gBN.nil n_1
  subst n_1
  have hw_1_0 := hw_1
  exact gs_iret hx hb hr hlocks hM hS rfl ⟨hB_st, trivial⟩ (by exact Nat.le_refl _) (by exact Nat.le_refl _) dX9_owner_9

set_option maxHeartbeats 4000000 in
set_option maxRecDepth 100000 in
/-- WellCourt.may -/
theorem s_may (l : Launch) (G : va_G) (cy : Nat → ClassId) (sK sV : Nat → Nat) (ad : Nat → Nat → Nat) (sz : Nat) (st : gS) (hB : gBd bX st) (x : Int32) (y : Int32) (Xx : Int) (Xy : Int) (kx : x.toInt = Xx) (ky : y.toInt = Xy) : gsMi l yX9_may cX9_may 3 (some .int) ({ frames := 4, cells := 0, slots := 0, locals := 88 } : Room) G cy sK sV (shX cy ad) cnX ad sz [.ref (ad 0 0), .int x, .int y] st (fun (r : Int32) (u : gS) => gBN bX kX [] st u ∧ (True)) := by
  refine gs_start (fun A => gsQi G (shX cy ad) cnX ad _ A) (by decide) (Nat.le_of_ble_eq_true rfl) ?_
  intro p e s m below meth c A ls H hx hb hr hml hlocks hown hts hK hov hE hI hM hm hS hA hl
  have hl : lv_has ls 3 [(0, .ref (ad 0 0)), (1, .int x), (2, .int y)] := hl
  have hB_st : gBN bX kX [] st st := gBN.rf hB
  refine lv_aload_n hx hb dX9_may_0 rfl (lv_at hl 0 rfl) ?_
  refine lv_iload_n hx hb dX9_may_1 rfl (lv_at hl 1 rfl) ?_
  refine gs_calli (va_runV (As := [.int x]) (rest := []) ⟨hx, hb, hml, hown, hts⟩ (s_isWellThere l G cy sK sV ad H.size st hB_st.1 x x.toInt rfl ) ⟨(gz_cb (n := 1) hts gm_587 gm_1 gm_590 ⟨by decide +kernel, by decide +kernel, by decide +kernel⟩ ⟨Nat.le_of_ble_eq_true rfl, Nat.le_of_ble_eq_true rfl⟩), hts _ gm_589, hts _ gs_17⟩ (gs_preV hK hov hE hI hM hm hS hA 0 0 (by decide) rfl rfl) rfl rfl hl.1 rfl (lv_room (Nat.le_of_ble_eq_true rfl)) dX9_may_2 ⟨Nat.le_of_ble_eq_true rfl, Nat.le_of_ble_eq_true rfl⟩) hm hS hA (fun r_1 st_1 H locs hw_1 hM hS => ?_)
  obtain ⟨n_1, hw_1⟩ := hw_1
  have n_1 := gBN.nil n_1
  subst n_1
  rcases hw_1 with ⟨rfl, hw_1_0, hw_1_1, hw_1_2⟩ | ⟨rfl, hw_1_0⟩
  · skip
    refine lv_if_eq (tgt := 15) hx hb dX9_may_5 (by decide) (fun h9 => absurd h9 (by decide)) (fun _ => ?_)
    refine lv_iload_n hx hb dX9_may_8 rfl (lv_at hl 2 rfl) ?_
    refine gs_calli (va_runS (As := [.int y]) (rest := []) ⟨hx, hb, hml, hown, hts⟩ (s_isClan l G cy sK sV ad H.size st hB_st.1 y y.toInt rfl ) ⟨(gz_cb (n := 1) hts gm_600 gm_1 gm_487 ⟨by decide +kernel, by decide +kernel, by decide +kernel⟩ ⟨Nat.le_of_ble_eq_true rfl, Nat.le_of_ble_eq_true rfl⟩), hts _ gm_486⟩ (gs_preS hK hov hE hI hM hm hS hA) rfl rfl hl.1 rfl (lv_room (Nat.le_of_ble_eq_true rfl)) dX9_may_9 ⟨Nat.le_of_ble_eq_true rfl, Nat.le_of_ble_eq_true rfl⟩) hm hS hA (fun r_2 st_2 H locs hw_2 hM hS => ?_)
    obtain ⟨n_2, hw_2⟩ := hw_2
    have n_2 := gBN.nil n_2
    subst n_2
    rcases hw_2 with ⟨rfl, hw_2_0, hw_2_1⟩ | ⟨rfl, hw_2_0⟩
    · skip
      refine lv_if_ne (tgt := 17) hx hb dX9_may_12 (by decide) (fun _ => ?_) (fun h9 => absurd h9 (by decide))
      refine lv_aload_n hx hb dX9_may_17 rfl (lv_at hl 0 rfl) ?_
      refine lv_iload_n hx hb dX9_may_18 rfl (lv_at hl 1 rfl) ?_
      refine lv_iload_n hx hb dX9_may_19 rfl (lv_at hl 2 rfl) ?_
      refine gs_calli (va_runV (As := [.int x, .int y]) (rest := []) ⟨hx, hb, hml, hown, hts⟩ (s_standing l G cy sK sV ad H.size st hB_st.1 x y x.toInt y.toInt rfl rfl (by first | decide | omega) (by first | decide | omega)) ⟨(gz_cb (n := 2) hts gm_601 gm_1 gm_604 ⟨by decide +kernel, by decide +kernel, by decide +kernel⟩ ⟨Nat.le_of_ble_eq_true rfl, Nat.le_of_ble_eq_true rfl⟩), hts _ gm_603, hts _ gs_18⟩ (gs_preV hK hov hE hI hM hm hS hA 0 0 (by decide) rfl rfl) rfl rfl hl.1 rfl (lv_room (Nat.le_of_ble_eq_true rfl)) dX9_may_20 ⟨Nat.le_of_ble_eq_true rfl, Nat.le_of_ble_eq_true rfl⟩) hm hS hA (fun r_3 st_3 H locs hw_3 hM hS => ?_)
      obtain ⟨n_3, hw_3⟩ := hw_3
      have n_3 := gBN.nil n_3
      subst n_3
      obtain ⟨hw_3_0, hw_3_1⟩ := hw_3
      exact gs_iret hx hb hr hlocks hM hS rfl ⟨hB_st, trivial⟩ (by exact Nat.le_refl _) (by exact Nat.le_refl _) dX9_may_23
    · skip
      refine lv_if_ne (tgt := 17) hx hb dX9_may_12 (by decide) (fun h9 => absurd (by decide) h9) (fun _ => ?_)
      refine lv_iconst (v := (-1)) hx hb dX9_may_15 (by decide) ?_
      exact gs_iret hx hb hr hlocks hM hS rfl ⟨hB_st, trivial⟩ (by exact Nat.le_refl _) (by exact Nat.le_refl _) dX9_may_16
  · skip
    refine lv_if_eq (tgt := 15) hx hb dX9_may_5 (by decide) (fun _ => ?_) (fun h9 => absurd (by decide) h9)
    refine lv_iconst (v := (-1)) hx hb dX9_may_15 (by decide) ?_
    exact gs_iret hx hb hr hlocks hM hS rfl ⟨hB_st, trivial⟩ (by exact Nat.le_refl _) (by exact Nat.le_refl _) dX9_may_16

set_option maxHeartbeats 4000000 in
set_option maxRecDepth 100000 in
/-- WellCourt.lend -/
theorem s_lend (l : Launch) (G : va_G) (cy : Nat → ClassId) (sK sV : Nat → Nat) (ad : Nat → Nat → Nat) (sz : Nat) (st : gS) (hB : gBd bX st) (x : Int32) (y : Int32) (w : Int32) (Xx : Int) (Xy : Int) (Xw : Int) (kx : x.toInt = Xx) (ky : y.toInt = Xy) (kw : w.toInt = Xw) : gsMi l yX9_lend cX9_lend 4 (some .int) ({ frames := 3, cells := 0, slots := 0, locals := 67 } : Room) G cy sK sV (shX cy ad) cnX ad sz [.ref (ad 0 0), .int x, .int y, .int w] st (fun (r : Int32) (u : gS) => gBN bX kX [1100] st u ∧ (True)) := by
  refine gs_start (fun A => gsQi G (shX cy ad) cnX ad _ A) (by decide) (Nat.le_of_ble_eq_true rfl) ?_
  intro p e s m below meth c A ls H hx hb hr hml hlocks hown hts hK hov hE hI hM hm hS hA hl
  have hl : lv_has ls 4 [(0, .ref (ad 0 0)), (1, .int x), (2, .int y), (3, .int w)] := hl
  have hB_st : gBN bX kX [1100] st st := gBN.rf hB
  refine lv_iload_n hx hb dX9_lend_0 rfl (lv_at hl 3 rfl) ?_
  refine gs_calli (va_runS (As := [.int w]) (rest := []) ⟨hx, hb, hml, hown, hts⟩ (s_isClan l G cy sK sV ad H.size st hB_st.1 w w.toInt rfl ) ⟨(gz_cb (n := 1) hts gm_600 gm_1 gm_487 ⟨by decide +kernel, by decide +kernel, by decide +kernel⟩ ⟨Nat.le_of_ble_eq_true rfl, Nat.le_of_ble_eq_true rfl⟩), hts _ gm_486⟩ (gs_preS hK hov hE hI hM hm hS hA) rfl rfl hl.1 rfl (lv_room (Nat.le_of_ble_eq_true rfl)) dX9_lend_1 ⟨Nat.le_of_ble_eq_true rfl, Nat.le_of_ble_eq_true rfl⟩) hm hS hA (fun r_1 st_1 H locs hw_1 hM hS => ?_)
  obtain ⟨n_1, hw_1⟩ := hw_1
  have n_1 := gBN.nil n_1
  subst n_1
  rcases hw_1 with ⟨rfl, hw_1_0, hw_1_1⟩ | ⟨rfl, hw_1_0⟩
  · skip
    refine lv_if_eq (tgt := 15) hx hb dX9_lend_4 (by decide) (fun h9 => absurd h9 (by decide)) (fun _ => ?_)
    refine lv_iload_n hx hb dX9_lend_7 rfl (lv_at hl 2 rfl) ?_
    refine lv_aload_n hx hb dX9_lend_8 rfl (lv_at hl 0 rfl) ?_
    refine gs_get (C := RX9) (T := TX9) (N := 12) hx hb hts inX9 hown hK hM 0 0 10 (by decide) rfl rfl (by decide) (hts _ gm_301) (fun _ h9 => h9) rfl dX9_lend_9 ?_
    have bf_2 : (0 : Int) ≤ (st 0 0 10).toInt ∧ (st 0 0 10).toInt ≤ (199 : Int) := hB_st.1 0 0 10
    refine lv_icmp_gt (tgt := 17) hx hb dX9_lend_12 (by decide) (fun c_3 => ?_) (fun c_3 => ?_)
    · have ic_3 := gz_lt (rfl : (st 0 0 10).toInt = (st 0 0 10).toInt) (rfl : y.toInt = y.toInt) c_3
      have lc_3 := gi_hi y
      refine lv_aload_n hx hb dX9_lend_17 rfl (lv_at hl 0 rfl) ?_
      refine gs_get (C := RX9) (T := TX9) (N := 12) hx hb hts inX9 hown hK hM 0 0 3 (by decide) rfl rfl (by decide) (hts _ gm_294) (fun _ h9 => h9) rfl dX9_lend_18 ?_
      refine lv_iload_n hx hb dX9_lend_21 rfl (lv_at hl 1 rfl) ?_
      refine lv_iload_n hx hb dX9_lend_22 rfl (lv_at hl 2 rfl) ?_
      refine lv_iload_n hx hb dX9_lend_23 rfl (lv_at hl 3 rfl) ?_
      refine gs_calli (va_runV (As := [.int x, .int y, .int w]) (rest := []) ⟨hx, hb, hml, hown, hts⟩ (s_X0_exchange l G cy sK sV ad H.size st hB_st.1 x y w x.toInt y.toInt w.toInt rfl rfl rfl ) ⟨(gz_cb (n := 3) hts gm_630 gm_5 gm_633 ⟨by decide +kernel, by decide +kernel, by decide +kernel⟩ ⟨Nat.le_of_ble_eq_true rfl, Nat.le_of_ble_eq_true rfl⟩), hts _ gm_631, hts _ gm_632⟩ (gs_preV hK hov hE hI hM hm hS hA 9 0 (by decide) rfl rfl) rfl rfl hl.1 rfl (lv_room (Nat.le_of_ble_eq_true rfl)) dX9_lend_24 ⟨Nat.le_of_ble_eq_true rfl, Nat.le_of_ble_eq_true rfl⟩) hm hS hA (fun r_4 st_4 H locs hw_4 hM hS => ?_)
      obtain ⟨n_4, hw_4⟩ := hw_4
      have hB_st_4 : gBN bX kX [1100] st st_4 := hB_st.call n_4 (by decide)
      exact gs_iret hx hb hr hlocks hM hS rfl ⟨hB_st_4, trivial⟩ (by exact Nat.le_refl _) (by exact Nat.le_refl _) dX9_lend_27
    · have ic_3 := gz_nlt (rfl : (st 0 0 10).toInt = (st 0 0 10).toInt) (rfl : y.toInt = y.toInt) c_3
      refine lv_iconst (v := (-1)) hx hb dX9_lend_15 (by decide) ?_
      exact gs_iret hx hb hr hlocks hM hS rfl ⟨hB_st, trivial⟩ (by exact Nat.le_refl _) (by exact Nat.le_refl _) dX9_lend_16
  · skip
    refine lv_if_eq (tgt := 15) hx hb dX9_lend_4 (by decide) (fun _ => ?_) (fun h9 => absurd (by decide) h9)
    refine lv_iconst (v := (-1)) hx hb dX9_lend_15 (by decide) ?_
    exact gs_iret hx hb hr hlocks hM hS rfl ⟨hB_st, trivial⟩ (by exact Nat.le_refl _) (by exact Nat.le_refl _) dX9_lend_16

set_option maxHeartbeats 4000000 in
set_option maxRecDepth 100000 in
/-- WellCourt.draw -/
theorem s_draw (l : Launch) (G : va_G) (cy : Nat → ClassId) (sK sV : Nat → Nat) (ad : Nat → Nat → Nat) (sz : Nat) (st : gS) (hB : gBd bX st) (x : Int32) (y : Int32) (w : Int32) (Xx : Int) (Xy : Int) (Xw : Int) (kx : x.toInt = Xx) (ky : y.toInt = Xy) (kw : w.toInt = Xw) : gsMi l yX9_draw cX9_draw 6 (some .int) ({ frames := 4, cells := 0, slots := 0, locals := 88 } : Room) G cy sK sV (shX cy ad) cnX ad sz [.ref (ad 0 0), .int x, .int y, .int w] st (fun (r : Int32) (u : gS) => gBN bX kX [1300, 1601, 1800] st u ∧ (True)) := by
  refine gs_start (fun A => gsQi G (shX cy ad) cnX ad _ A) (by decide) (Nat.le_of_ble_eq_true rfl) ?_
  intro p e s m below meth c A ls H hx hb hr hml hlocks hown hts hK hov hE hI hM hm hS hA hl
  have hl : lv_has ls 6 [(0, .ref (ad 0 0)), (1, .int x), (2, .int y), (3, .int w)] := hl
  have hB_st : gBN bX kX [1300, 1601, 1800] st st := gBN.rf hB
  refine lv_aload_n hx hb dX9_draw_0 rfl (lv_at hl 0 rfl) ?_
  refine lv_iload_n hx hb dX9_draw_1 rfl (lv_at hl 1 rfl) ?_
  refine lv_iload_n hx hb dX9_draw_2 rfl (lv_at hl 2 rfl) ?_
  refine lv_iload_n hx hb dX9_draw_3 rfl (lv_at hl 3 rfl) ?_
  refine gs_calli (va_runV (As := [.int x, .int y, .int w]) (rest := []) ⟨hx, hb, hml, hown, hts⟩ (s_canBeDrawn l G cy sK sV ad H.size st hB_st.1 x y w x.toInt y.toInt w.toInt rfl rfl rfl ) ⟨(gz_cb (n := 3) hts gm_639 gm_1 gm_642 ⟨by decide +kernel, by decide +kernel, by decide +kernel⟩ ⟨Nat.le_of_ble_eq_true rfl, Nat.le_of_ble_eq_true rfl⟩), hts _ gm_641, hts _ gs_19⟩ (gs_preV hK hov hE hI hM hm hS hA 0 0 (by decide) rfl rfl) rfl rfl hl.1 rfl (lv_room (Nat.le_of_ble_eq_true rfl)) dX9_draw_4 ⟨Nat.le_of_ble_eq_true rfl, Nat.le_of_ble_eq_true rfl⟩) hm hS hA (fun r_1 st_1 H locs hw_1 hM hS => ?_)
  obtain ⟨n_1, hw_1⟩ := hw_1
  have n_1 := gBN.nil n_1
  subst n_1
  have hbhw_10 : (0 : Int) ≤ (st 16 0 1).toInt ∧ (st 16 0 1).toInt ≤ (300 : Int) := hB_st.1 16 0 1
  rcases hw_1 with ⟨rfl, hw_1_0, hw_1_1, hw_1_2, hw_1_3, hw_1_4, hw_1_5, hw_1_6⟩ | rfl
  · skip
    refine lv_if_ne (tgt := 12) hx hb dX9_draw_7 (by decide) (fun _ => ?_) (fun h9 => absurd h9 (by decide))
    refine lv_aload_n hx hb dX9_draw_12 rfl (lv_at hl 0 rfl) ?_
    refine lv_iload_n hx hb dX9_draw_13 rfl (lv_at hl 1 rfl) ?_
    refine lv_iload_n hx hb dX9_draw_14 rfl (lv_at hl 2 rfl) ?_
    refine gs_calli (va_runV (As := [.int x, .int y]) (rest := []) ⟨hx, hb, hml, hown, hts⟩ (s_standing l G cy sK sV ad H.size st hB_st.1 x y x.toInt y.toInt rfl rfl (by first | decide | omega) (by first | decide | omega)) ⟨(gz_cb (n := 2) hts gm_601 gm_1 gm_604 ⟨by decide +kernel, by decide +kernel, by decide +kernel⟩ ⟨Nat.le_of_ble_eq_true rfl, Nat.le_of_ble_eq_true rfl⟩), hts _ gm_603, hts _ gs_18⟩ (gs_preV hK hov hE hI hM hm hS hA 0 0 (by decide) rfl rfl) rfl rfl hl.1 rfl (lv_room (Nat.le_of_ble_eq_true rfl)) dX9_draw_15 ⟨Nat.le_of_ble_eq_true rfl, Nat.le_of_ble_eq_true rfl⟩) hm hS hA (fun r_2 st_2 H locs hw_2 hM hS => ?_)
    obtain ⟨n_2, hw_2⟩ := hw_2
    have n_2 := gBN.nil n_2
    subst n_2
    obtain ⟨hw_2_0, hw_2_1⟩ := hw_2
    refine lv_istore (lv' := [(4, .int r_2), (0, .ref (ad 0 0)), (1, .int x), (2, .int y), (3, .int w)]) hx hb dX9_draw_18 hl (by decide) rfl (fun ls hl => ?_)
    refine lv_iload hx hb dX9_draw_20 (lv_at hl 0 rfl) ?_
    refine lv_if_ne (tgt := 27) hx hb dX9_draw_22 (by decide) (fun c_3 => ?_) (fun c_3 => ?_)
    · have ic_3 := gz_ne (rfl : r_2.toInt = r_2.toInt) (by decide : (0 : Int32).toInt = 0) c_3
      refine lv_iload hx hb dX9_draw_27 (lv_at hl 0 rfl) ?_
      refine lv_iconst (v := 2) hx hb dX9_draw_29 (by decide) ?_
      refine lv_icmp_ne (tgt := 70) hx hb dX9_draw_30 (by decide) (fun c_4 => ?_) (fun c_4 => ?_)
      · have ic_4 := gz_ne (rfl : r_2.toInt = r_2.toInt) (by decide : (2 : Int32).toInt = 2) c_4
        refine lv_iload_n hx hb dX9_draw_70 rfl (lv_at hl 4 rfl) ?_
        refine lv_aload_n hx hb dX9_draw_71 rfl (lv_at hl 1 rfl) ?_
        refine gs_get (C := RX9) (T := TX9) (N := 12) hx hb hts inX9 hown hK hM 0 0 4 (by decide) rfl rfl (by decide) (hts _ gm_295) (fun _ h9 => h9) rfl dX9_draw_72 ?_
        refine gs_getN (host := "WellCourt") (C := RX1) (T := TX1) (N := 3) hx hb hts inX1 hown hK hM 12 15 0 (by decide) rfl rfl (by decide) (va_Nw.use rfl (hov.2.2 _ gn_121)) (fun _ h9 => h9) rfl dX9_draw_75 ?_
        refine lv_iload_n hx hb dX9_draw_78 rfl (lv_at hl 2 rfl) ?_
        refine gs_iald hx hb hK hM 13 15 (by decide) rfl (vp_in_iff.mpr ⟨by omega, by omega⟩) dX9_draw_79 ?_
        refine lv_topi (fun x_5 ex_5 => ?_)
        have qx_5 : x_5.toInt = (st 13 15 (x.toNatClampNeg)).toInt := congrArg Int32.toInt ex_5
        refine lv_icmp_le (tgt := 85) hx hb dX9_draw_80 (by decide) (fun c_6 => ?_) (fun c_6 => ?_)
        · have ic_6 := gz_le (rfl : w.toInt = w.toInt) (rfl : x_5.toInt = x_5.toInt) c_6
          refine lv_aload_n hx hb dX9_draw_85 rfl (lv_at hl 1 rfl) ?_
          refine gs_get (C := RX9) (T := TX9) (N := 12) hx hb hts inX9 hown hK hM 0 0 4 (by decide) rfl rfl (by decide) (hts _ gm_295) (fun _ h9 => h9) rfl dX9_draw_86 ?_
          refine gs_getN (host := "WellCourt") (C := RX1) (T := TX1) (N := 3) hx hb hts inX1 hown hK hM 12 15 0 (by decide) rfl rfl (by decide) (va_Nw.use rfl (hov.2.2 _ gn_121)) (fun _ h9 => h9) rfl dX9_draw_89 ?_
          refine lv_iload_n hx hb dX9_draw_92 rfl (lv_at hl 2 rfl) ?_
          refine lv_dup2_11 hx hb dX9_draw_93 rfl rfl ?_
          refine gs_iald hx hb hK hM 13 15 (by decide) rfl (vp_in_iff.mpr ⟨by omega, by omega⟩) dX9_draw_94 ?_
          refine lv_topi (fun x_7 ex_7 => ?_)
          have qx_7 : x_7.toInt = (st 13 15 (x.toNatClampNeg)).toInt := congrArg Int32.toInt ex_7
          refine lv_iload_n hx hb dX9_draw_95 rfl (lv_at hl 4 rfl) ?_
          refine lv_isub hx hb dX9_draw_96 ?_
          refine lv_topi (fun x_8 ex_8 => ?_)
          refine gs_iast hx hb hK hI hm hM hS 13 15 (by decide) (fun _ => rfl) (vp_in_iff.mpr ⟨by omega, by omega⟩) dX9_draw_97 (fun st_9 H locs est_9 hM hS => ?_)
          have hB_st_9 : gBN bX kX [1300, 1601, 1800] st st_9 := by rw [est_9]; exact hB_st.up (show (1300 : Nat) ∈ _ from by decide) (gi_lo _) (gi_hi _)
          refine lv_aload_n hx hb dX9_draw_98 rfl (lv_at hl 1 rfl) ?_
          refine gs_get (C := RX9) (T := TX9) (N := 12) hx hb hts inX9 hown hK hM 0 0 5 (by decide) rfl rfl (by decide) (hts _ gm_296) (fun _ h9 => h9) rfl dX9_draw_99 ?_
          refine lv_aload_n hx hb dX9_draw_102 rfl (lv_at hl 1 rfl) ?_
          refine gs_get (C := RX9) (T := TX9) (N := 12) hx hb hts inX9 hown hK hM 0 0 10 (by decide) rfl rfl (by decide) (hts _ gm_301) (fun _ h9 => h9) rfl dX9_draw_103 ?_
          refine lv_topi (fun x_10 ex_10 => ?_)
          have ex_10 : (st 0 0 10) = x_10 := Eq.symm (ex_10.trans ((congrFun (congrFun (congrFun est_9 0) 0) 10).trans (congrFun (congrFun (gU_k (by decide)) 0) 10)))
          subst ex_10
          have bf_11 : (0 : Int) ≤ (st 0 0 10).toInt ∧ (st 0 0 10).toInt ≤ (199 : Int) := hB_st.1 0 0 10
          refine lv_iload_n hx hb dX9_draw_106 rfl (lv_at hl 2 rfl) ?_
          refine lv_iload_n hx hb dX9_draw_107 rfl (lv_at hl 3 rfl) ?_
          refine lv_iload_n hx hb dX9_draw_108 rfl (lv_at hl 4 rfl) ?_
          refine lv_iconst (v := 1) hx hb dX9_draw_109 (by decide) ?_
          refine gs_callv (va_runV (As := [.int (st 0 0 10), .int x, .int y, .int w, .int 1]) (rest := []) ⟨hx, hb, hml, hown, hts⟩ (s_X5_enter l G cy sK sV ad H.size st_9 hB_st_9.1 (st 0 0 10) x y w (1 : Int32) ) ⟨(gz_cb (n := 5) hts gm_651 gm_8 gm_654 ⟨by decide +kernel, by decide +kernel, by decide +kernel⟩ ⟨Nat.le_of_ble_eq_true rfl, Nat.le_of_ble_eq_true rfl⟩), hts _ gm_652, hts _ gm_653⟩ (gs_preV hK hov hE hI hM hm hS hA 16 0 (by decide) rfl rfl) rfl rfl hl.1 rfl (lv_room (Nat.le_of_ble_eq_true rfl)) dX9_draw_110 ⟨Nat.le_of_ble_eq_true rfl, Nat.le_of_ble_eq_true rfl⟩) hm hS hA (fun st_12 H locs hw_12 hM hS => ?_)
          obtain ⟨n_12, hw_12⟩ := hw_12
          have hB_st_12 : gBN bX kX [1300, 1601, 1800] st st_12 := hB_st_9.call n_12 (by decide)
          refine lv_iconst (v := 0) hx hb dX9_draw_113 (by decide) ?_
          exact gs_iret hx hb hr hlocks hM hS rfl ⟨hB_st_12, trivial⟩ (by exact Nat.le_refl _) (by exact Nat.le_refl _) dX9_draw_114
        · have ic_6 := gz_nle (rfl : w.toInt = w.toInt) (rfl : x_5.toInt = x_5.toInt) c_6
          have lc_6 := gi_hi w
          refine lv_iconst (v := 4) hx hb dX9_draw_83 (by decide) ?_
          exact gs_iret hx hb hr hlocks hM hS rfl ⟨hB_st, trivial⟩ (by exact Nat.le_refl _) (by exact Nat.le_refl _) dX9_draw_84
      · have ic_4 := gz_eqn (rfl : r_2.toInt = r_2.toInt) (by decide : (2 : Int32).toInt = 2) c_4
        refine lv_aload_n hx hb dX9_draw_33 rfl (lv_at hl 1 rfl) ?_
        refine gs_get (C := RX9) (T := TX9) (N := 12) hx hb hts inX9 hown hK hM 0 0 5 (by decide) rfl rfl (by decide) (hts _ gm_296) (fun _ h9 => h9) rfl dX9_draw_34 ?_
        refine lv_aload_n hx hb dX9_draw_37 rfl (lv_at hl 1 rfl) ?_
        refine gs_get (C := RX9) (T := TX9) (N := 12) hx hb hts inX9 hown hK hM 0 0 10 (by decide) rfl rfl (by decide) (hts _ gm_301) (fun _ h9 => h9) rfl dX9_draw_38 ?_
        have bf_13 : (0 : Int) ≤ (st 0 0 10).toInt ∧ (st 0 0 10).toInt ≤ (199 : Int) := hB_st.1 0 0 10
        refine lv_iload_n hx hb dX9_draw_41 rfl (lv_at hl 2 rfl) ?_
        refine lv_iload_n hx hb dX9_draw_42 rfl (lv_at hl 3 rfl) ?_
        refine gs_calli (va_runV (As := [.int (st 0 0 10), .int x, .int y]) (rest := []) ⟨hx, hb, hml, hown, hts⟩ (s_X5_rightfulOn l G cy sK sV ad H.size st hB_st.1 (st 0 0 10) x y ((st 0 0 10).toInt) x.toInt y.toInt rfl rfl rfl ) ⟨(gz_cb (n := 3) hts gm_643 gm_8 gm_646 ⟨by decide +kernel, by decide +kernel, by decide +kernel⟩ ⟨Nat.le_of_ble_eq_true rfl, Nat.le_of_ble_eq_true rfl⟩), hts _ gm_644, hts _ gm_645⟩ (gs_preV hK hov hE hI hM hm hS hA 16 0 (by decide) rfl rfl) rfl rfl hl.1 rfl (lv_room (Nat.le_of_ble_eq_true rfl)) dX9_draw_43 ⟨Nat.le_of_ble_eq_true rfl, Nat.le_of_ble_eq_true rfl⟩) hm hS hA (fun r_14 st_14 H locs hw_14 hM hS => ?_)
        obtain ⟨n_14, hw_14⟩ := hw_14
        have n_14 := gBN.nil n_14
        subst n_14
        refine lv_istore (lv' := [(5, .int r_14), (4, .int r_2), (0, .ref (ad 0 0)), (1, .int x), (2, .int y), (3, .int w)]) hx hb dX9_draw_46 hl (by decide) rfl (fun ls hl => ?_)
        refine lv_iload hx hb dX9_draw_48 (lv_at hl 0 rfl) ?_
        refine lv_iload_n hx hb dX9_draw_50 rfl (lv_at hl 5 rfl) ?_
        refine lv_iadd hx hb dX9_draw_51 ?_
        refine lv_topi (fun x_15 ex_15 => ?_)
        refine lv_aload_n hx hb dX9_draw_52 rfl (lv_at hl 2 rfl) ?_
        refine gs_get (C := RX9) (T := TX9) (N := 12) hx hb hts inX9 hown hK hM 0 0 4 (by decide) rfl rfl (by decide) (hts _ gm_295) (fun _ h9 => h9) rfl dX9_draw_53 ?_
        refine lv_aload_n hx hb dX9_draw_56 rfl (lv_at hl 2 rfl) ?_
        refine gs_get (C := RX9) (T := TX9) (N := 12) hx hb hts inX9 hown hK hM 0 0 7 (by decide) rfl rfl (by decide) (hts _ gm_298) (fun _ h9 => h9) rfl dX9_draw_57 ?_
        have h_16 : (0 : Int) ≤ (st 0 0 7).toInt ∧ (st 0 0 7).toInt ≤ (1 : Int) := hB_st.1 0 0 7
        refine lv_iload_n hx hb dX9_draw_60 rfl (lv_at hl 3 rfl) ?_
        refine lv_iload_n hx hb dX9_draw_61 rfl (lv_at hl 4 rfl) ?_
        refine gs_calli (va_runV (As := [.ref (ad 25 ((st 0 0 7).toNatClampNeg)), .int x, .int y]) (rest := [.int x_15]) ⟨hx, hb, hml, hown, hts⟩ (s_X1_guestMany l G cy sK sV ad H.size st hB_st.1 15 (st 0 0 7) x y x.toInt y.toInt rfl rfl (by decide) h_16 (by first | decide | omega) (by first | decide | omega)) ⟨(gz_cb (n := 3) hts gm_618 gm_7 gm_621 ⟨by decide +kernel, by decide +kernel, by decide +kernel⟩ ⟨Nat.le_of_ble_eq_true rfl, Nat.le_of_ble_eq_true rfl⟩), hts _ gm_619, hts _ gm_620⟩ (gs_preV hK hov hE hI hM hm hS hA 12 15 (by decide) rfl rfl) rfl rfl hl.1 rfl (lv_room (Nat.le_of_ble_eq_true rfl)) dX9_draw_62 ⟨Nat.le_of_ble_eq_true rfl, Nat.le_of_ble_eq_true rfl⟩) hm hS hA (fun r_17 st_17 H locs hw_17 hM hS => ?_)
        obtain ⟨n_17, hw_17⟩ := hw_17
        have n_17 := gBN.nil n_17
        subst n_17
        refine lv_icmp_le (tgt := 70) hx hb dX9_draw_65 (by decide) (fun c_18 => ?_) (fun c_18 => ?_)
        · have ic_18 := gz_le (rfl : x_15.toInt = x_15.toInt) (rfl : r_17.toInt = r_17.toInt) c_18
          refine lv_iload_n hx hb dX9_draw_70 rfl (lv_at hl 5 rfl) ?_
          refine lv_aload_n hx hb dX9_draw_71 rfl (lv_at hl 2 rfl) ?_
          refine gs_get (C := RX9) (T := TX9) (N := 12) hx hb hts inX9 hown hK hM 0 0 4 (by decide) rfl rfl (by decide) (hts _ gm_295) (fun _ h9 => h9) rfl dX9_draw_72 ?_
          refine gs_getN (host := "WellCourt") (C := RX1) (T := TX1) (N := 3) hx hb hts inX1 hown hK hM 12 15 0 (by decide) rfl rfl (by decide) (va_Nw.use rfl (hov.2.2 _ gn_121)) (fun _ h9 => h9) rfl dX9_draw_75 ?_
          refine lv_iload_n hx hb dX9_draw_78 rfl (lv_at hl 3 rfl) ?_
          refine gs_iald hx hb hK hM 13 15 (by decide) rfl (vp_in_iff.mpr ⟨by omega, by omega⟩) dX9_draw_79 ?_
          refine lv_topi (fun x_19 ex_19 => ?_)
          have qx_19 : x_19.toInt = (st 13 15 (x.toNatClampNeg)).toInt := congrArg Int32.toInt ex_19
          refine lv_icmp_le (tgt := 85) hx hb dX9_draw_80 (by decide) (fun c_20 => ?_) (fun c_20 => ?_)
          · have ic_20 := gz_le (rfl : w.toInt = w.toInt) (rfl : x_19.toInt = x_19.toInt) c_20
            refine lv_aload_n hx hb dX9_draw_85 rfl (lv_at hl 2 rfl) ?_
            refine gs_get (C := RX9) (T := TX9) (N := 12) hx hb hts inX9 hown hK hM 0 0 4 (by decide) rfl rfl (by decide) (hts _ gm_295) (fun _ h9 => h9) rfl dX9_draw_86 ?_
            refine gs_getN (host := "WellCourt") (C := RX1) (T := TX1) (N := 3) hx hb hts inX1 hown hK hM 12 15 0 (by decide) rfl rfl (by decide) (va_Nw.use rfl (hov.2.2 _ gn_121)) (fun _ h9 => h9) rfl dX9_draw_89 ?_
            refine lv_iload_n hx hb dX9_draw_92 rfl (lv_at hl 3 rfl) ?_
            refine lv_dup2_11 hx hb dX9_draw_93 rfl rfl ?_
            refine gs_iald hx hb hK hM 13 15 (by decide) rfl (vp_in_iff.mpr ⟨by omega, by omega⟩) dX9_draw_94 ?_
            refine lv_topi (fun x_21 ex_21 => ?_)
            have qx_21 : x_21.toInt = (st 13 15 (x.toNatClampNeg)).toInt := congrArg Int32.toInt ex_21
            refine lv_iload_n hx hb dX9_draw_95 rfl (lv_at hl 5 rfl) ?_
            refine lv_isub hx hb dX9_draw_96 ?_
            refine lv_topi (fun x_22 ex_22 => ?_)
            refine gs_iast hx hb hK hI hm hM hS 13 15 (by decide) (fun _ => rfl) (vp_in_iff.mpr ⟨by omega, by omega⟩) dX9_draw_97 (fun st_23 H locs est_23 hM hS => ?_)
            have hB_st_23 : gBN bX kX [1300, 1601, 1800] st st_23 := by rw [est_23]; exact hB_st.up (show (1300 : Nat) ∈ _ from by decide) (gi_lo _) (gi_hi _)
            refine lv_aload_n hx hb dX9_draw_98 rfl (lv_at hl 2 rfl) ?_
            refine gs_get (C := RX9) (T := TX9) (N := 12) hx hb hts inX9 hown hK hM 0 0 5 (by decide) rfl rfl (by decide) (hts _ gm_296) (fun _ h9 => h9) rfl dX9_draw_99 ?_
            refine lv_aload_n hx hb dX9_draw_102 rfl (lv_at hl 2 rfl) ?_
            refine gs_get (C := RX9) (T := TX9) (N := 12) hx hb hts inX9 hown hK hM 0 0 10 (by decide) rfl rfl (by decide) (hts _ gm_301) (fun _ h9 => h9) rfl dX9_draw_103 ?_
            refine lv_topi (fun x_24 ex_24 => ?_)
            have ex_24 : (st 0 0 10) = x_24 := Eq.symm (ex_24.trans ((congrFun (congrFun (congrFun est_23 0) 0) 10).trans (congrFun (congrFun (gU_k (by decide)) 0) 10)))
            subst ex_24
            have bf_25 : (0 : Int) ≤ (st 0 0 10).toInt ∧ (st 0 0 10).toInt ≤ (199 : Int) := hB_st.1 0 0 10
            refine lv_iload_n hx hb dX9_draw_106 rfl (lv_at hl 3 rfl) ?_
            refine lv_iload_n hx hb dX9_draw_107 rfl (lv_at hl 4 rfl) ?_
            refine lv_iload_n hx hb dX9_draw_108 rfl (lv_at hl 5 rfl) ?_
            refine lv_iconst (v := 1) hx hb dX9_draw_109 (by decide) ?_
            refine gs_callv (va_runV (As := [.int (st 0 0 10), .int x, .int y, .int w, .int 1]) (rest := []) ⟨hx, hb, hml, hown, hts⟩ (s_X5_enter l G cy sK sV ad H.size st_23 hB_st_23.1 (st 0 0 10) x y w (1 : Int32) ) ⟨(gz_cb (n := 5) hts gm_651 gm_8 gm_654 ⟨by decide +kernel, by decide +kernel, by decide +kernel⟩ ⟨Nat.le_of_ble_eq_true rfl, Nat.le_of_ble_eq_true rfl⟩), hts _ gm_652, hts _ gm_653⟩ (gs_preV hK hov hE hI hM hm hS hA 16 0 (by decide) rfl rfl) rfl rfl hl.1 rfl (lv_room (Nat.le_of_ble_eq_true rfl)) dX9_draw_110 ⟨Nat.le_of_ble_eq_true rfl, Nat.le_of_ble_eq_true rfl⟩) hm hS hA (fun st_26 H locs hw_26 hM hS => ?_)
            obtain ⟨n_26, hw_26⟩ := hw_26
            have hB_st_26 : gBN bX kX [1300, 1601, 1800] st st_26 := hB_st_23.call n_26 (by decide)
            refine lv_iconst (v := 0) hx hb dX9_draw_113 (by decide) ?_
            exact gs_iret hx hb hr hlocks hM hS rfl ⟨hB_st_26, trivial⟩ (by exact Nat.le_refl _) (by exact Nat.le_refl _) dX9_draw_114
          · have ic_20 := gz_nle (rfl : w.toInt = w.toInt) (rfl : x_19.toInt = x_19.toInt) c_20
            have lc_20 := gi_hi w
            refine lv_iconst (v := 4) hx hb dX9_draw_83 (by decide) ?_
            exact gs_iret hx hb hr hlocks hM hS rfl ⟨hB_st, trivial⟩ (by exact Nat.le_refl _) (by exact Nat.le_refl _) dX9_draw_84
        · have ic_18 := gz_nle (rfl : x_15.toInt = x_15.toInt) (rfl : r_17.toInt = r_17.toInt) c_18
          have lc_18 := gi_hi x_15
          refine lv_iconst (v := 3) hx hb dX9_draw_68 (by decide) ?_
          exact gs_iret hx hb hr hlocks hM hS rfl ⟨hB_st, trivial⟩ (by exact Nat.le_refl _) (by exact Nat.le_refl _) dX9_draw_69
    · have ic_3 := gz_eqn (rfl : r_2.toInt = r_2.toInt) (by decide : (0 : Int32).toInt = 0) c_3
      refine lv_iconst (v := 2) hx hb dX9_draw_25 (by decide) ?_
      exact gs_iret hx hb hr hlocks hM hS rfl ⟨hB_st, trivial⟩ (by exact Nat.le_refl _) (by exact Nat.le_refl _) dX9_draw_26
  · skip
    refine lv_if_ne (tgt := 12) hx hb dX9_draw_7 (by decide) (fun h9 => absurd (by decide) h9) (fun _ => ?_)
    refine lv_iconst (v := 1) hx hb dX9_draw_10 (by decide) ?_
    exact gs_iret hx hb hr hlocks hM hS rfl ⟨hB_st, trivial⟩ (by exact Nat.le_refl _) (by exact Nat.le_refl _) dX9_draw_11

set_option maxHeartbeats 4000000 in
set_option maxRecDepth 100000 in
/-- WellCourt.take -/
theorem s_take (l : Launch) (G : va_G) (cy : Nat → ClassId) (sK sV : Nat → Nat) (ad : Nat → Nat → Nat) (sz : Nat) (st : gS) (hB : gBd bX st) (x : Int32) (y : Int32) (w : Int32) (Xx : Int) (Xy : Int) (Xw : Int) (kx : x.toInt = Xx) (ky : y.toInt = Xy) (kw : w.toInt = Xw) : gsMi l yX9_take cX9_take 4 (some .int) ({ frames := 4, cells := 0, slots := 0, locals := 88 } : Room) G cy sK sV (shX cy ad) cnX ad sz [.ref (ad 0 0), .int x, .int y, .int w] st (fun (r : Int32) (u : gS) => gBN bX kX [1300, 1601, 1800] st u ∧ (True)) := by
  refine gs_start (fun A => gsQi G (shX cy ad) cnX ad _ A) (by decide) (Nat.le_of_ble_eq_true rfl) ?_
  intro p e s m below meth c A ls H hx hb hr hml hlocks hown hts hK hov hE hI hM hm hS hA hl
  have hl : lv_has ls 4 [(0, .ref (ad 0 0)), (1, .int x), (2, .int y), (3, .int w)] := hl
  have hB_st : gBN bX kX [1300, 1601, 1800] st st := gBN.rf hB
  refine lv_aload_n hx hb dX9_take_0 rfl (lv_at hl 0 rfl) ?_
  refine lv_iload_n hx hb dX9_take_1 rfl (lv_at hl 1 rfl) ?_
  refine lv_iload_n hx hb dX9_take_2 rfl (lv_at hl 2 rfl) ?_
  refine lv_iload_n hx hb dX9_take_3 rfl (lv_at hl 3 rfl) ?_
  refine gs_calli (va_runV (As := [.int x, .int y, .int w]) (rest := []) ⟨hx, hb, hml, hown, hts⟩ (s_canBeDrawn l G cy sK sV ad H.size st hB_st.1 x y w x.toInt y.toInt w.toInt rfl rfl rfl ) ⟨(gz_cb (n := 3) hts gm_639 gm_1 gm_642 ⟨by decide +kernel, by decide +kernel, by decide +kernel⟩ ⟨Nat.le_of_ble_eq_true rfl, Nat.le_of_ble_eq_true rfl⟩), hts _ gm_641, hts _ gs_19⟩ (gs_preV hK hov hE hI hM hm hS hA 0 0 (by decide) rfl rfl) rfl rfl hl.1 rfl (lv_room (Nat.le_of_ble_eq_true rfl)) dX9_take_4 ⟨Nat.le_of_ble_eq_true rfl, Nat.le_of_ble_eq_true rfl⟩) hm hS hA (fun r_1 st_1 H locs hw_1 hM hS => ?_)
  obtain ⟨n_1, hw_1⟩ := hw_1
  have n_1 := gBN.nil n_1
  subst n_1
  have hbhw_10 : (0 : Int) ≤ (st 16 0 1).toInt ∧ (st 16 0 1).toInt ≤ (300 : Int) := hB_st.1 16 0 1
  rcases hw_1 with ⟨rfl, hw_1_0, hw_1_1, hw_1_2, hw_1_3, hw_1_4, hw_1_5, hw_1_6⟩ | rfl
  · skip
    refine lv_if_ne (tgt := 12) hx hb dX9_take_7 (by decide) (fun _ => ?_) (fun h9 => absurd h9 (by decide))
    refine lv_aload_n hx hb dX9_take_12 rfl (lv_at hl 0 rfl) ?_
    refine lv_iload_n hx hb dX9_take_13 rfl (lv_at hl 1 rfl) ?_
    refine lv_iload_n hx hb dX9_take_14 rfl (lv_at hl 2 rfl) ?_
    refine gs_calli (va_runV (As := [.int x, .int y]) (rest := []) ⟨hx, hb, hml, hown, hts⟩ (s_standing l G cy sK sV ad H.size st hB_st.1 x y x.toInt y.toInt rfl rfl (by first | decide | omega) (by first | decide | omega)) ⟨(gz_cb (n := 2) hts gm_601 gm_1 gm_604 ⟨by decide +kernel, by decide +kernel, by decide +kernel⟩ ⟨Nat.le_of_ble_eq_true rfl, Nat.le_of_ble_eq_true rfl⟩), hts _ gm_603, hts _ gs_18⟩ (gs_preV hK hov hE hI hM hm hS hA 0 0 (by decide) rfl rfl) rfl rfl hl.1 rfl (lv_room (Nat.le_of_ble_eq_true rfl)) dX9_take_15 ⟨Nat.le_of_ble_eq_true rfl, Nat.le_of_ble_eq_true rfl⟩) hm hS hA (fun r_2 st_2 H locs hw_2 hM hS => ?_)
    obtain ⟨n_2, hw_2⟩ := hw_2
    have n_2 := gBN.nil n_2
    subst n_2
    obtain ⟨hw_2_0, hw_2_1⟩ := hw_2
    refine lv_iconst (v := 1) hx hb dX9_take_18 (by decide) ?_
    refine lv_icmp_ne (tgt := 24) hx hb dX9_take_19 (by decide) (fun c_3 => ?_) (fun c_3 => ?_)
    · have ic_3 := gz_ne (rfl : r_2.toInt = r_2.toInt) (by decide : (1 : Int32).toInt = 1) c_3
      refine lv_iload_n hx hb dX9_take_24 rfl (lv_at hl 3 rfl) ?_
      refine lv_aload_n hx hb dX9_take_25 rfl (lv_at hl 0 rfl) ?_
      refine gs_get (C := RX9) (T := TX9) (N := 12) hx hb hts inX9 hown hK hM 0 0 4 (by decide) rfl rfl (by decide) (hts _ gm_295) (fun _ h9 => h9) rfl dX9_take_26 ?_
      refine gs_getN (host := "WellCourt") (C := RX1) (T := TX1) (N := 3) hx hb hts inX1 hown hK hM 12 15 0 (by decide) rfl rfl (by decide) (va_Nw.use rfl (hov.2.2 _ gn_121)) (fun _ h9 => h9) rfl dX9_take_29 ?_
      refine lv_iload_n hx hb dX9_take_32 rfl (lv_at hl 1 rfl) ?_
      refine gs_iald hx hb hK hM 13 15 (by decide) rfl (vp_in_iff.mpr ⟨by omega, by omega⟩) dX9_take_33 ?_
      refine lv_topi (fun x_4 ex_4 => ?_)
      have qx_4 : x_4.toInt = (st 13 15 (x.toNatClampNeg)).toInt := congrArg Int32.toInt ex_4
      refine lv_icmp_le (tgt := 39) hx hb dX9_take_34 (by decide) (fun c_5 => ?_) (fun c_5 => ?_)
      · have ic_5 := gz_le (rfl : w.toInt = w.toInt) (rfl : x_4.toInt = x_4.toInt) c_5
        refine lv_aload_n hx hb dX9_take_39 rfl (lv_at hl 0 rfl) ?_
        refine gs_get (C := RX9) (T := TX9) (N := 12) hx hb hts inX9 hown hK hM 0 0 4 (by decide) rfl rfl (by decide) (hts _ gm_295) (fun _ h9 => h9) rfl dX9_take_40 ?_
        refine gs_getN (host := "WellCourt") (C := RX1) (T := TX1) (N := 3) hx hb hts inX1 hown hK hM 12 15 0 (by decide) rfl rfl (by decide) (va_Nw.use rfl (hov.2.2 _ gn_121)) (fun _ h9 => h9) rfl dX9_take_43 ?_
        refine lv_iload_n hx hb dX9_take_46 rfl (lv_at hl 1 rfl) ?_
        refine lv_dup2_11 hx hb dX9_take_47 rfl rfl ?_
        refine gs_iald hx hb hK hM 13 15 (by decide) rfl (vp_in_iff.mpr ⟨by omega, by omega⟩) dX9_take_48 ?_
        refine lv_topi (fun x_6 ex_6 => ?_)
        have qx_6 : x_6.toInt = (st 13 15 (x.toNatClampNeg)).toInt := congrArg Int32.toInt ex_6
        refine lv_iload_n hx hb dX9_take_49 rfl (lv_at hl 3 rfl) ?_
        refine lv_isub hx hb dX9_take_50 ?_
        refine lv_topi (fun x_7 ex_7 => ?_)
        refine gs_iast hx hb hK hI hm hM hS 13 15 (by decide) (fun _ => rfl) (vp_in_iff.mpr ⟨by omega, by omega⟩) dX9_take_51 (fun st_8 H locs est_8 hM hS => ?_)
        have hB_st_8 : gBN bX kX [1300, 1601, 1800] st st_8 := by rw [est_8]; exact hB_st.up (show (1300 : Nat) ∈ _ from by decide) (gi_lo _) (gi_hi _)
        refine lv_aload_n hx hb dX9_take_52 rfl (lv_at hl 0 rfl) ?_
        refine gs_get (C := RX9) (T := TX9) (N := 12) hx hb hts inX9 hown hK hM 0 0 5 (by decide) rfl rfl (by decide) (hts _ gm_296) (fun _ h9 => h9) rfl dX9_take_53 ?_
        refine lv_aload_n hx hb dX9_take_56 rfl (lv_at hl 0 rfl) ?_
        refine gs_get (C := RX9) (T := TX9) (N := 12) hx hb hts inX9 hown hK hM 0 0 10 (by decide) rfl rfl (by decide) (hts _ gm_301) (fun _ h9 => h9) rfl dX9_take_57 ?_
        refine lv_topi (fun x_9 ex_9 => ?_)
        have ex_9 : (st 0 0 10) = x_9 := Eq.symm (ex_9.trans ((congrFun (congrFun (congrFun est_8 0) 0) 10).trans (congrFun (congrFun (gU_k (by decide)) 0) 10)))
        subst ex_9
        have bf_10 : (0 : Int) ≤ (st 0 0 10).toInt ∧ (st 0 0 10).toInt ≤ (199 : Int) := hB_st.1 0 0 10
        refine lv_iload_n hx hb dX9_take_60 rfl (lv_at hl 1 rfl) ?_
        refine lv_iload_n hx hb dX9_take_61 rfl (lv_at hl 2 rfl) ?_
        refine lv_iload_n hx hb dX9_take_62 rfl (lv_at hl 3 rfl) ?_
        refine lv_iconst (v := 0) hx hb dX9_take_63 (by decide) ?_
        refine gs_callv (va_runV (As := [.int (st 0 0 10), .int x, .int y, .int w, .int 0]) (rest := []) ⟨hx, hb, hml, hown, hts⟩ (s_X5_enter l G cy sK sV ad H.size st_8 hB_st_8.1 (st 0 0 10) x y w (0 : Int32) ) ⟨(gz_cb (n := 5) hts gm_651 gm_8 gm_654 ⟨by decide +kernel, by decide +kernel, by decide +kernel⟩ ⟨Nat.le_of_ble_eq_true rfl, Nat.le_of_ble_eq_true rfl⟩), hts _ gm_652, hts _ gm_653⟩ (gs_preV hK hov hE hI hM hm hS hA 16 0 (by decide) rfl rfl) rfl rfl hl.1 rfl (lv_room (Nat.le_of_ble_eq_true rfl)) dX9_take_64 ⟨Nat.le_of_ble_eq_true rfl, Nat.le_of_ble_eq_true rfl⟩) hm hS hA (fun st_11 H locs hw_11 hM hS => ?_)
        obtain ⟨n_11, hw_11⟩ := hw_11
        have hB_st_11 : gBN bX kX [1300, 1601, 1800] st st_11 := hB_st_8.call n_11 (by decide)
        refine lv_iconst (v := 0) hx hb dX9_take_67 (by decide) ?_
        exact gs_iret hx hb hr hlocks hM hS rfl ⟨hB_st_11, trivial⟩ (by exact Nat.le_refl _) (by exact Nat.le_refl _) dX9_take_68
      · have ic_5 := gz_nle (rfl : w.toInt = w.toInt) (rfl : x_4.toInt = x_4.toInt) c_5
        have lc_5 := gi_hi w
        refine lv_iconst (v := 4) hx hb dX9_take_37 (by decide) ?_
        exact gs_iret hx hb hr hlocks hM hS rfl ⟨hB_st, trivial⟩ (by exact Nat.le_refl _) (by exact Nat.le_refl _) dX9_take_38
    · have ic_3 := gz_eqn (rfl : r_2.toInt = r_2.toInt) (by decide : (1 : Int32).toInt = 1) c_3
      refine lv_iconst (v := 5) hx hb dX9_take_22 (by decide) ?_
      exact gs_iret hx hb hr hlocks hM hS rfl ⟨hB_st, trivial⟩ (by exact Nat.le_refl _) (by exact Nat.le_refl _) dX9_take_23
  · skip
    refine lv_if_ne (tgt := 12) hx hb dX9_take_7 (by decide) (fun h9 => absurd (by decide) h9) (fun _ => ?_)
    refine lv_iconst (v := 1) hx hb dX9_take_10 (by decide) ?_
    exact gs_iret hx hb hr hlocks hM hS rfl ⟨hB_st, trivial⟩ (by exact Nat.le_refl _) (by exact Nat.le_refl _) dX9_take_11

set_option maxHeartbeats 4000000 in
set_option maxRecDepth 100000 in
/-- WellCourt.report -/
theorem s_report (l : Launch) (G : va_G) (cy : Nat → ClassId) (sK sV : Nat → Nat) (ad : Nat → Nat → Nat) (sz : Nat) (st : gS) (hB : gBd bX st) (x : Int32) (Xx : Int) (kx : x.toInt = Xx) : gsMi l yX9_report cX9_report 2 (some .boolean) ({ frames := 1, cells := 0, slots := 0, locals := 21 } : Room) G cy sK sV (shX cy ad) cnX ad sz [.ref (ad 0 0), .int x] st (fun (r : Int32) (u : gS) => gBN bX kX [1800] st u ∧ ((r = 1) ∨ (r = 0))) := by
  refine gs_start (fun A => gsQi G (shX cy ad) cnX ad _ A) (by decide) (Nat.le_of_ble_eq_true rfl) ?_
  intro p e s m below meth c A ls H hx hb hr hml hlocks hown hts hK hov hE hI hM hm hS hA hl
  have hl : lv_has ls 2 [(0, .ref (ad 0 0)), (1, .int x)] := hl
  have hB_st : gBN bX kX [1800] st st := gBN.rf hB
  have b9 : (0 : Int) ≤ (st 16 0 1).toInt ∧ (st 16 0 1).toInt ≤ (300 : Int) := hB 16 0 1
  refine lv_aload_n hx hb dX9_report_0 rfl (lv_at hl 0 rfl) ?_
  refine gs_get (C := RX9) (T := TX9) (N := 12) hx hb hts inX9 hown hK hM 0 0 5 (by decide) rfl rfl (by decide) (hts _ gm_296) (fun _ h9 => h9) rfl dX9_report_1 ?_
  refine lv_iload_n hx hb dX9_report_4 rfl (lv_at hl 1 rfl) ?_
  refine gs_calli (va_runV (As := [.int x]) (rest := []) ⟨hx, hb, hml, hown, hts⟩ (s_X5_has l G cy sK sV ad H.size st hB_st.1 x x.toInt rfl ) ⟨(gz_cb (n := 1) hts gm_663 gm_8 gm_666 ⟨by decide +kernel, by decide +kernel, by decide +kernel⟩ ⟨Nat.le_of_ble_eq_true rfl, Nat.le_of_ble_eq_true rfl⟩), hts _ gm_664, hts _ gm_665⟩ (gs_preV hK hov hE hI hM hm hS hA 16 0 (by decide) rfl rfl) rfl rfl hl.1 rfl (lv_room (Nat.le_of_ble_eq_true rfl)) dX9_report_5 ⟨Nat.le_of_ble_eq_true rfl, Nat.le_of_ble_eq_true rfl⟩) hm hS hA (fun r_1 st_1 H locs hw_1 hM hS => ?_)
  obtain ⟨n_1, hw_1⟩ := hw_1
  have n_1 := gBN.nil n_1
  subst n_1
  have hbhw_10 : (0 : Int) ≤ (st 16 0 1).toInt ∧ (st 16 0 1).toInt ≤ (300 : Int) := hB_st.1 16 0 1
  rcases hw_1 with ⟨rfl, hw_1_0, hw_1_1⟩ | ⟨rfl, hw_1_0⟩
  · skip
    refine lv_if_eq (tgt := 26) hx hb dX9_report_8 (by decide) (fun h9 => absurd h9 (by decide)) (fun _ => ?_)
    refine lv_aload_n hx hb dX9_report_11 rfl (lv_at hl 0 rfl) ?_
    refine gs_get (C := RX9) (T := TX9) (N := 12) hx hb hts inX9 hown hK hM 0 0 5 (by decide) rfl rfl (by decide) (hts _ gm_296) (fun _ h9 => h9) rfl dX9_report_12 ?_
    refine gs_getN (host := "WellCourt") (C := RX5) (T := TX5) (N := 2) hx hb hts inX5 hown hK hM 16 0 0 (by decide) rfl rfl (by decide) (va_Nw.use rfl (hov.2.2 _ gn_142)) (fun _ h9 => h9) rfl dX9_report_15 ?_
    refine lv_iconst (v := 5) hx hb dX9_report_18 (by decide) ?_
    refine gs_alda hx hb hK hM 17 0 (by decide) rfl (vp_in_iff.mpr (by decide)) (a := ad 18 5) rfl dX9_report_19 ?_
    refine lv_iload_n hx hb dX9_report_20 rfl (lv_at hl 1 rfl) ?_
    refine gs_iald hx hb hK hM 18 5 (by decide) rfl (vp_in_iff.mpr ⟨by omega, by omega⟩) dX9_report_21 ?_
    refine lv_topi (fun x_2 ex_2 => ?_)
    have qx_2 : x_2.toInt = (st 18 5 (x.toNatClampNeg)).toInt := congrArg Int32.toInt ex_2
    refine lv_iconst (v := (-1)) hx hb dX9_report_22 (by decide) ?_
    refine lv_icmp_eq (tgt := 28) hx hb dX9_report_23 (by decide) (fun c_3 => ?_) (fun c_3 => ?_)
    · have ic_3 := gz_eq (rfl : x_2.toInt = x_2.toInt) (by decide : ((-1) : Int32).toInt = -1) c_3
      refine lv_aload_n hx hb dX9_report_28 rfl (lv_at hl 0 rfl) ?_
      refine gs_get (C := RX9) (T := TX9) (N := 12) hx hb hts inX9 hown hK hM 0 0 5 (by decide) rfl rfl (by decide) (hts _ gm_296) (fun _ h9 => h9) rfl dX9_report_29 ?_
      refine gs_getN (host := "WellCourt") (C := RX5) (T := TX5) (N := 2) hx hb hts inX5 hown hK hM 16 0 0 (by decide) rfl rfl (by decide) (va_Nw.use rfl (hov.2.2 _ gn_142)) (fun _ h9 => h9) rfl dX9_report_32 ?_
      refine lv_iconst (v := 5) hx hb dX9_report_35 (by decide) ?_
      refine gs_alda hx hb hK hM 17 0 (by decide) rfl (vp_in_iff.mpr (by decide)) (a := ad 18 5) rfl dX9_report_36 ?_
      refine lv_iload_n hx hb dX9_report_37 rfl (lv_at hl 1 rfl) ?_
      refine lv_aload_n hx hb dX9_report_38 rfl (lv_at hl 0 rfl) ?_
      refine gs_get (C := RX9) (T := TX9) (N := 12) hx hb hts inX9 hown hK hM 0 0 10 (by decide) rfl rfl (by decide) (hts _ gm_301) (fun _ h9 => h9) rfl dX9_report_39 ?_
      have bf_4 : (0 : Int) ≤ (st 0 0 10).toInt ∧ (st 0 0 10).toInt ≤ (199 : Int) := hB_st.1 0 0 10
      refine gs_iast hx hb hK hI hm hM hS 18 5 (by decide) (fun _ => rfl) (vp_in_iff.mpr ⟨by omega, by omega⟩) dX9_report_42 (fun st_5 H locs est_5 hM hS => ?_)
      have hB_st_5 : gBN bX kX [1800] st st_5 := by rw [est_5]; exact hB_st.up (show (1800 : Nat) ∈ _ from by decide) (gi_lo _) (gi_hi _)
      refine lv_iconst (v := 1) hx hb dX9_report_43 (by decide) ?_
      exact gs_iret hx hb hr hlocks hM hS (by decide) ⟨hB_st_5, (Or.inl rfl)⟩ (by exact Nat.le_refl _) (by exact Nat.le_refl _) dX9_report_44
    · have ic_3 := gz_ne (rfl : x_2.toInt = x_2.toInt) (by decide : ((-1) : Int32).toInt = -1) c_3
      refine lv_iconst (v := 0) hx hb dX9_report_26 (by decide) ?_
      exact gs_iret hx hb hr hlocks hM hS (by decide) ⟨hB_st, (Or.inr (rfl))⟩ (by exact Nat.le_refl _) (by exact Nat.le_refl _) dX9_report_27
  · skip
    refine lv_if_eq (tgt := 26) hx hb dX9_report_8 (by decide) (fun _ => ?_) (fun h9 => absurd (by decide) h9)
    refine lv_iconst (v := 0) hx hb dX9_report_26 (by decide) ?_
    exact gs_iret hx hb hr hlocks hM hS (by decide) ⟨hB_st, (Or.inr (rfl))⟩ (by exact Nat.le_refl _) (by exact Nat.le_refl _) dX9_report_27

set_option maxHeartbeats 4000000 in
set_option maxRecDepth 100000 in
/-- WellCourt.judge -/
theorem s_judge (l : Launch) (G : va_G) (cy : Nat → ClassId) (sK sV : Nat → Nat) (ad : Nat → Nat → Nat) (sz : Nat) (st : gS) (hB : gBd bX st) (x : Int32) (y : Int32) (w : Int32) (v : Int32) (t : Int32) (Xx : Int) (Xy : Int) (Xw : Int) (Xv : Int) (Xt : Int) (kx : x.toInt = Xx) (ky : y.toInt = Xy) (kw : w.toInt = Xw) (kv : v.toInt = Xv) (kt : t.toInt = Xt) : gsMi l yX9_judge cX9_judge 6 (some .int) ({ frames := 3, cells := 0, slots := 0, locals := 76 } : Room) G cy sK sV (shX cy ad) cnX ad sz [.ref (ad 0 0), .int x, .int y, .int w, .int v, .int t] st (fun (r : Int32) (u : gS) => gBN bX kX [] st u ∧ (True)) := by
  refine gs_start (fun A => gsQi G (shX cy ad) cnX ad _ A) (by decide) (Nat.le_of_ble_eq_true rfl) ?_
  intro p e s m below meth c A ls H hx hb hr hml hlocks hown hts hK hov hE hI hM hm hS hA hl
  have hl : lv_has ls 6 [(0, .ref (ad 0 0)), (1, .int x), (2, .int y), (3, .int w), (4, .int v), (5, .int t)] := hl
  have hB_st : gBN bX kX [] st st := gBN.rf hB
  refine lv_iload_n hx hb dX9_judge_0 rfl (lv_at hl 1 rfl) ?_
  refine gs_calli (va_runS (As := [.int x]) (rest := []) ⟨hx, hb, hml, hown, hts⟩ (s_isClan l G cy sK sV ad H.size st hB_st.1 x x.toInt rfl ) ⟨(gz_cb (n := 1) hts gm_600 gm_1 gm_487 ⟨by decide +kernel, by decide +kernel, by decide +kernel⟩ ⟨Nat.le_of_ble_eq_true rfl, Nat.le_of_ble_eq_true rfl⟩), hts _ gm_486⟩ (gs_preS hK hov hE hI hM hm hS hA) rfl rfl hl.1 rfl (lv_room (Nat.le_of_ble_eq_true rfl)) dX9_judge_1 ⟨Nat.le_of_ble_eq_true rfl, Nat.le_of_ble_eq_true rfl⟩) hm hS hA (fun r_1 st_1 H locs hw_1 hM hS => ?_)
  obtain ⟨n_1, hw_1⟩ := hw_1
  have n_1 := gBN.nil n_1
  subst n_1
  rcases hw_1 with ⟨rfl, hw_1_0, hw_1_1⟩ | ⟨rfl, hw_1_0⟩
  · skip
    refine lv_if_ne (tgt := 9) hx hb dX9_judge_4 (by decide) (fun _ => ?_) (fun h9 => absurd h9 (by decide))
    refine lv_iload hx hb dX9_judge_9 (lv_at hl 5 rfl) ?_
    rcases (show t.toInt < 0 ∨ 3 < t.toInt ∨ t.toInt = 0 ∨ t.toInt = 1 ∨ t.toInt = 2 ∨ t.toInt = 3 by omega) with h_2 | h_2 | h_2 | h_2 | h_2 | h_2
    · refine lv_tableOut (tgt := 100) hx hb dX9_judge_11 (Or.inl h_2) (by decide) ?_
      refine lv_iconst (v := (-1)) hx hb dX9_judge_100 (by decide) ?_
      exact gs_iret hx hb hr hlocks hM hS rfl ⟨hB_st, trivial⟩ (by exact Nat.le_refl _) (by exact Nat.le_refl _) dX9_judge_101
    · refine lv_tableOut (tgt := 100) hx hb dX9_judge_11 (Or.inr h_2) (by decide) ?_
      refine lv_iconst (v := (-1)) hx hb dX9_judge_100 (by decide) ?_
      exact gs_iret hx hb hr hlocks hM hS rfl ⟨hB_st, trivial⟩ (by exact Nat.le_refl _) (by exact Nat.le_refl _) dX9_judge_101
    · refine lv_tableIn (tgt := 40) hx hb dX9_judge_11 (by omega) (by omega) (by rw [h_2]; rfl) (by decide) ?_
      refine lv_aload_n hx hb dX9_judge_40 rfl (lv_at hl 0 rfl) ?_
      refine gs_get (C := RX9) (T := TX9) (N := 12) hx hb hts inX9 hown hK hM 0 0 5 (by decide) rfl rfl (by decide) (hts _ gm_296) (fun _ h9 => h9) rfl dX9_judge_41 ?_
      refine lv_iload_n hx hb dX9_judge_44 rfl (lv_at hl 1 rfl) ?_
      refine lv_iload_n hx hb dX9_judge_45 rfl (lv_at hl 2 rfl) ?_
      refine lv_iload_n hx hb dX9_judge_46 rfl (lv_at hl 3 rfl) ?_
      refine lv_iconst (v := 1) hx hb dX9_judge_47 (by decide) ?_
      refine gs_calli (va_runV (As := [.int x, .int y, .int w, .int 1]) (rest := []) ⟨hx, hb, hml, hown, hts⟩ (s_X5_sum l G cy sK sV ad H.size st hB_st.1 x y w (1 : Int32) x.toInt y.toInt w.toInt 1 rfl rfl rfl (by decide) ) ⟨(gz_cb (n := 4) hts gm_671 gm_8 gm_674 ⟨by decide +kernel, by decide +kernel, by decide +kernel⟩ ⟨Nat.le_of_ble_eq_true rfl, Nat.le_of_ble_eq_true rfl⟩), hts _ gm_672, hts _ gm_673⟩ (gs_preV hK hov hE hI hM hm hS hA 16 0 (by decide) rfl rfl) rfl rfl hl.1 rfl (lv_room (Nat.le_of_ble_eq_true rfl)) dX9_judge_48 ⟨Nat.le_of_ble_eq_true rfl, Nat.le_of_ble_eq_true rfl⟩) hm hS hA (fun r_3 st_3 H locs hw_3 hM hS => ?_)
      obtain ⟨n_3, hw_3⟩ := hw_3
      have n_3 := gBN.nil n_3
      subst n_3
      refine lv_aload_n hx hb dX9_judge_51 rfl (lv_at hl 0 rfl) ?_
      refine gs_get (C := RX9) (T := TX9) (N := 12) hx hb hts inX9 hown hK hM 0 0 5 (by decide) rfl rfl (by decide) (hts _ gm_296) (fun _ h9 => h9) rfl dX9_judge_52 ?_
      refine lv_iload_n hx hb dX9_judge_55 rfl (lv_at hl 1 rfl) ?_
      refine lv_iload_n hx hb dX9_judge_56 rfl (lv_at hl 2 rfl) ?_
      refine lv_iload_n hx hb dX9_judge_57 rfl (lv_at hl 3 rfl) ?_
      refine lv_iconst (v := 0) hx hb dX9_judge_58 (by decide) ?_
      refine gs_calli (va_runV (As := [.int x, .int y, .int w, .int 0]) (rest := [.int r_3]) ⟨hx, hb, hml, hown, hts⟩ (s_X5_sum l G cy sK sV ad H.size st hB_st.1 x y w (0 : Int32) x.toInt y.toInt w.toInt 0 rfl rfl rfl (by decide) ) ⟨(gz_cb (n := 4) hts gm_671 gm_8 gm_674 ⟨by decide +kernel, by decide +kernel, by decide +kernel⟩ ⟨Nat.le_of_ble_eq_true rfl, Nat.le_of_ble_eq_true rfl⟩), hts _ gm_672, hts _ gm_673⟩ (gs_preV hK hov hE hI hM hm hS hA 16 0 (by decide) rfl rfl) rfl rfl hl.1 rfl (lv_room (Nat.le_of_ble_eq_true rfl)) dX9_judge_59 ⟨Nat.le_of_ble_eq_true rfl, Nat.le_of_ble_eq_true rfl⟩) hm hS hA (fun r_4 st_4 H locs hw_4 hM hS => ?_)
      obtain ⟨n_4, hw_4⟩ := hw_4
      have n_4 := gBN.nil n_4
      subst n_4
      refine lv_iadd hx hb dX9_judge_62 ?_
      refine lv_topi (fun x_5 ex_5 => ?_)
      exact gs_iret hx hb hr hlocks hM hS rfl ⟨hB_st, trivial⟩ (by exact Nat.le_refl _) (by exact Nat.le_refl _) dX9_judge_63
    · refine lv_tableIn (tgt := 64) hx hb dX9_judge_11 (by omega) (by omega) (by rw [h_2]; rfl) (by decide) ?_
      refine lv_aload_n hx hb dX9_judge_64 rfl (lv_at hl 0 rfl) ?_
      refine gs_get (C := RX9) (T := TX9) (N := 12) hx hb hts inX9 hown hK hM 0 0 5 (by decide) rfl rfl (by decide) (hts _ gm_296) (fun _ h9 => h9) rfl dX9_judge_65 ?_
      refine lv_iload_n hx hb dX9_judge_68 rfl (lv_at hl 1 rfl) ?_
      refine lv_iload_n hx hb dX9_judge_69 rfl (lv_at hl 2 rfl) ?_
      refine lv_iload_n hx hb dX9_judge_70 rfl (lv_at hl 3 rfl) ?_
      refine lv_iconst (v := 0) hx hb dX9_judge_71 (by decide) ?_
      refine gs_calli (va_runV (As := [.int x, .int y, .int w, .int 0]) (rest := []) ⟨hx, hb, hml, hown, hts⟩ (s_X5_sum l G cy sK sV ad H.size st hB_st.1 x y w (0 : Int32) x.toInt y.toInt w.toInt 0 rfl rfl rfl (by decide) ) ⟨(gz_cb (n := 4) hts gm_671 gm_8 gm_674 ⟨by decide +kernel, by decide +kernel, by decide +kernel⟩ ⟨Nat.le_of_ble_eq_true rfl, Nat.le_of_ble_eq_true rfl⟩), hts _ gm_672, hts _ gm_673⟩ (gs_preV hK hov hE hI hM hm hS hA 16 0 (by decide) rfl rfl) rfl rfl hl.1 rfl (lv_room (Nat.le_of_ble_eq_true rfl)) dX9_judge_72 ⟨Nat.le_of_ble_eq_true rfl, Nat.le_of_ble_eq_true rfl⟩) hm hS hA (fun r_6 st_6 H locs hw_6 hM hS => ?_)
      obtain ⟨n_6, hw_6⟩ := hw_6
      have n_6 := gBN.nil n_6
      subst n_6
      exact gs_iret hx hb hr hlocks hM hS rfl ⟨hB_st, trivial⟩ (by exact Nat.le_refl _) (by exact Nat.le_refl _) dX9_judge_75
    · refine lv_tableIn (tgt := 76) hx hb dX9_judge_11 (by omega) (by omega) (by rw [h_2]; rfl) (by decide) ?_
      refine lv_aload_n hx hb dX9_judge_76 rfl (lv_at hl 0 rfl) ?_
      refine gs_get (C := RX9) (T := TX9) (N := 12) hx hb hts inX9 hown hK hM 0 0 5 (by decide) rfl rfl (by decide) (hts _ gm_296) (fun _ h9 => h9) rfl dX9_judge_77 ?_
      refine lv_iload_n hx hb dX9_judge_80 rfl (lv_at hl 1 rfl) ?_
      refine lv_iload_n hx hb dX9_judge_81 rfl (lv_at hl 2 rfl) ?_
      refine lv_iload_n hx hb dX9_judge_82 rfl (lv_at hl 3 rfl) ?_
      refine lv_iconst (v := 0) hx hb dX9_judge_83 (by decide) ?_
      refine lv_iload hx hb dX9_judge_84 (lv_at hl 4 rfl) ?_
      refine gs_calli (va_runV (As := [.int x, .int y, .int w, .int 0, .int v]) (rest := []) ⟨hx, hb, hml, hown, hts⟩ (s_X5_sumKnown l G cy sK sV ad H.size st hB_st.1 x y w (0 : Int32) v x.toInt y.toInt w.toInt 0 v.toInt rfl rfl rfl (by decide) rfl ) ⟨(gz_cb (n := 5) hts gm_676 gm_8 gm_679 ⟨by decide +kernel, by decide +kernel, by decide +kernel⟩ ⟨Nat.le_of_ble_eq_true rfl, Nat.le_of_ble_eq_true rfl⟩), hts _ gm_677, hts _ gm_678⟩ (gs_preV hK hov hE hI hM hm hS hA 16 0 (by decide) rfl rfl) rfl rfl hl.1 rfl (lv_room (Nat.le_of_ble_eq_true rfl)) dX9_judge_86 ⟨Nat.le_of_ble_eq_true rfl, Nat.le_of_ble_eq_true rfl⟩) hm hS hA (fun r_7 st_7 H locs hw_7 hM hS => ?_)
      obtain ⟨n_7, hw_7⟩ := hw_7
      have n_7 := gBN.nil n_7
      subst n_7
      exact gs_iret hx hb hr hlocks hM hS rfl ⟨hB_st, trivial⟩ (by exact Nat.le_refl _) (by exact Nat.le_refl _) dX9_judge_89
    · refine lv_tableIn (tgt := 90) hx hb dX9_judge_11 (by omega) (by omega) (by rw [h_2]; rfl) (by decide) ?_
      refine lv_aload_n hx hb dX9_judge_90 rfl (lv_at hl 0 rfl) ?_
      refine lv_iload_n hx hb dX9_judge_91 rfl (lv_at hl 1 rfl) ?_
      refine lv_iload_n hx hb dX9_judge_92 rfl (lv_at hl 2 rfl) ?_
      refine lv_iload_n hx hb dX9_judge_93 rfl (lv_at hl 3 rfl) ?_
      refine lv_iload hx hb dX9_judge_94 (lv_at hl 4 rfl) ?_
      refine gs_calli (va_runV (As := [.int x, .int y, .int w, .int v]) (rest := []) ⟨hx, hb, hml, hown, hts⟩ (s_fine l G cy sK sV ad H.size st hB_st.1 x y w v x.toInt y.toInt w.toInt v.toInt rfl rfl rfl rfl ) ⟨(gz_cb (n := 4) hts gm_684 gm_1 gm_687 ⟨by decide +kernel, by decide +kernel, by decide +kernel⟩ ⟨Nat.le_of_ble_eq_true rfl, Nat.le_of_ble_eq_true rfl⟩), hts _ gm_686, hts _ gs_22⟩ (gs_preV hK hov hE hI hM hm hS hA 0 0 (by decide) rfl rfl) rfl rfl hl.1 rfl (lv_room (Nat.le_of_ble_eq_true rfl)) dX9_judge_96 ⟨Nat.le_of_ble_eq_true rfl, Nat.le_of_ble_eq_true rfl⟩) hm hS hA (fun r_8 st_8 H locs hw_8 hM hS => ?_)
      obtain ⟨n_8, hw_8⟩ := hw_8
      have n_8 := gBN.nil n_8
      subst n_8
      exact gs_iret hx hb hr hlocks hM hS rfl ⟨hB_st, trivial⟩ (by exact Nat.le_refl _) (by exact Nat.le_refl _) dX9_judge_99
  · skip
    refine lv_if_ne (tgt := 9) hx hb dX9_judge_4 (by decide) (fun h9 => absurd (by decide) h9) (fun _ => ?_)
    refine lv_iconst (v := (-1)) hx hb dX9_judge_7 (by decide) ?_
    exact gs_iret hx hb hr hlocks hM hS rfl ⟨hB_st, trivial⟩ (by exact Nat.le_refl _) (by exact Nat.le_refl _) dX9_judge_8

theorem gm_583 : (Jvm.Cond.methodLink "WellCourtLaw" (53 : Nat) ({ cls := "WellCourt", name := "water", desc := "(II)I" } : Jvm.MethodName)) ∈ gz_T := gz_at 583 (by decide +kernel) rfl
theorem gm_584 : (Jvm.Cond.instanceMethod ({ cls := "WellCourt", name := "water", desc := "(II)I" } : Jvm.MethodName)) ∈ gz_T := gz_at 584 (by decide +kernel) rfl
theorem gm_585 : (Jvm.Cond.selects "WellCourt" ({ cls := "WellCourt", name := "water", desc := "(II)I" } : Jvm.MethodName) ({ cls := "WellCourt", name := "water", desc := "(II)I" } : Jvm.MethodName)) ∈ gz_T := gz_at 585 (by decide +kernel) rfl
theorem gm_586 : (Jvm.Cond.code ({ cls := "WellCourt", name := "water", desc := "(II)I" } : Jvm.MethodName) prog_1_method_8_code (3 : Nat) (Option.some Jvm.ClassFile.FieldType.int)) ∈ gz_T := gz_at 586 (by decide +kernel) rfl
theorem gm_591 : (Jvm.Cond.methodLink "WellCourtLaw" (57 : Nat) ({ cls := "WellCourt", name := "owner", desc := "(II)I" } : Jvm.MethodName)) ∈ gz_T := gz_at 591 (by decide +kernel) rfl
theorem gm_592 : (Jvm.Cond.instanceMethod ({ cls := "WellCourt", name := "owner", desc := "(II)I" } : Jvm.MethodName)) ∈ gz_T := gz_at 592 (by decide +kernel) rfl
theorem gm_593 : (Jvm.Cond.selects "WellCourt" ({ cls := "WellCourt", name := "owner", desc := "(II)I" } : Jvm.MethodName) ({ cls := "WellCourt", name := "owner", desc := "(II)I" } : Jvm.MethodName)) ∈ gz_T := gz_at 593 (by decide +kernel) rfl
theorem gm_594 : (Jvm.Cond.code ({ cls := "WellCourt", name := "owner", desc := "(II)I" } : Jvm.MethodName) prog_1_method_9_code (3 : Nat) (Option.some Jvm.ClassFile.FieldType.int)) ∈ gz_T := gz_at 594 (by decide +kernel) rfl
theorem gm_596 : (Jvm.Cond.methodLink "WellCourtLaw" (61 : Nat) ({ cls := "WellCourt", name := "may", desc := "(II)I" } : Jvm.MethodName)) ∈ gz_T := gz_at 596 (by decide +kernel) rfl
theorem gm_597 : (Jvm.Cond.instanceMethod ({ cls := "WellCourt", name := "may", desc := "(II)I" } : Jvm.MethodName)) ∈ gz_T := gz_at 597 (by decide +kernel) rfl
theorem gm_598 : (Jvm.Cond.selects "WellCourt" ({ cls := "WellCourt", name := "may", desc := "(II)I" } : Jvm.MethodName) ({ cls := "WellCourt", name := "may", desc := "(II)I" } : Jvm.MethodName)) ∈ gz_T := gz_at 598 (by decide +kernel) rfl
theorem gm_599 : (Jvm.Cond.code ({ cls := "WellCourt", name := "may", desc := "(II)I" } : Jvm.MethodName) prog_1_method_10_code (3 : Nat) (Option.some Jvm.ClassFile.FieldType.int)) ∈ gz_T := gz_at 599 (by decide +kernel) rfl
theorem gm_626 : (Jvm.Cond.methodLink "WellCourtLaw" (65 : Nat) ({ cls := "WellCourt", name := "lend", desc := "(III)I" } : Jvm.MethodName)) ∈ gz_T := gz_at 626 (by decide +kernel) rfl
theorem gm_627 : (Jvm.Cond.instanceMethod ({ cls := "WellCourt", name := "lend", desc := "(III)I" } : Jvm.MethodName)) ∈ gz_T := gz_at 627 (by decide +kernel) rfl
theorem gm_628 : (Jvm.Cond.selects "WellCourt" ({ cls := "WellCourt", name := "lend", desc := "(III)I" } : Jvm.MethodName) ({ cls := "WellCourt", name := "lend", desc := "(III)I" } : Jvm.MethodName)) ∈ gz_T := gz_at 628 (by decide +kernel) rfl
theorem gm_629 : (Jvm.Cond.code ({ cls := "WellCourt", name := "lend", desc := "(III)I" } : Jvm.MethodName) prog_1_method_11_code (4 : Nat) (Option.some Jvm.ClassFile.FieldType.int)) ∈ gz_T := gz_at 629 (by decide +kernel) rfl
theorem gm_635 : (Jvm.Cond.methodLink "WellCourtLaw" (70 : Nat) ({ cls := "WellCourt", name := "draw", desc := "(III)I" } : Jvm.MethodName)) ∈ gz_T := gz_at 635 (by decide +kernel) rfl
theorem gm_636 : (Jvm.Cond.instanceMethod ({ cls := "WellCourt", name := "draw", desc := "(III)I" } : Jvm.MethodName)) ∈ gz_T := gz_at 636 (by decide +kernel) rfl
theorem gm_637 : (Jvm.Cond.selects "WellCourt" ({ cls := "WellCourt", name := "draw", desc := "(III)I" } : Jvm.MethodName) ({ cls := "WellCourt", name := "draw", desc := "(III)I" } : Jvm.MethodName)) ∈ gz_T := gz_at 637 (by decide +kernel) rfl
theorem gm_638 : (Jvm.Cond.code ({ cls := "WellCourt", name := "draw", desc := "(III)I" } : Jvm.MethodName) prog_1_method_12_code (6 : Nat) (Option.some Jvm.ClassFile.FieldType.int)) ∈ gz_T := gz_at 638 (by decide +kernel) rfl
theorem gm_655 : (Jvm.Cond.methodLink "WellCourtLaw" (74 : Nat) ({ cls := "WellCourt", name := "take", desc := "(III)I" } : Jvm.MethodName)) ∈ gz_T := gz_at 655 (by decide +kernel) rfl
theorem gm_656 : (Jvm.Cond.instanceMethod ({ cls := "WellCourt", name := "take", desc := "(III)I" } : Jvm.MethodName)) ∈ gz_T := gz_at 656 (by decide +kernel) rfl
theorem gm_657 : (Jvm.Cond.selects "WellCourt" ({ cls := "WellCourt", name := "take", desc := "(III)I" } : Jvm.MethodName) ({ cls := "WellCourt", name := "take", desc := "(III)I" } : Jvm.MethodName)) ∈ gz_T := gz_at 657 (by decide +kernel) rfl
theorem gm_658 : (Jvm.Cond.code ({ cls := "WellCourt", name := "take", desc := "(III)I" } : Jvm.MethodName) prog_1_method_13_code (4 : Nat) (Option.some Jvm.ClassFile.FieldType.int)) ∈ gz_T := gz_at 658 (by decide +kernel) rfl
theorem gm_1197 : (Jvm.Cond.methodLink "WellCourtLaw" (56 : Nat) ({ cls := "WellCourtModel", name := "water", desc := "(II)I" } : Jvm.MethodName)) ∈ gz_T := gz_at 1197 (by decide +kernel) rfl
theorem gm_1198 : (Jvm.Cond.instanceMethod ({ cls := "WellCourtModel", name := "water", desc := "(II)I" } : Jvm.MethodName)) ∈ gz_T := gz_at 1198 (by decide +kernel) rfl
theorem gm_1199 : (Jvm.Cond.selects "WellCourtModel" ({ cls := "WellCourtModel", name := "water", desc := "(II)I" } : Jvm.MethodName) ({ cls := "WellCourtModel", name := "water", desc := "(II)I" } : Jvm.MethodName)) ∈ gz_T := gz_at 1199 (by decide +kernel) rfl
theorem gm_1200 : (Jvm.Cond.code ({ cls := "WellCourtModel", name := "water", desc := "(II)I" } : Jvm.MethodName) prog_12_method_31_code (3 : Nat) (Option.some Jvm.ClassFile.FieldType.int)) ∈ gz_T := gz_at 1200 (by decide +kernel) rfl
theorem gm_1205 : (Jvm.Cond.methodLink "WellCourtLaw" (60 : Nat) ({ cls := "WellCourtModel", name := "owner", desc := "(II)I" } : Jvm.MethodName)) ∈ gz_T := gz_at 1205 (by decide +kernel) rfl
theorem gm_1206 : (Jvm.Cond.instanceMethod ({ cls := "WellCourtModel", name := "owner", desc := "(II)I" } : Jvm.MethodName)) ∈ gz_T := gz_at 1206 (by decide +kernel) rfl
theorem gm_1207 : (Jvm.Cond.selects "WellCourtModel" ({ cls := "WellCourtModel", name := "owner", desc := "(II)I" } : Jvm.MethodName) ({ cls := "WellCourtModel", name := "owner", desc := "(II)I" } : Jvm.MethodName)) ∈ gz_T := gz_at 1207 (by decide +kernel) rfl
theorem gm_1208 : (Jvm.Cond.code ({ cls := "WellCourtModel", name := "owner", desc := "(II)I" } : Jvm.MethodName) prog_12_method_32_code (3 : Nat) (Option.some Jvm.ClassFile.FieldType.int)) ∈ gz_T := gz_at 1208 (by decide +kernel) rfl
theorem gm_1209 : (Jvm.Cond.methodLink "WellCourtLaw" (64 : Nat) ({ cls := "WellCourtModel", name := "may", desc := "(II)I" } : Jvm.MethodName)) ∈ gz_T := gz_at 1209 (by decide +kernel) rfl
theorem gm_1210 : (Jvm.Cond.instanceMethod ({ cls := "WellCourtModel", name := "may", desc := "(II)I" } : Jvm.MethodName)) ∈ gz_T := gz_at 1210 (by decide +kernel) rfl
theorem gm_1211 : (Jvm.Cond.selects "WellCourtModel" ({ cls := "WellCourtModel", name := "may", desc := "(II)I" } : Jvm.MethodName) ({ cls := "WellCourtModel", name := "may", desc := "(II)I" } : Jvm.MethodName)) ∈ gz_T := gz_at 1211 (by decide +kernel) rfl
theorem gm_1212 : (Jvm.Cond.code ({ cls := "WellCourtModel", name := "may", desc := "(II)I" } : Jvm.MethodName) prog_12_method_37_code (3 : Nat) (Option.some Jvm.ClassFile.FieldType.int)) ∈ gz_T := gz_at 1212 (by decide +kernel) rfl
theorem gm_1228 : (Jvm.Cond.methodLink "WellCourtLaw" (69 : Nat) ({ cls := "WellCourtModel", name := "lend", desc := "(III)I" } : Jvm.MethodName)) ∈ gz_T := gz_at 1228 (by decide +kernel) rfl
theorem gm_1229 : (Jvm.Cond.instanceMethod ({ cls := "WellCourtModel", name := "lend", desc := "(III)I" } : Jvm.MethodName)) ∈ gz_T := gz_at 1229 (by decide +kernel) rfl
theorem gm_1230 : (Jvm.Cond.selects "WellCourtModel" ({ cls := "WellCourtModel", name := "lend", desc := "(III)I" } : Jvm.MethodName) ({ cls := "WellCourtModel", name := "lend", desc := "(III)I" } : Jvm.MethodName)) ∈ gz_T := gz_at 1230 (by decide +kernel) rfl
theorem gm_1231 : (Jvm.Cond.code ({ cls := "WellCourtModel", name := "lend", desc := "(III)I" } : Jvm.MethodName) prog_12_method_38_code (5 : Nat) (Option.some Jvm.ClassFile.FieldType.int)) ∈ gz_T := gz_at 1231 (by decide +kernel) rfl
theorem gm_1232 : (Jvm.Cond.methodLink "WellCourtLaw" (73 : Nat) ({ cls := "WellCourtModel", name := "draw", desc := "(III)I" } : Jvm.MethodName)) ∈ gz_T := gz_at 1232 (by decide +kernel) rfl
theorem gm_1233 : (Jvm.Cond.instanceMethod ({ cls := "WellCourtModel", name := "draw", desc := "(III)I" } : Jvm.MethodName)) ∈ gz_T := gz_at 1233 (by decide +kernel) rfl
theorem gm_1234 : (Jvm.Cond.selects "WellCourtModel" ({ cls := "WellCourtModel", name := "draw", desc := "(III)I" } : Jvm.MethodName) ({ cls := "WellCourtModel", name := "draw", desc := "(III)I" } : Jvm.MethodName)) ∈ gz_T := gz_at 1234 (by decide +kernel) rfl
theorem gm_1235 : (Jvm.Cond.code ({ cls := "WellCourtModel", name := "draw", desc := "(III)I" } : Jvm.MethodName) prog_12_method_41_code (7 : Nat) (Option.some Jvm.ClassFile.FieldType.int)) ∈ gz_T := gz_at 1235 (by decide +kernel) rfl
theorem gm_1244 : (Jvm.Cond.methodLink "WellCourtLaw" (77 : Nat) ({ cls := "WellCourtModel", name := "take", desc := "(III)I" } : Jvm.MethodName)) ∈ gz_T := gz_at 1244 (by decide +kernel) rfl
theorem gm_1245 : (Jvm.Cond.instanceMethod ({ cls := "WellCourtModel", name := "take", desc := "(III)I" } : Jvm.MethodName)) ∈ gz_T := gz_at 1245 (by decide +kernel) rfl
theorem gm_1246 : (Jvm.Cond.selects "WellCourtModel" ({ cls := "WellCourtModel", name := "take", desc := "(III)I" } : Jvm.MethodName) ({ cls := "WellCourtModel", name := "take", desc := "(III)I" } : Jvm.MethodName)) ∈ gz_T := gz_at 1246 (by decide +kernel) rfl
theorem gm_1247 : (Jvm.Cond.code ({ cls := "WellCourtModel", name := "take", desc := "(III)I" } : Jvm.MethodName) prog_12_method_42_code (4 : Nat) (Option.some Jvm.ClassFile.FieldType.int)) ∈ gz_T := gz_at 1247 (by decide +kernel) rfl
theorem dL_law_342 : decode cL_law 342 = .ok (.aload_n 1, 1) := by decide +kernel
theorem dL_law_343 : decode cL_law 343 = .ok (.aload_n 0, 1) := by decide +kernel
theorem dL_law_344 : decode cL_law 344 = .ok (.iload 4, 2) := by decide +kernel
theorem dL_law_346 : decode cL_law 346 = .ok (.iconst 1, 1) := by decide +kernel
theorem dL_law_347 : decode cL_law 347 = .ok (.iadd, 1) := by decide +kernel
theorem dL_law_348 : decode cL_law 348 = .ok (.iaload, 1) := by decide +kernel
theorem dL_law_349 : decode cL_law 349 = .ok (.aload_n 0, 1) := by decide +kernel
theorem dL_law_350 : decode cL_law 350 = .ok (.iload 4, 2) := by decide +kernel
theorem dL_law_352 : decode cL_law 352 = .ok (.iconst 2, 1) := by decide +kernel
theorem dL_law_353 : decode cL_law 353 = .ok (.iadd, 1) := by decide +kernel
theorem dL_law_354 : decode cL_law 354 = .ok (.iaload, 1) := by decide +kernel
theorem dL_law_355 : decode cL_law 355 = .ok (.invokevirtual 53, 3) := by decide +kernel
theorem dL_law_358 : decode cL_law 358 = .ok (.pop, 1) := by decide +kernel
theorem dL_law_359 : decode cL_law 359 = .ok (.aload_n 2, 1) := by decide +kernel
theorem dL_law_360 : decode cL_law 360 = .ok (.aload_n 0, 1) := by decide +kernel
theorem dL_law_361 : decode cL_law 361 = .ok (.iload 4, 2) := by decide +kernel
theorem dL_law_363 : decode cL_law 363 = .ok (.iconst 1, 1) := by decide +kernel
theorem dL_law_364 : decode cL_law 364 = .ok (.iadd, 1) := by decide +kernel
theorem dL_law_365 : decode cL_law 365 = .ok (.iaload, 1) := by decide +kernel
theorem dL_law_366 : decode cL_law 366 = .ok (.aload_n 0, 1) := by decide +kernel
theorem dL_law_367 : decode cL_law 367 = .ok (.iload 4, 2) := by decide +kernel
theorem dL_law_369 : decode cL_law 369 = .ok (.iconst 2, 1) := by decide +kernel
theorem dL_law_370 : decode cL_law 370 = .ok (.iadd, 1) := by decide +kernel
theorem dL_law_371 : decode cL_law 371 = .ok (.iaload, 1) := by decide +kernel
theorem dL_law_372 : decode cL_law 372 = .ok (.invokevirtual 56, 3) := by decide +kernel
theorem dL_law_375 : decode cL_law 375 = .ok (.pop, 1) := by decide +kernel
theorem dL_law_376 : decode cL_law 376 = .ok (.goto 652, 3) := by decide +kernel
theorem dL_law_379 : decode cL_law 379 = .ok (.aload_n 1, 1) := by decide +kernel
theorem dL_law_380 : decode cL_law 380 = .ok (.aload_n 0, 1) := by decide +kernel
theorem dL_law_381 : decode cL_law 381 = .ok (.iload 4, 2) := by decide +kernel
theorem dL_law_383 : decode cL_law 383 = .ok (.iconst 1, 1) := by decide +kernel
theorem dL_law_384 : decode cL_law 384 = .ok (.iadd, 1) := by decide +kernel
theorem dL_law_385 : decode cL_law 385 = .ok (.iaload, 1) := by decide +kernel
theorem dL_law_386 : decode cL_law 386 = .ok (.aload_n 0, 1) := by decide +kernel
theorem dL_law_387 : decode cL_law 387 = .ok (.iload 4, 2) := by decide +kernel
theorem dL_law_389 : decode cL_law 389 = .ok (.iconst 2, 1) := by decide +kernel
theorem dL_law_390 : decode cL_law 390 = .ok (.iadd, 1) := by decide +kernel
theorem dL_law_391 : decode cL_law 391 = .ok (.iaload, 1) := by decide +kernel
theorem dL_law_392 : decode cL_law 392 = .ok (.invokevirtual 57, 3) := by decide +kernel
theorem dL_law_395 : decode cL_law 395 = .ok (.pop, 1) := by decide +kernel
theorem dL_law_396 : decode cL_law 396 = .ok (.aload_n 2, 1) := by decide +kernel
theorem dL_law_397 : decode cL_law 397 = .ok (.aload_n 0, 1) := by decide +kernel
theorem dL_law_398 : decode cL_law 398 = .ok (.iload 4, 2) := by decide +kernel
theorem dL_law_400 : decode cL_law 400 = .ok (.iconst 1, 1) := by decide +kernel
theorem dL_law_401 : decode cL_law 401 = .ok (.iadd, 1) := by decide +kernel
theorem dL_law_402 : decode cL_law 402 = .ok (.iaload, 1) := by decide +kernel
theorem dL_law_403 : decode cL_law 403 = .ok (.aload_n 0, 1) := by decide +kernel
theorem dL_law_404 : decode cL_law 404 = .ok (.iload 4, 2) := by decide +kernel
theorem dL_law_406 : decode cL_law 406 = .ok (.iconst 2, 1) := by decide +kernel
theorem dL_law_407 : decode cL_law 407 = .ok (.iadd, 1) := by decide +kernel
theorem dL_law_408 : decode cL_law 408 = .ok (.iaload, 1) := by decide +kernel
theorem dL_law_409 : decode cL_law 409 = .ok (.invokevirtual 60, 3) := by decide +kernel
theorem dL_law_412 : decode cL_law 412 = .ok (.pop, 1) := by decide +kernel
theorem dL_law_413 : decode cL_law 413 = .ok (.goto 615, 3) := by decide +kernel
theorem dL_law_416 : decode cL_law 416 = .ok (.aload_n 1, 1) := by decide +kernel
theorem dL_law_417 : decode cL_law 417 = .ok (.aload_n 0, 1) := by decide +kernel
theorem dL_law_418 : decode cL_law 418 = .ok (.iload 4, 2) := by decide +kernel
theorem dL_law_420 : decode cL_law 420 = .ok (.iconst 1, 1) := by decide +kernel
theorem dL_law_421 : decode cL_law 421 = .ok (.iadd, 1) := by decide +kernel
theorem dL_law_422 : decode cL_law 422 = .ok (.iaload, 1) := by decide +kernel
theorem dL_law_423 : decode cL_law 423 = .ok (.aload_n 0, 1) := by decide +kernel
theorem dL_law_424 : decode cL_law 424 = .ok (.iload 4, 2) := by decide +kernel
theorem dL_law_426 : decode cL_law 426 = .ok (.iconst 2, 1) := by decide +kernel
theorem dL_law_427 : decode cL_law 427 = .ok (.iadd, 1) := by decide +kernel
theorem dL_law_428 : decode cL_law 428 = .ok (.iaload, 1) := by decide +kernel
theorem dL_law_429 : decode cL_law 429 = .ok (.invokevirtual 61, 3) := by decide +kernel
theorem dL_law_432 : decode cL_law 432 = .ok (.pop, 1) := by decide +kernel
theorem dL_law_433 : decode cL_law 433 = .ok (.aload_n 2, 1) := by decide +kernel
theorem dL_law_434 : decode cL_law 434 = .ok (.aload_n 0, 1) := by decide +kernel
theorem dL_law_435 : decode cL_law 435 = .ok (.iload 4, 2) := by decide +kernel
theorem dL_law_437 : decode cL_law 437 = .ok (.iconst 1, 1) := by decide +kernel
theorem dL_law_438 : decode cL_law 438 = .ok (.iadd, 1) := by decide +kernel
theorem dL_law_439 : decode cL_law 439 = .ok (.iaload, 1) := by decide +kernel
theorem dL_law_440 : decode cL_law 440 = .ok (.aload_n 0, 1) := by decide +kernel
theorem dL_law_441 : decode cL_law 441 = .ok (.iload 4, 2) := by decide +kernel
theorem dL_law_443 : decode cL_law 443 = .ok (.iconst 2, 1) := by decide +kernel
theorem dL_law_444 : decode cL_law 444 = .ok (.iadd, 1) := by decide +kernel
theorem dL_law_445 : decode cL_law 445 = .ok (.iaload, 1) := by decide +kernel
theorem dL_law_446 : decode cL_law 446 = .ok (.invokevirtual 64, 3) := by decide +kernel
theorem dL_law_449 : decode cL_law 449 = .ok (.pop, 1) := by decide +kernel
theorem dL_law_450 : decode cL_law 450 = .ok (.goto 578, 3) := by decide +kernel
theorem dL_law_453 : decode cL_law 453 = .ok (.aload_n 1, 1) := by decide +kernel
theorem dL_law_454 : decode cL_law 454 = .ok (.aload_n 0, 1) := by decide +kernel
theorem dL_law_455 : decode cL_law 455 = .ok (.iload 4, 2) := by decide +kernel
theorem dL_law_457 : decode cL_law 457 = .ok (.iconst 1, 1) := by decide +kernel
theorem dL_law_458 : decode cL_law 458 = .ok (.iadd, 1) := by decide +kernel
theorem dL_law_459 : decode cL_law 459 = .ok (.iaload, 1) := by decide +kernel
theorem dL_law_460 : decode cL_law 460 = .ok (.aload_n 0, 1) := by decide +kernel
theorem dL_law_461 : decode cL_law 461 = .ok (.iload 4, 2) := by decide +kernel
theorem dL_law_463 : decode cL_law 463 = .ok (.iconst 2, 1) := by decide +kernel
theorem dL_law_464 : decode cL_law 464 = .ok (.iadd, 1) := by decide +kernel
theorem dL_law_465 : decode cL_law 465 = .ok (.iaload, 1) := by decide +kernel
theorem dL_law_466 : decode cL_law 466 = .ok (.aload_n 0, 1) := by decide +kernel
theorem dL_law_467 : decode cL_law 467 = .ok (.iload 4, 2) := by decide +kernel
theorem dL_law_469 : decode cL_law 469 = .ok (.iconst 3, 1) := by decide +kernel
theorem dL_law_470 : decode cL_law 470 = .ok (.iadd, 1) := by decide +kernel
theorem dL_law_471 : decode cL_law 471 = .ok (.iaload, 1) := by decide +kernel
theorem dL_law_472 : decode cL_law 472 = .ok (.invokevirtual 65, 3) := by decide +kernel
theorem dL_law_475 : decode cL_law 475 = .ok (.pop, 1) := by decide +kernel
theorem dL_law_476 : decode cL_law 476 = .ok (.aload_n 2, 1) := by decide +kernel
theorem dL_law_477 : decode cL_law 477 = .ok (.aload_n 0, 1) := by decide +kernel
theorem dL_law_478 : decode cL_law 478 = .ok (.iload 4, 2) := by decide +kernel
theorem dL_law_480 : decode cL_law 480 = .ok (.iconst 1, 1) := by decide +kernel
theorem dL_law_481 : decode cL_law 481 = .ok (.iadd, 1) := by decide +kernel
theorem dL_law_482 : decode cL_law 482 = .ok (.iaload, 1) := by decide +kernel
theorem dL_law_483 : decode cL_law 483 = .ok (.aload_n 0, 1) := by decide +kernel
theorem dL_law_484 : decode cL_law 484 = .ok (.iload 4, 2) := by decide +kernel
theorem dL_law_486 : decode cL_law 486 = .ok (.iconst 2, 1) := by decide +kernel
theorem dL_law_487 : decode cL_law 487 = .ok (.iadd, 1) := by decide +kernel
theorem dL_law_488 : decode cL_law 488 = .ok (.iaload, 1) := by decide +kernel
theorem dL_law_489 : decode cL_law 489 = .ok (.aload_n 0, 1) := by decide +kernel
theorem dL_law_490 : decode cL_law 490 = .ok (.iload 4, 2) := by decide +kernel
theorem dL_law_492 : decode cL_law 492 = .ok (.iconst 3, 1) := by decide +kernel
theorem dL_law_493 : decode cL_law 493 = .ok (.iadd, 1) := by decide +kernel
theorem dL_law_494 : decode cL_law 494 = .ok (.iaload, 1) := by decide +kernel
theorem dL_law_495 : decode cL_law 495 = .ok (.invokevirtual 69, 3) := by decide +kernel
theorem dL_law_498 : decode cL_law 498 = .ok (.pop, 1) := by decide +kernel
theorem dL_law_499 : decode cL_law 499 = .ok (.goto 529, 3) := by decide +kernel
theorem dL_law_502 : decode cL_law 502 = .ok (.aload_n 1, 1) := by decide +kernel
theorem dL_law_503 : decode cL_law 503 = .ok (.aload_n 0, 1) := by decide +kernel
theorem dL_law_504 : decode cL_law 504 = .ok (.iload 4, 2) := by decide +kernel
theorem dL_law_506 : decode cL_law 506 = .ok (.iconst 1, 1) := by decide +kernel
theorem dL_law_507 : decode cL_law 507 = .ok (.iadd, 1) := by decide +kernel
theorem dL_law_508 : decode cL_law 508 = .ok (.iaload, 1) := by decide +kernel
theorem dL_law_509 : decode cL_law 509 = .ok (.aload_n 0, 1) := by decide +kernel
theorem dL_law_510 : decode cL_law 510 = .ok (.iload 4, 2) := by decide +kernel
theorem dL_law_512 : decode cL_law 512 = .ok (.iconst 2, 1) := by decide +kernel
theorem dL_law_513 : decode cL_law 513 = .ok (.iadd, 1) := by decide +kernel
theorem dL_law_514 : decode cL_law 514 = .ok (.iaload, 1) := by decide +kernel
theorem dL_law_515 : decode cL_law 515 = .ok (.aload_n 0, 1) := by decide +kernel
theorem dL_law_516 : decode cL_law 516 = .ok (.iload 4, 2) := by decide +kernel
theorem dL_law_518 : decode cL_law 518 = .ok (.iconst 3, 1) := by decide +kernel
theorem dL_law_519 : decode cL_law 519 = .ok (.iadd, 1) := by decide +kernel
theorem dL_law_520 : decode cL_law 520 = .ok (.iaload, 1) := by decide +kernel
theorem dL_law_521 : decode cL_law 521 = .ok (.invokevirtual 70, 3) := by decide +kernel
theorem dL_law_524 : decode cL_law 524 = .ok (.pop, 1) := by decide +kernel
theorem dL_law_525 : decode cL_law 525 = .ok (.aload_n 2, 1) := by decide +kernel
theorem dL_law_526 : decode cL_law 526 = .ok (.aload_n 0, 1) := by decide +kernel
theorem dL_law_527 : decode cL_law 527 = .ok (.iload 4, 2) := by decide +kernel
theorem dL_law_529 : decode cL_law 529 = .ok (.iconst 1, 1) := by decide +kernel
theorem dL_law_530 : decode cL_law 530 = .ok (.iadd, 1) := by decide +kernel
theorem dL_law_531 : decode cL_law 531 = .ok (.iaload, 1) := by decide +kernel
theorem dL_law_532 : decode cL_law 532 = .ok (.aload_n 0, 1) := by decide +kernel
theorem dL_law_533 : decode cL_law 533 = .ok (.iload 4, 2) := by decide +kernel
theorem dL_law_535 : decode cL_law 535 = .ok (.iconst 2, 1) := by decide +kernel
theorem dL_law_536 : decode cL_law 536 = .ok (.iadd, 1) := by decide +kernel
theorem dL_law_537 : decode cL_law 537 = .ok (.iaload, 1) := by decide +kernel
theorem dL_law_538 : decode cL_law 538 = .ok (.aload_n 0, 1) := by decide +kernel
theorem dL_law_539 : decode cL_law 539 = .ok (.iload 4, 2) := by decide +kernel
theorem dL_law_541 : decode cL_law 541 = .ok (.iconst 3, 1) := by decide +kernel
theorem dL_law_542 : decode cL_law 542 = .ok (.iadd, 1) := by decide +kernel
theorem dL_law_543 : decode cL_law 543 = .ok (.iaload, 1) := by decide +kernel
theorem dL_law_544 : decode cL_law 544 = .ok (.invokevirtual 73, 3) := by decide +kernel
theorem dL_law_547 : decode cL_law 547 = .ok (.pop, 1) := by decide +kernel
theorem dL_law_548 : decode cL_law 548 = .ok (.goto 480, 3) := by decide +kernel
theorem dL_law_551 : decode cL_law 551 = .ok (.aload_n 1, 1) := by decide +kernel
theorem dL_law_552 : decode cL_law 552 = .ok (.aload_n 0, 1) := by decide +kernel
theorem dL_law_553 : decode cL_law 553 = .ok (.iload 4, 2) := by decide +kernel
theorem dL_law_555 : decode cL_law 555 = .ok (.iconst 1, 1) := by decide +kernel
theorem dL_law_556 : decode cL_law 556 = .ok (.iadd, 1) := by decide +kernel
theorem dL_law_557 : decode cL_law 557 = .ok (.iaload, 1) := by decide +kernel
theorem dL_law_558 : decode cL_law 558 = .ok (.aload_n 0, 1) := by decide +kernel
theorem dL_law_559 : decode cL_law 559 = .ok (.iload 4, 2) := by decide +kernel
theorem dL_law_561 : decode cL_law 561 = .ok (.iconst 2, 1) := by decide +kernel
theorem dL_law_562 : decode cL_law 562 = .ok (.iadd, 1) := by decide +kernel
theorem dL_law_563 : decode cL_law 563 = .ok (.iaload, 1) := by decide +kernel
theorem dL_law_564 : decode cL_law 564 = .ok (.aload_n 0, 1) := by decide +kernel
theorem dL_law_565 : decode cL_law 565 = .ok (.iload 4, 2) := by decide +kernel
theorem dL_law_567 : decode cL_law 567 = .ok (.iconst 3, 1) := by decide +kernel
theorem dL_law_568 : decode cL_law 568 = .ok (.iadd, 1) := by decide +kernel
theorem dL_law_569 : decode cL_law 569 = .ok (.iaload, 1) := by decide +kernel
theorem dL_law_570 : decode cL_law 570 = .ok (.invokevirtual 74, 3) := by decide +kernel
theorem dL_law_573 : decode cL_law 573 = .ok (.pop, 1) := by decide +kernel
theorem dL_law_574 : decode cL_law 574 = .ok (.aload_n 2, 1) := by decide +kernel
theorem dL_law_575 : decode cL_law 575 = .ok (.aload_n 0, 1) := by decide +kernel
theorem dL_law_576 : decode cL_law 576 = .ok (.iload 4, 2) := by decide +kernel
theorem dL_law_578 : decode cL_law 578 = .ok (.iconst 1, 1) := by decide +kernel
theorem dL_law_579 : decode cL_law 579 = .ok (.iadd, 1) := by decide +kernel
theorem dL_law_580 : decode cL_law 580 = .ok (.iaload, 1) := by decide +kernel
theorem dL_law_581 : decode cL_law 581 = .ok (.aload_n 0, 1) := by decide +kernel
theorem dL_law_582 : decode cL_law 582 = .ok (.iload 4, 2) := by decide +kernel
theorem dL_law_584 : decode cL_law 584 = .ok (.iconst 2, 1) := by decide +kernel
theorem dL_law_585 : decode cL_law 585 = .ok (.iadd, 1) := by decide +kernel
theorem dL_law_586 : decode cL_law 586 = .ok (.iaload, 1) := by decide +kernel
theorem dL_law_587 : decode cL_law 587 = .ok (.aload_n 0, 1) := by decide +kernel
theorem dL_law_588 : decode cL_law 588 = .ok (.iload 4, 2) := by decide +kernel
theorem dL_law_590 : decode cL_law 590 = .ok (.iconst 3, 1) := by decide +kernel
theorem dL_law_591 : decode cL_law 591 = .ok (.iadd, 1) := by decide +kernel
theorem dL_law_592 : decode cL_law 592 = .ok (.iaload, 1) := by decide +kernel
theorem dL_law_593 : decode cL_law 593 = .ok (.invokevirtual 77, 3) := by decide +kernel
theorem dL_law_596 : decode cL_law 596 = .ok (.pop, 1) := by decide +kernel
theorem dL_law_597 : decode cL_law 597 = .ok (.goto 431, 3) := by decide +kernel
set_option maxHeartbeats 4000000 in
set_option maxRecDepth 100000 in
theorem law_c6 {p : Program} {e : Env} {s : State} {m : MethodId} {below : List Frame} {meth : Method} {c : Code} (l : Launch) (hlt : l.stackTraces = false) {b L : Nat} {xs : Nat → Int32} (C0 : lw_At p s m meth c b L xs) (G : va_G) (cy : Nat → ClassId) (sK sV : Nat → Nat) (hK : va_K G vwCl (gzK cy) s) (hov : gOv s) (A : Nat → Prop) (hA : ∀ q, s.heap.size ≤ q → A q) (hAn : ∀ q, A q → s.heap.size ≤ q) (hE : gE sK sV A s s.heap) (aX aM : Nat → Nat → Nat) (o : Nat) (hAp : gAp aX aM o) (hmX : ∀ k i, i < cnX k → A (aX k i)) (hmM : ∀ k i, i < cnM k → A (aM k i)) (hAo : A o) (sx sm : gS) (f : Nat → Int64) (hBX : gBd bX sx) (hIM : mInv sm) (hRel : lRel sx sm) (iv : Int32) (hi0 : 0 ≤ iv.toInt) (hi1 : iv.toInt + 6 ≤ (L : Int)) (hLb : L ≤ 3072) (cells slots : Nat) (hcl : cells + 1 ≤ 601024) (hsl : slots + 6 ≤ 7293034) (H : Heap) (locs : List Loc) (ls : Array Slot) (hW : gWd G cy aX aM o sx sm f H) (hS : va_S A s.heap H locs) (hl : lv_has ls 7 [(4, .int iv), (3, .ref o), (2, .ref (aM 0 0)), (1, .ref (aX 0 0)), (0, .ref b)]) (hnext : (∀ (sx sm : gS) (f : Nat → Int64) (H : Heap) (locs : List Loc) (ls : Array Slot) (cells1 slots1 : Nat), gBd bX sx → mInv sm → lRel sx sm → cells1 ≤ cells + 1 → slots1 ≤ slots + 6 → gWd G cy aX aM o sx sm f H → va_S A s.heap H locs → lv_has ls 7 [(4, .int iv), (3, .ref o), (2, .ref (aM 0 0)), (1, .ref (aX 0 0)), (0, .ref b)] → W p l e room_1 s m #[Value.ref b] below meth c H locs cells1 slots1 (lw_Z below #[Value.ref b] s) (F0 m 1028 ls []))) : W p l e room_1 s m #[Value.ref b] below meth c H locs cells slots (lw_Z below #[Value.ref b] s) (F0 m 342 ls []) := by
  obtain ⟨hx, hb, hr, hml, hown, hts0, hX, hbl, hlocks, hgv⟩ := id C0
  have hts : ∀ w ∈ gz_T, w.before #[Value.ref b] s = true := fun w h => hts0 w (List.mem_filter.mp h).1
  have hown : s.vm.findClass RL = some m.cls := hown
  have hbA : ¬ A b := fun q => Nat.not_le.mpr hbl (hAn b q)
  have t1 : (iv + 1).toInt = iv.toInt + 1 := gz_addP rfl (by decide) (by omega) (by omega)
  have t2 : (iv + 2).toInt = iv.toInt + 2 := gz_addP rfl (by decide) (by omega) (by omega)
  have t3 : (iv + 3).toInt = iv.toInt + 3 := gz_addP rfl (by decide) (by omega) (by omega)
  have t4 : (iv + 4).toInt = iv.toInt + 4 := gz_addP rfl (by decide) (by omega) (by omega)
  have t5 : (iv + 5).toInt = iv.toInt + 5 := gz_addP rfl (by decide) (by omega) (by omega)
  obtain ⟨rs, hLa, hLM, hru, hwf, hun⟩ := hRel.law
  have bk28 : (0 : Int) ≤ (sm 0 0 28).toInt ∧ (sm 0 0 28).toInt ≤ (1 : Int) := hIM 0 0 28
  have hbk : (sm 0 0 28).toInt = (((sm 0 0 28).toNatClampNeg : Nat) : Int) := (gs_cl bk28.1).symm
  refine lv_aload_n hx hb dL_law_342 rfl (lv_at hl 3 rfl) ?_
  refine lv_aload_n hx hb dL_law_343 rfl (lv_at hl 4 rfl) ?_
  refine lv_iload hx hb dL_law_344 (lv_at hl 0 rfl) ?_
  refine lv_iconst (v := 1) hx hb dL_law_346 (by decide) ?_
  refine lv_iadd hx hb dL_law_347 ?_
  refine va_sld hx hb hX hbl hbA hS (vp_in_iff.mpr ⟨by omega, by omega⟩) dL_law_348 ?_
  refine lv_topi (fun x_1 ex_1 => ?_)
  refine lv_aload_n hx hb dL_law_349 rfl (lv_at hl 4 rfl) ?_
  refine lv_iload hx hb dL_law_350 (lv_at hl 0 rfl) ?_
  refine lv_iconst (v := 2) hx hb dL_law_352 (by decide) ?_
  refine lv_iadd hx hb dL_law_353 ?_
  refine va_sld hx hb hX hbl hbA hS (vp_in_iff.mpr ⟨by omega, by omega⟩) dL_law_354 ?_
  refine lv_topi (fun x_2 ex_2 => ?_)
  refine gw_callX (va_runV (As := [.int x_1, .int x_2]) (rest := []) ⟨hx, hb, hml, hown, hts⟩ (s_water l G cy sK sV aX H.size sx hBX x_1 x_2 x_1.toInt x_2.toInt rfl rfl ) ⟨(gz_cb (n := 2) hts gm_583 gm_1 gm_586 ⟨by decide +kernel, by decide +kernel, by decide +kernel⟩ ⟨Nat.le_of_ble_eq_true rfl, Nat.le_of_ble_eq_true rfl⟩), hts _ gm_584, hts _ gm_585⟩ (gs_preV hK hov hE hAp.1 hW.1 hmX hS hA 0 0 (by decide) rfl rfl) rfl rfl hl.1 rfl (lv_room (Nat.le_of_ble_eq_true rfl)) dL_law_355 ⟨(by show cells ≤ 601024; omega), (by show slots ≤ 7293034; omega)⟩) hAp hmX hW hS hA (fun r_3 st_3 H locs hw_3 hW hS => ?_)
  obtain ⟨n_3, hw_3⟩ := hw_3
  refine lv_pop hx hb dL_law_358 rfl ?_
  refine lv_aload_n hx hb dL_law_359 rfl (lv_at hl 2 rfl) ?_
  refine lv_aload_n hx hb dL_law_360 rfl (lv_at hl 4 rfl) ?_
  refine lv_iload hx hb dL_law_361 (lv_at hl 0 rfl) ?_
  refine lv_iconst (v := 1) hx hb dL_law_363 (by decide) ?_
  refine lv_iadd hx hb dL_law_364 ?_
  refine va_sld hx hb hX hbl hbA hS (vp_in_iff.mpr ⟨by omega, by omega⟩) dL_law_365 ?_
  refine lv_topi (fun x_4 ex_4 => ?_)
  have ex_4 : x_1 = x_4 := ex_1.trans ex_4.symm
  subst ex_4
  refine lv_aload_n hx hb dL_law_366 rfl (lv_at hl 4 rfl) ?_
  refine lv_iload hx hb dL_law_367 (lv_at hl 0 rfl) ?_
  refine lv_iconst (v := 2) hx hb dL_law_369 (by decide) ?_
  refine lv_iadd hx hb dL_law_370 ?_
  refine va_sld hx hb hX hbl hbA hS (vp_in_iff.mpr ⟨by omega, by omega⟩) dL_law_371 ?_
  refine lv_topi (fun x_5 ex_5 => ?_)
  have ex_5 : x_2 = x_5 := ex_2.trans ex_5.symm
  subst ex_5
  refine gw_callM (va_runV (As := [.int x_1, .int x_2]) (rest := []) ⟨hx, hb, hml, hown, hts⟩ (m_water l G cy sK sV aM H.size sm hIM x_1 x_2 x_1.toInt x_2.toInt rfl rfl ) ⟨(gz_cb (n := 2) hts gm_1197 gm_12 gm_1200 ⟨by decide +kernel, by decide +kernel, by decide +kernel⟩ ⟨Nat.le_of_ble_eq_true rfl, Nat.le_of_ble_eq_true rfl⟩), hts _ gm_1198, hts _ gm_1199⟩ (gs_preV hK hov hE hAp.2.1 hW.2.1 hmM hS hA 0 0 (by decide) rfl rfl) rfl rfl hl.1 rfl (lv_room (Nat.le_of_ble_eq_true rfl)) dL_law_372 ⟨(by show cells ≤ 601024; omega), (by show slots ≤ 7293034; omega)⟩) hAp hmM hW hS hA (fun r_6 st_6 H locs hw_6 hW hS => ?_)
  obtain ⟨n_6, hw_6⟩ := hw_6
  obtain ⟨hRel, hEq⟩ := rel_water (rX := r_3) (rM := r_6) (x := x_1) (y := x_2) hRel hBX hIM n_3 n_6  hw_3 hw_6
  have hBX := n_3.1
  have hIM := mInv.keep n_6 hIM
  refine lv_pop hx hb dL_law_375 rfl ?_
  refine lv_goto (tgt := 1028) hx hb dL_law_376 (by decide) ?_
  exact hnext st_3 st_6 f H _ ls (cells) (slots) hBX hIM hRel (by omega) (by omega) hW hS (lv_sub hl [0, 1, 2, 3, 4] rfl)

set_option maxHeartbeats 4000000 in
set_option maxRecDepth 100000 in
theorem law_c7 {p : Program} {e : Env} {s : State} {m : MethodId} {below : List Frame} {meth : Method} {c : Code} (l : Launch) (hlt : l.stackTraces = false) {b L : Nat} {xs : Nat → Int32} (C0 : lw_At p s m meth c b L xs) (G : va_G) (cy : Nat → ClassId) (sK sV : Nat → Nat) (hK : va_K G vwCl (gzK cy) s) (hov : gOv s) (A : Nat → Prop) (hA : ∀ q, s.heap.size ≤ q → A q) (hAn : ∀ q, A q → s.heap.size ≤ q) (hE : gE sK sV A s s.heap) (aX aM : Nat → Nat → Nat) (o : Nat) (hAp : gAp aX aM o) (hmX : ∀ k i, i < cnX k → A (aX k i)) (hmM : ∀ k i, i < cnM k → A (aM k i)) (hAo : A o) (sx sm : gS) (f : Nat → Int64) (hBX : gBd bX sx) (hIM : mInv sm) (hRel : lRel sx sm) (iv : Int32) (hi0 : 0 ≤ iv.toInt) (hi1 : iv.toInt + 6 ≤ (L : Int)) (hLb : L ≤ 3072) (cells slots : Nat) (hcl : cells + 1 ≤ 601024) (hsl : slots + 6 ≤ 7293034) (H : Heap) (locs : List Loc) (ls : Array Slot) (hW : gWd G cy aX aM o sx sm f H) (hS : va_S A s.heap H locs) (hl : lv_has ls 7 [(4, .int iv), (3, .ref o), (2, .ref (aM 0 0)), (1, .ref (aX 0 0)), (0, .ref b)]) (hnext : (∀ (sx sm : gS) (f : Nat → Int64) (H : Heap) (locs : List Loc) (ls : Array Slot) (cells1 slots1 : Nat), gBd bX sx → mInv sm → lRel sx sm → cells1 ≤ cells + 1 → slots1 ≤ slots + 6 → gWd G cy aX aM o sx sm f H → va_S A s.heap H locs → lv_has ls 7 [(4, .int iv), (3, .ref o), (2, .ref (aM 0 0)), (1, .ref (aX 0 0)), (0, .ref b)] → W p l e room_1 s m #[Value.ref b] below meth c H locs cells1 slots1 (lw_Z below #[Value.ref b] s) (F0 m 1028 ls []))) : W p l e room_1 s m #[Value.ref b] below meth c H locs cells slots (lw_Z below #[Value.ref b] s) (F0 m 379 ls []) := by
  obtain ⟨hx, hb, hr, hml, hown, hts0, hX, hbl, hlocks, hgv⟩ := id C0
  have hts : ∀ w ∈ gz_T, w.before #[Value.ref b] s = true := fun w h => hts0 w (List.mem_filter.mp h).1
  have hown : s.vm.findClass RL = some m.cls := hown
  have hbA : ¬ A b := fun q => Nat.not_le.mpr hbl (hAn b q)
  have t1 : (iv + 1).toInt = iv.toInt + 1 := gz_addP rfl (by decide) (by omega) (by omega)
  have t2 : (iv + 2).toInt = iv.toInt + 2 := gz_addP rfl (by decide) (by omega) (by omega)
  have t3 : (iv + 3).toInt = iv.toInt + 3 := gz_addP rfl (by decide) (by omega) (by omega)
  have t4 : (iv + 4).toInt = iv.toInt + 4 := gz_addP rfl (by decide) (by omega) (by omega)
  have t5 : (iv + 5).toInt = iv.toInt + 5 := gz_addP rfl (by decide) (by omega) (by omega)
  obtain ⟨rs, hLa, hLM, hru, hwf, hun⟩ := hRel.law
  have bk28 : (0 : Int) ≤ (sm 0 0 28).toInt ∧ (sm 0 0 28).toInt ≤ (1 : Int) := hIM 0 0 28
  have hbk : (sm 0 0 28).toInt = (((sm 0 0 28).toNatClampNeg : Nat) : Int) := (gs_cl bk28.1).symm
  refine lv_aload_n hx hb dL_law_379 rfl (lv_at hl 3 rfl) ?_
  refine lv_aload_n hx hb dL_law_380 rfl (lv_at hl 4 rfl) ?_
  refine lv_iload hx hb dL_law_381 (lv_at hl 0 rfl) ?_
  refine lv_iconst (v := 1) hx hb dL_law_383 (by decide) ?_
  refine lv_iadd hx hb dL_law_384 ?_
  refine va_sld hx hb hX hbl hbA hS (vp_in_iff.mpr ⟨by omega, by omega⟩) dL_law_385 ?_
  refine lv_topi (fun x_1 ex_1 => ?_)
  refine lv_aload_n hx hb dL_law_386 rfl (lv_at hl 4 rfl) ?_
  refine lv_iload hx hb dL_law_387 (lv_at hl 0 rfl) ?_
  refine lv_iconst (v := 2) hx hb dL_law_389 (by decide) ?_
  refine lv_iadd hx hb dL_law_390 ?_
  refine va_sld hx hb hX hbl hbA hS (vp_in_iff.mpr ⟨by omega, by omega⟩) dL_law_391 ?_
  refine lv_topi (fun x_2 ex_2 => ?_)
  refine gw_callX (va_runV (As := [.int x_1, .int x_2]) (rest := []) ⟨hx, hb, hml, hown, hts⟩ (s_owner l G cy sK sV aX H.size sx hBX x_1 x_2 x_1.toInt x_2.toInt rfl rfl ) ⟨(gz_cb (n := 2) hts gm_591 gm_1 gm_594 ⟨by decide +kernel, by decide +kernel, by decide +kernel⟩ ⟨Nat.le_of_ble_eq_true rfl, Nat.le_of_ble_eq_true rfl⟩), hts _ gm_592, hts _ gm_593⟩ (gs_preV hK hov hE hAp.1 hW.1 hmX hS hA 0 0 (by decide) rfl rfl) rfl rfl hl.1 rfl (lv_room (Nat.le_of_ble_eq_true rfl)) dL_law_392 ⟨(by show cells ≤ 601024; omega), (by show slots ≤ 7293034; omega)⟩) hAp hmX hW hS hA (fun r_3 st_3 H locs hw_3 hW hS => ?_)
  obtain ⟨n_3, hw_3⟩ := hw_3
  refine lv_pop hx hb dL_law_395 rfl ?_
  refine lv_aload_n hx hb dL_law_396 rfl (lv_at hl 2 rfl) ?_
  refine lv_aload_n hx hb dL_law_397 rfl (lv_at hl 4 rfl) ?_
  refine lv_iload hx hb dL_law_398 (lv_at hl 0 rfl) ?_
  refine lv_iconst (v := 1) hx hb dL_law_400 (by decide) ?_
  refine lv_iadd hx hb dL_law_401 ?_
  refine va_sld hx hb hX hbl hbA hS (vp_in_iff.mpr ⟨by omega, by omega⟩) dL_law_402 ?_
  refine lv_topi (fun x_4 ex_4 => ?_)
  have ex_4 : x_1 = x_4 := ex_1.trans ex_4.symm
  subst ex_4
  refine lv_aload_n hx hb dL_law_403 rfl (lv_at hl 4 rfl) ?_
  refine lv_iload hx hb dL_law_404 (lv_at hl 0 rfl) ?_
  refine lv_iconst (v := 2) hx hb dL_law_406 (by decide) ?_
  refine lv_iadd hx hb dL_law_407 ?_
  refine va_sld hx hb hX hbl hbA hS (vp_in_iff.mpr ⟨by omega, by omega⟩) dL_law_408 ?_
  refine lv_topi (fun x_5 ex_5 => ?_)
  have ex_5 : x_2 = x_5 := ex_2.trans ex_5.symm
  subst ex_5
  refine gw_callM (va_runV (As := [.int x_1, .int x_2]) (rest := []) ⟨hx, hb, hml, hown, hts⟩ (m_owner l G cy sK sV aM H.size sm hIM x_1 x_2 x_1.toInt x_2.toInt rfl rfl ) ⟨(gz_cb (n := 2) hts gm_1205 gm_12 gm_1208 ⟨by decide +kernel, by decide +kernel, by decide +kernel⟩ ⟨Nat.le_of_ble_eq_true rfl, Nat.le_of_ble_eq_true rfl⟩), hts _ gm_1206, hts _ gm_1207⟩ (gs_preV hK hov hE hAp.2.1 hW.2.1 hmM hS hA 0 0 (by decide) rfl rfl) rfl rfl hl.1 rfl (lv_room (Nat.le_of_ble_eq_true rfl)) dL_law_409 ⟨(by show cells ≤ 601024; omega), (by show slots ≤ 7293034; omega)⟩) hAp hmM hW hS hA (fun r_6 st_6 H locs hw_6 hW hS => ?_)
  obtain ⟨n_6, hw_6⟩ := hw_6
  obtain ⟨hRel, hEq⟩ := rel_owner (rX := r_3) (rM := r_6) (x := x_1) (y := x_2) hRel hBX hIM n_3 n_6  hw_3 hw_6
  have hBX := n_3.1
  have hIM := mInv.keep n_6 hIM
  refine lv_pop hx hb dL_law_412 rfl ?_
  refine lv_goto (tgt := 1028) hx hb dL_law_413 (by decide) ?_
  exact hnext st_3 st_6 f H _ ls (cells) (slots) hBX hIM hRel (by omega) (by omega) hW hS (lv_sub hl [0, 1, 2, 3, 4] rfl)

set_option maxHeartbeats 4000000 in
set_option maxRecDepth 100000 in
theorem law_c8 {p : Program} {e : Env} {s : State} {m : MethodId} {below : List Frame} {meth : Method} {c : Code} (l : Launch) (hlt : l.stackTraces = false) {b L : Nat} {xs : Nat → Int32} (C0 : lw_At p s m meth c b L xs) (G : va_G) (cy : Nat → ClassId) (sK sV : Nat → Nat) (hK : va_K G vwCl (gzK cy) s) (hov : gOv s) (A : Nat → Prop) (hA : ∀ q, s.heap.size ≤ q → A q) (hAn : ∀ q, A q → s.heap.size ≤ q) (hE : gE sK sV A s s.heap) (aX aM : Nat → Nat → Nat) (o : Nat) (hAp : gAp aX aM o) (hmX : ∀ k i, i < cnX k → A (aX k i)) (hmM : ∀ k i, i < cnM k → A (aM k i)) (hAo : A o) (sx sm : gS) (f : Nat → Int64) (hBX : gBd bX sx) (hIM : mInv sm) (hRel : lRel sx sm) (iv : Int32) (hi0 : 0 ≤ iv.toInt) (hi1 : iv.toInt + 6 ≤ (L : Int)) (hLb : L ≤ 3072) (cells slots : Nat) (hcl : cells + 1 ≤ 601024) (hsl : slots + 6 ≤ 7293034) (H : Heap) (locs : List Loc) (ls : Array Slot) (hW : gWd G cy aX aM o sx sm f H) (hS : va_S A s.heap H locs) (hl : lv_has ls 7 [(4, .int iv), (3, .ref o), (2, .ref (aM 0 0)), (1, .ref (aX 0 0)), (0, .ref b)]) (hnext : (∀ (sx sm : gS) (f : Nat → Int64) (H : Heap) (locs : List Loc) (ls : Array Slot) (cells1 slots1 : Nat), gBd bX sx → mInv sm → lRel sx sm → cells1 ≤ cells + 1 → slots1 ≤ slots + 6 → gWd G cy aX aM o sx sm f H → va_S A s.heap H locs → lv_has ls 7 [(4, .int iv), (3, .ref o), (2, .ref (aM 0 0)), (1, .ref (aX 0 0)), (0, .ref b)] → W p l e room_1 s m #[Value.ref b] below meth c H locs cells1 slots1 (lw_Z below #[Value.ref b] s) (F0 m 1028 ls []))) : W p l e room_1 s m #[Value.ref b] below meth c H locs cells slots (lw_Z below #[Value.ref b] s) (F0 m 416 ls []) := by
  obtain ⟨hx, hb, hr, hml, hown, hts0, hX, hbl, hlocks, hgv⟩ := id C0
  have hts : ∀ w ∈ gz_T, w.before #[Value.ref b] s = true := fun w h => hts0 w (List.mem_filter.mp h).1
  have hown : s.vm.findClass RL = some m.cls := hown
  have hbA : ¬ A b := fun q => Nat.not_le.mpr hbl (hAn b q)
  have t1 : (iv + 1).toInt = iv.toInt + 1 := gz_addP rfl (by decide) (by omega) (by omega)
  have t2 : (iv + 2).toInt = iv.toInt + 2 := gz_addP rfl (by decide) (by omega) (by omega)
  have t3 : (iv + 3).toInt = iv.toInt + 3 := gz_addP rfl (by decide) (by omega) (by omega)
  have t4 : (iv + 4).toInt = iv.toInt + 4 := gz_addP rfl (by decide) (by omega) (by omega)
  have t5 : (iv + 5).toInt = iv.toInt + 5 := gz_addP rfl (by decide) (by omega) (by omega)
  obtain ⟨rs, hLa, hLM, hru, hwf, hun⟩ := hRel.law
  have bk28 : (0 : Int) ≤ (sm 0 0 28).toInt ∧ (sm 0 0 28).toInt ≤ (1 : Int) := hIM 0 0 28
  have hbk : (sm 0 0 28).toInt = (((sm 0 0 28).toNatClampNeg : Nat) : Int) := (gs_cl bk28.1).symm
  refine lv_aload_n hx hb dL_law_416 rfl (lv_at hl 3 rfl) ?_
  refine lv_aload_n hx hb dL_law_417 rfl (lv_at hl 4 rfl) ?_
  refine lv_iload hx hb dL_law_418 (lv_at hl 0 rfl) ?_
  refine lv_iconst (v := 1) hx hb dL_law_420 (by decide) ?_
  refine lv_iadd hx hb dL_law_421 ?_
  refine va_sld hx hb hX hbl hbA hS (vp_in_iff.mpr ⟨by omega, by omega⟩) dL_law_422 ?_
  refine lv_topi (fun x_1 ex_1 => ?_)
  refine lv_aload_n hx hb dL_law_423 rfl (lv_at hl 4 rfl) ?_
  refine lv_iload hx hb dL_law_424 (lv_at hl 0 rfl) ?_
  refine lv_iconst (v := 2) hx hb dL_law_426 (by decide) ?_
  refine lv_iadd hx hb dL_law_427 ?_
  refine va_sld hx hb hX hbl hbA hS (vp_in_iff.mpr ⟨by omega, by omega⟩) dL_law_428 ?_
  refine lv_topi (fun x_2 ex_2 => ?_)
  refine gw_callX (va_runV (As := [.int x_1, .int x_2]) (rest := []) ⟨hx, hb, hml, hown, hts⟩ (s_may l G cy sK sV aX H.size sx hBX x_1 x_2 x_1.toInt x_2.toInt rfl rfl rs hLa hwf) ⟨(gz_cb (n := 2) hts gm_596 gm_1 gm_599 ⟨by decide +kernel, by decide +kernel, by decide +kernel⟩ ⟨Nat.le_of_ble_eq_true rfl, Nat.le_of_ble_eq_true rfl⟩), hts _ gm_597, hts _ gm_598⟩ (gs_preV hK hov hE hAp.1 hW.1 hmX hS hA 0 0 (by decide) rfl rfl) rfl rfl hl.1 rfl (lv_room (Nat.le_of_ble_eq_true rfl)) dL_law_429 ⟨(by show cells ≤ 601024; omega), (by show slots ≤ 7293034; omega)⟩) hAp hmX hW hS hA (fun r_3 st_3 H locs hw_3 hW hS => ?_)
  obtain ⟨n_3, hw_3⟩ := hw_3
  refine lv_pop hx hb dL_law_432 rfl ?_
  refine lv_aload_n hx hb dL_law_433 rfl (lv_at hl 2 rfl) ?_
  refine lv_aload_n hx hb dL_law_434 rfl (lv_at hl 4 rfl) ?_
  refine lv_iload hx hb dL_law_435 (lv_at hl 0 rfl) ?_
  refine lv_iconst (v := 1) hx hb dL_law_437 (by decide) ?_
  refine lv_iadd hx hb dL_law_438 ?_
  refine va_sld hx hb hX hbl hbA hS (vp_in_iff.mpr ⟨by omega, by omega⟩) dL_law_439 ?_
  refine lv_topi (fun x_4 ex_4 => ?_)
  have ex_4 : x_1 = x_4 := ex_1.trans ex_4.symm
  subst ex_4
  refine lv_aload_n hx hb dL_law_440 rfl (lv_at hl 4 rfl) ?_
  refine lv_iload hx hb dL_law_441 (lv_at hl 0 rfl) ?_
  refine lv_iconst (v := 2) hx hb dL_law_443 (by decide) ?_
  refine lv_iadd hx hb dL_law_444 ?_
  refine va_sld hx hb hX hbl hbA hS (vp_in_iff.mpr ⟨by omega, by omega⟩) dL_law_445 ?_
  refine lv_topi (fun x_5 ex_5 => ?_)
  have ex_5 : x_2 = x_5 := ex_2.trans ex_5.symm
  subst ex_5
  refine gw_callM (va_runV (As := [.int x_1, .int x_2]) (rest := []) ⟨hx, hb, hml, hown, hts⟩ (m_may l G cy sK sV aM H.size sm hIM x_1 x_2 x_1.toInt x_2.toInt rfl rfl rs _ hbk hru hLM hwf) ⟨(gz_cb (n := 2) hts gm_1209 gm_12 gm_1212 ⟨by decide +kernel, by decide +kernel, by decide +kernel⟩ ⟨Nat.le_of_ble_eq_true rfl, Nat.le_of_ble_eq_true rfl⟩), hts _ gm_1210, hts _ gm_1211⟩ (gs_preV hK hov hE hAp.2.1 hW.2.1 hmM hS hA 0 0 (by decide) rfl rfl) rfl rfl hl.1 rfl (lv_room (Nat.le_of_ble_eq_true rfl)) dL_law_446 ⟨(by show cells ≤ 601024; omega), (by show slots ≤ 7293034; omega)⟩) hAp hmM hW hS hA (fun r_6 st_6 H locs hw_6 hW hS => ?_)
  obtain ⟨n_6, hw_6⟩ := hw_6
  obtain ⟨hRel, hEq⟩ := rel_may (rX := r_3) (rM := r_6) (x := x_1) (y := x_2) hRel hBX hIM n_3 n_6 hwf hw_3 hw_6
  have hBX := n_3.1
  have hIM := mInv.keep n_6 hIM
  refine lv_pop hx hb dL_law_449 rfl ?_
  refine lv_goto (tgt := 1028) hx hb dL_law_450 (by decide) ?_
  exact hnext st_3 st_6 f H _ ls (cells) (slots) hBX hIM hRel (by omega) (by omega) hW hS (lv_sub hl [0, 1, 2, 3, 4] rfl)

set_option maxHeartbeats 4000000 in
set_option maxRecDepth 100000 in
theorem law_c9 {p : Program} {e : Env} {s : State} {m : MethodId} {below : List Frame} {meth : Method} {c : Code} (l : Launch) (hlt : l.stackTraces = false) {b L : Nat} {xs : Nat → Int32} (C0 : lw_At p s m meth c b L xs) (G : va_G) (cy : Nat → ClassId) (sK sV : Nat → Nat) (hK : va_K G vwCl (gzK cy) s) (hov : gOv s) (A : Nat → Prop) (hA : ∀ q, s.heap.size ≤ q → A q) (hAn : ∀ q, A q → s.heap.size ≤ q) (hE : gE sK sV A s s.heap) (aX aM : Nat → Nat → Nat) (o : Nat) (hAp : gAp aX aM o) (hmX : ∀ k i, i < cnX k → A (aX k i)) (hmM : ∀ k i, i < cnM k → A (aM k i)) (hAo : A o) (sx sm : gS) (f : Nat → Int64) (hBX : gBd bX sx) (hIM : mInv sm) (hRel : lRel sx sm) (iv : Int32) (hi0 : 0 ≤ iv.toInt) (hi1 : iv.toInt + 6 ≤ (L : Int)) (hLb : L ≤ 3072) (cells slots : Nat) (hcl : cells + 1 ≤ 601024) (hsl : slots + 6 ≤ 7293034) (H : Heap) (locs : List Loc) (ls : Array Slot) (hW : gWd G cy aX aM o sx sm f H) (hS : va_S A s.heap H locs) (hl : lv_has ls 7 [(4, .int iv), (3, .ref o), (2, .ref (aM 0 0)), (1, .ref (aX 0 0)), (0, .ref b)]) (hnext : (∀ (sx sm : gS) (f : Nat → Int64) (H : Heap) (locs : List Loc) (ls : Array Slot) (cells1 slots1 : Nat), gBd bX sx → mInv sm → lRel sx sm → cells1 ≤ cells + 1 → slots1 ≤ slots + 6 → gWd G cy aX aM o sx sm f H → va_S A s.heap H locs → lv_has ls 7 [(4, .int iv), (3, .ref o), (2, .ref (aM 0 0)), (1, .ref (aX 0 0)), (0, .ref b)] → W p l e room_1 s m #[Value.ref b] below meth c H locs cells1 slots1 (lw_Z below #[Value.ref b] s) (F0 m 1028 ls []))) : W p l e room_1 s m #[Value.ref b] below meth c H locs cells slots (lw_Z below #[Value.ref b] s) (F0 m 453 ls []) := by
  obtain ⟨hx, hb, hr, hml, hown, hts0, hX, hbl, hlocks, hgv⟩ := id C0
  have hts : ∀ w ∈ gz_T, w.before #[Value.ref b] s = true := fun w h => hts0 w (List.mem_filter.mp h).1
  have hown : s.vm.findClass RL = some m.cls := hown
  have hbA : ¬ A b := fun q => Nat.not_le.mpr hbl (hAn b q)
  have t1 : (iv + 1).toInt = iv.toInt + 1 := gz_addP rfl (by decide) (by omega) (by omega)
  have t2 : (iv + 2).toInt = iv.toInt + 2 := gz_addP rfl (by decide) (by omega) (by omega)
  have t3 : (iv + 3).toInt = iv.toInt + 3 := gz_addP rfl (by decide) (by omega) (by omega)
  have t4 : (iv + 4).toInt = iv.toInt + 4 := gz_addP rfl (by decide) (by omega) (by omega)
  have t5 : (iv + 5).toInt = iv.toInt + 5 := gz_addP rfl (by decide) (by omega) (by omega)
  obtain ⟨rs, hLa, hLM, hru, hwf, hun⟩ := hRel.law
  have bk28 : (0 : Int) ≤ (sm 0 0 28).toInt ∧ (sm 0 0 28).toInt ≤ (1 : Int) := hIM 0 0 28
  have hbk : (sm 0 0 28).toInt = (((sm 0 0 28).toNatClampNeg : Nat) : Int) := (gs_cl bk28.1).symm
  refine lv_aload_n hx hb dL_law_453 rfl (lv_at hl 3 rfl) ?_
  refine lv_aload_n hx hb dL_law_454 rfl (lv_at hl 4 rfl) ?_
  refine lv_iload hx hb dL_law_455 (lv_at hl 0 rfl) ?_
  refine lv_iconst (v := 1) hx hb dL_law_457 (by decide) ?_
  refine lv_iadd hx hb dL_law_458 ?_
  refine va_sld hx hb hX hbl hbA hS (vp_in_iff.mpr ⟨by omega, by omega⟩) dL_law_459 ?_
  refine lv_topi (fun x_1 ex_1 => ?_)
  refine lv_aload_n hx hb dL_law_460 rfl (lv_at hl 4 rfl) ?_
  refine lv_iload hx hb dL_law_461 (lv_at hl 0 rfl) ?_
  refine lv_iconst (v := 2) hx hb dL_law_463 (by decide) ?_
  refine lv_iadd hx hb dL_law_464 ?_
  refine va_sld hx hb hX hbl hbA hS (vp_in_iff.mpr ⟨by omega, by omega⟩) dL_law_465 ?_
  refine lv_topi (fun x_2 ex_2 => ?_)
  refine lv_aload_n hx hb dL_law_466 rfl (lv_at hl 4 rfl) ?_
  refine lv_iload hx hb dL_law_467 (lv_at hl 0 rfl) ?_
  refine lv_iconst (v := 3) hx hb dL_law_469 (by decide) ?_
  refine lv_iadd hx hb dL_law_470 ?_
  refine va_sld hx hb hX hbl hbA hS (vp_in_iff.mpr ⟨by omega, by omega⟩) dL_law_471 ?_
  refine lv_topi (fun x_3 ex_3 => ?_)
  refine gw_callX (va_runV (As := [.int x_1, .int x_2, .int x_3]) (rest := []) ⟨hx, hb, hml, hown, hts⟩ (s_lend l G cy sK sV aX H.size sx hBX x_1 x_2 x_3 x_1.toInt x_2.toInt x_3.toInt rfl rfl rfl ) ⟨(gz_cb (n := 3) hts gm_626 gm_1 gm_629 ⟨by decide +kernel, by decide +kernel, by decide +kernel⟩ ⟨Nat.le_of_ble_eq_true rfl, Nat.le_of_ble_eq_true rfl⟩), hts _ gm_627, hts _ gm_628⟩ (gs_preV hK hov hE hAp.1 hW.1 hmX hS hA 0 0 (by decide) rfl rfl) rfl rfl hl.1 rfl (lv_room (Nat.le_of_ble_eq_true rfl)) dL_law_472 ⟨(by show cells ≤ 601024; omega), (by show slots ≤ 7293034; omega)⟩) hAp hmX hW hS hA (fun r_4 st_4 H locs hw_4 hW hS => ?_)
  obtain ⟨n_4, hw_4⟩ := hw_4
  refine lv_pop hx hb dL_law_475 rfl ?_
  refine lv_aload_n hx hb dL_law_476 rfl (lv_at hl 2 rfl) ?_
  refine lv_aload_n hx hb dL_law_477 rfl (lv_at hl 4 rfl) ?_
  refine lv_iload hx hb dL_law_478 (lv_at hl 0 rfl) ?_
  refine lv_iconst (v := 1) hx hb dL_law_480 (by decide) ?_
  refine lv_iadd hx hb dL_law_481 ?_
  refine va_sld hx hb hX hbl hbA hS (vp_in_iff.mpr ⟨by omega, by omega⟩) dL_law_482 ?_
  refine lv_topi (fun x_5 ex_5 => ?_)
  have ex_5 : x_1 = x_5 := ex_1.trans ex_5.symm
  subst ex_5
  refine lv_aload_n hx hb dL_law_483 rfl (lv_at hl 4 rfl) ?_
  refine lv_iload hx hb dL_law_484 (lv_at hl 0 rfl) ?_
  refine lv_iconst (v := 2) hx hb dL_law_486 (by decide) ?_
  refine lv_iadd hx hb dL_law_487 ?_
  refine va_sld hx hb hX hbl hbA hS (vp_in_iff.mpr ⟨by omega, by omega⟩) dL_law_488 ?_
  refine lv_topi (fun x_6 ex_6 => ?_)
  have ex_6 : x_2 = x_6 := ex_2.trans ex_6.symm
  subst ex_6
  refine lv_aload_n hx hb dL_law_489 rfl (lv_at hl 4 rfl) ?_
  refine lv_iload hx hb dL_law_490 (lv_at hl 0 rfl) ?_
  refine lv_iconst (v := 3) hx hb dL_law_492 (by decide) ?_
  refine lv_iadd hx hb dL_law_493 ?_
  refine va_sld hx hb hX hbl hbA hS (vp_in_iff.mpr ⟨by omega, by omega⟩) dL_law_494 ?_
  refine lv_topi (fun x_7 ex_7 => ?_)
  have ex_7 : x_3 = x_7 := ex_3.trans ex_7.symm
  subst ex_7
  refine gw_callM (va_runV (As := [.int x_1, .int x_2, .int x_3]) (rest := []) ⟨hx, hb, hml, hown, hts⟩ (m_lend l G cy sK sV aM H.size sm hIM x_1 x_2 x_3 x_1.toInt x_2.toInt x_3.toInt rfl rfl rfl ) ⟨(gz_cb (n := 3) hts gm_1228 gm_12 gm_1231 ⟨by decide +kernel, by decide +kernel, by decide +kernel⟩ ⟨Nat.le_of_ble_eq_true rfl, Nat.le_of_ble_eq_true rfl⟩), hts _ gm_1229, hts _ gm_1230⟩ (gs_preV hK hov hE hAp.2.1 hW.2.1 hmM hS hA 0 0 (by decide) rfl rfl) rfl rfl hl.1 rfl (lv_room (Nat.le_of_ble_eq_true rfl)) dL_law_495 ⟨(by show cells ≤ 601024; omega), (by show slots ≤ 7293034; omega)⟩) hAp hmM hW hS hA (fun r_8 st_8 H locs hw_8 hW hS => ?_)
  obtain ⟨n_8, hw_8⟩ := hw_8
  obtain ⟨hRel, hEq⟩ := rel_lend (rX := r_4) (rM := r_8) (x := x_1) (y := x_2) (w := x_3) hRel hBX hIM n_4 n_8  hw_4 hw_8
  have hBX := n_4.1
  have hIM := mInv.keep n_8 hIM
  refine lv_pop hx hb dL_law_498 rfl ?_
  refine lv_goto (tgt := 1028) hx hb dL_law_499 (by decide) ?_
  exact hnext st_4 st_8 f H _ ls (cells) (slots) hBX hIM hRel (by omega) (by omega) hW hS (lv_sub hl [0, 1, 2, 3, 4] rfl)

set_option maxHeartbeats 4000000 in
set_option maxRecDepth 100000 in
theorem law_c10 {p : Program} {e : Env} {s : State} {m : MethodId} {below : List Frame} {meth : Method} {c : Code} (l : Launch) (hlt : l.stackTraces = false) {b L : Nat} {xs : Nat → Int32} (C0 : lw_At p s m meth c b L xs) (G : va_G) (cy : Nat → ClassId) (sK sV : Nat → Nat) (hK : va_K G vwCl (gzK cy) s) (hov : gOv s) (A : Nat → Prop) (hA : ∀ q, s.heap.size ≤ q → A q) (hAn : ∀ q, A q → s.heap.size ≤ q) (hE : gE sK sV A s s.heap) (aX aM : Nat → Nat → Nat) (o : Nat) (hAp : gAp aX aM o) (hmX : ∀ k i, i < cnX k → A (aX k i)) (hmM : ∀ k i, i < cnM k → A (aM k i)) (hAo : A o) (sx sm : gS) (f : Nat → Int64) (hBX : gBd bX sx) (hIM : mInv sm) (hRel : lRel sx sm) (iv : Int32) (hi0 : 0 ≤ iv.toInt) (hi1 : iv.toInt + 6 ≤ (L : Int)) (hLb : L ≤ 3072) (cells slots : Nat) (hcl : cells + 1 ≤ 601024) (hsl : slots + 6 ≤ 7293034) (H : Heap) (locs : List Loc) (ls : Array Slot) (hW : gWd G cy aX aM o sx sm f H) (hS : va_S A s.heap H locs) (hl : lv_has ls 7 [(4, .int iv), (3, .ref o), (2, .ref (aM 0 0)), (1, .ref (aX 0 0)), (0, .ref b)]) (hnext : (∀ (sx sm : gS) (f : Nat → Int64) (H : Heap) (locs : List Loc) (ls : Array Slot) (cells1 slots1 : Nat), gBd bX sx → mInv sm → lRel sx sm → cells1 ≤ cells + 1 → slots1 ≤ slots + 6 → gWd G cy aX aM o sx sm f H → va_S A s.heap H locs → lv_has ls 7 [(4, .int iv), (3, .ref o), (2, .ref (aM 0 0)), (1, .ref (aX 0 0)), (0, .ref b)] → W p l e room_1 s m #[Value.ref b] below meth c H locs cells1 slots1 (lw_Z below #[Value.ref b] s) (F0 m 1028 ls []))) : W p l e room_1 s m #[Value.ref b] below meth c H locs cells slots (lw_Z below #[Value.ref b] s) (F0 m 502 ls []) := by
  obtain ⟨hx, hb, hr, hml, hown, hts0, hX, hbl, hlocks, hgv⟩ := id C0
  have hts : ∀ w ∈ gz_T, w.before #[Value.ref b] s = true := fun w h => hts0 w (List.mem_filter.mp h).1
  have hown : s.vm.findClass RL = some m.cls := hown
  have hbA : ¬ A b := fun q => Nat.not_le.mpr hbl (hAn b q)
  have t1 : (iv + 1).toInt = iv.toInt + 1 := gz_addP rfl (by decide) (by omega) (by omega)
  have t2 : (iv + 2).toInt = iv.toInt + 2 := gz_addP rfl (by decide) (by omega) (by omega)
  have t3 : (iv + 3).toInt = iv.toInt + 3 := gz_addP rfl (by decide) (by omega) (by omega)
  have t4 : (iv + 4).toInt = iv.toInt + 4 := gz_addP rfl (by decide) (by omega) (by omega)
  have t5 : (iv + 5).toInt = iv.toInt + 5 := gz_addP rfl (by decide) (by omega) (by omega)
  obtain ⟨rs, hLa, hLM, hru, hwf, hun⟩ := hRel.law
  have bk28 : (0 : Int) ≤ (sm 0 0 28).toInt ∧ (sm 0 0 28).toInt ≤ (1 : Int) := hIM 0 0 28
  have hbk : (sm 0 0 28).toInt = (((sm 0 0 28).toNatClampNeg : Nat) : Int) := (gs_cl bk28.1).symm
  refine lv_aload_n hx hb dL_law_502 rfl (lv_at hl 3 rfl) ?_
  refine lv_aload_n hx hb dL_law_503 rfl (lv_at hl 4 rfl) ?_
  refine lv_iload hx hb dL_law_504 (lv_at hl 0 rfl) ?_
  refine lv_iconst (v := 1) hx hb dL_law_506 (by decide) ?_
  refine lv_iadd hx hb dL_law_507 ?_
  refine va_sld hx hb hX hbl hbA hS (vp_in_iff.mpr ⟨by omega, by omega⟩) dL_law_508 ?_
  refine lv_topi (fun x_1 ex_1 => ?_)
  refine lv_aload_n hx hb dL_law_509 rfl (lv_at hl 4 rfl) ?_
  refine lv_iload hx hb dL_law_510 (lv_at hl 0 rfl) ?_
  refine lv_iconst (v := 2) hx hb dL_law_512 (by decide) ?_
  refine lv_iadd hx hb dL_law_513 ?_
  refine va_sld hx hb hX hbl hbA hS (vp_in_iff.mpr ⟨by omega, by omega⟩) dL_law_514 ?_
  refine lv_topi (fun x_2 ex_2 => ?_)
  refine lv_aload_n hx hb dL_law_515 rfl (lv_at hl 4 rfl) ?_
  refine lv_iload hx hb dL_law_516 (lv_at hl 0 rfl) ?_
  refine lv_iconst (v := 3) hx hb dL_law_518 (by decide) ?_
  refine lv_iadd hx hb dL_law_519 ?_
  refine va_sld hx hb hX hbl hbA hS (vp_in_iff.mpr ⟨by omega, by omega⟩) dL_law_520 ?_
  refine lv_topi (fun x_3 ex_3 => ?_)
  refine gw_callX (va_runV (As := [.int x_1, .int x_2, .int x_3]) (rest := []) ⟨hx, hb, hml, hown, hts⟩ (s_draw l G cy sK sV aX H.size sx hBX x_1 x_2 x_3 x_1.toInt x_2.toInt x_3.toInt rfl rfl rfl rs hLa hwf) ⟨(gz_cb (n := 3) hts gm_635 gm_1 gm_638 ⟨by decide +kernel, by decide +kernel, by decide +kernel⟩ ⟨Nat.le_of_ble_eq_true rfl, Nat.le_of_ble_eq_true rfl⟩), hts _ gm_636, hts _ gm_637⟩ (gs_preV hK hov hE hAp.1 hW.1 hmX hS hA 0 0 (by decide) rfl rfl) rfl rfl hl.1 rfl (lv_room (Nat.le_of_ble_eq_true rfl)) dL_law_521 ⟨(by show cells ≤ 601024; omega), (by show slots ≤ 7293034; omega)⟩) hAp hmX hW hS hA (fun r_4 st_4 H locs hw_4 hW hS => ?_)
  obtain ⟨n_4, hw_4⟩ := hw_4
  refine lv_pop hx hb dL_law_524 rfl ?_
  refine lv_aload_n hx hb dL_law_525 rfl (lv_at hl 2 rfl) ?_
  refine lv_aload_n hx hb dL_law_526 rfl (lv_at hl 4 rfl) ?_
  refine lv_iload hx hb dL_law_527 (lv_at hl 0 rfl) ?_
  refine lv_iconst (v := 1) hx hb dL_law_529 (by decide) ?_
  refine lv_iadd hx hb dL_law_530 ?_
  refine va_sld hx hb hX hbl hbA hS (vp_in_iff.mpr ⟨by omega, by omega⟩) dL_law_531 ?_
  refine lv_topi (fun x_5 ex_5 => ?_)
  have ex_5 : x_1 = x_5 := ex_1.trans ex_5.symm
  subst ex_5
  refine lv_aload_n hx hb dL_law_532 rfl (lv_at hl 4 rfl) ?_
  refine lv_iload hx hb dL_law_533 (lv_at hl 0 rfl) ?_
  refine lv_iconst (v := 2) hx hb dL_law_535 (by decide) ?_
  refine lv_iadd hx hb dL_law_536 ?_
  refine va_sld hx hb hX hbl hbA hS (vp_in_iff.mpr ⟨by omega, by omega⟩) dL_law_537 ?_
  refine lv_topi (fun x_6 ex_6 => ?_)
  have ex_6 : x_2 = x_6 := ex_2.trans ex_6.symm
  subst ex_6
  refine lv_aload_n hx hb dL_law_538 rfl (lv_at hl 4 rfl) ?_
  refine lv_iload hx hb dL_law_539 (lv_at hl 0 rfl) ?_
  refine lv_iconst (v := 3) hx hb dL_law_541 (by decide) ?_
  refine lv_iadd hx hb dL_law_542 ?_
  refine va_sld hx hb hX hbl hbA hS (vp_in_iff.mpr ⟨by omega, by omega⟩) dL_law_543 ?_
  refine lv_topi (fun x_7 ex_7 => ?_)
  have ex_7 : x_3 = x_7 := ex_3.trans ex_7.symm
  subst ex_7
  refine gw_callM (va_runV (As := [.int x_1, .int x_2, .int x_3]) (rest := []) ⟨hx, hb, hml, hown, hts⟩ (m_draw l G cy sK sV aM H.size sm hIM x_1 x_2 x_3 x_1.toInt x_2.toInt x_3.toInt rfl rfl rfl rs _ hbk hru hLM hwf) ⟨(gz_cb (n := 3) hts gm_1232 gm_12 gm_1235 ⟨by decide +kernel, by decide +kernel, by decide +kernel⟩ ⟨Nat.le_of_ble_eq_true rfl, Nat.le_of_ble_eq_true rfl⟩), hts _ gm_1233, hts _ gm_1234⟩ (gs_preV hK hov hE hAp.2.1 hW.2.1 hmM hS hA 0 0 (by decide) rfl rfl) rfl rfl hl.1 rfl (lv_room (Nat.le_of_ble_eq_true rfl)) dL_law_544 ⟨(by show cells ≤ 601024; omega), (by show slots ≤ 7293034; omega)⟩) hAp hmM hW hS hA (fun r_8 st_8 H locs hw_8 hW hS => ?_)
  obtain ⟨n_8, hw_8⟩ := hw_8
  obtain ⟨hRel, hEq⟩ := rel_draw (rX := r_4) (rM := r_8) (x := x_1) (y := x_2) (w := x_3) hRel hBX hIM n_4 n_8 hwf hw_4 hw_8
  have hBX := n_4.1
  have hIM := mInv.keep n_8 hIM
  refine lv_pop hx hb dL_law_547 rfl ?_
  refine lv_goto (tgt := 1028) hx hb dL_law_548 (by decide) ?_
  exact hnext st_4 st_8 f H _ ls (cells) (slots) hBX hIM hRel (by omega) (by omega) hW hS (lv_sub hl [0, 1, 2, 3, 4] rfl)

set_option maxHeartbeats 4000000 in
set_option maxRecDepth 100000 in
theorem law_c11 {p : Program} {e : Env} {s : State} {m : MethodId} {below : List Frame} {meth : Method} {c : Code} (l : Launch) (hlt : l.stackTraces = false) {b L : Nat} {xs : Nat → Int32} (C0 : lw_At p s m meth c b L xs) (G : va_G) (cy : Nat → ClassId) (sK sV : Nat → Nat) (hK : va_K G vwCl (gzK cy) s) (hov : gOv s) (A : Nat → Prop) (hA : ∀ q, s.heap.size ≤ q → A q) (hAn : ∀ q, A q → s.heap.size ≤ q) (hE : gE sK sV A s s.heap) (aX aM : Nat → Nat → Nat) (o : Nat) (hAp : gAp aX aM o) (hmX : ∀ k i, i < cnX k → A (aX k i)) (hmM : ∀ k i, i < cnM k → A (aM k i)) (hAo : A o) (sx sm : gS) (f : Nat → Int64) (hBX : gBd bX sx) (hIM : mInv sm) (hRel : lRel sx sm) (iv : Int32) (hi0 : 0 ≤ iv.toInt) (hi1 : iv.toInt + 6 ≤ (L : Int)) (hLb : L ≤ 3072) (cells slots : Nat) (hcl : cells + 1 ≤ 601024) (hsl : slots + 6 ≤ 7293034) (H : Heap) (locs : List Loc) (ls : Array Slot) (hW : gWd G cy aX aM o sx sm f H) (hS : va_S A s.heap H locs) (hl : lv_has ls 7 [(4, .int iv), (3, .ref o), (2, .ref (aM 0 0)), (1, .ref (aX 0 0)), (0, .ref b)]) (hnext : (∀ (sx sm : gS) (f : Nat → Int64) (H : Heap) (locs : List Loc) (ls : Array Slot) (cells1 slots1 : Nat), gBd bX sx → mInv sm → lRel sx sm → cells1 ≤ cells + 1 → slots1 ≤ slots + 6 → gWd G cy aX aM o sx sm f H → va_S A s.heap H locs → lv_has ls 7 [(4, .int iv), (3, .ref o), (2, .ref (aM 0 0)), (1, .ref (aX 0 0)), (0, .ref b)] → W p l e room_1 s m #[Value.ref b] below meth c H locs cells1 slots1 (lw_Z below #[Value.ref b] s) (F0 m 1028 ls []))) : W p l e room_1 s m #[Value.ref b] below meth c H locs cells slots (lw_Z below #[Value.ref b] s) (F0 m 551 ls []) := by
  obtain ⟨hx, hb, hr, hml, hown, hts0, hX, hbl, hlocks, hgv⟩ := id C0
  have hts : ∀ w ∈ gz_T, w.before #[Value.ref b] s = true := fun w h => hts0 w (List.mem_filter.mp h).1
  have hown : s.vm.findClass RL = some m.cls := hown
  have hbA : ¬ A b := fun q => Nat.not_le.mpr hbl (hAn b q)
  have t1 : (iv + 1).toInt = iv.toInt + 1 := gz_addP rfl (by decide) (by omega) (by omega)
  have t2 : (iv + 2).toInt = iv.toInt + 2 := gz_addP rfl (by decide) (by omega) (by omega)
  have t3 : (iv + 3).toInt = iv.toInt + 3 := gz_addP rfl (by decide) (by omega) (by omega)
  have t4 : (iv + 4).toInt = iv.toInt + 4 := gz_addP rfl (by decide) (by omega) (by omega)
  have t5 : (iv + 5).toInt = iv.toInt + 5 := gz_addP rfl (by decide) (by omega) (by omega)
  obtain ⟨rs, hLa, hLM, hru, hwf, hun⟩ := hRel.law
  have bk28 : (0 : Int) ≤ (sm 0 0 28).toInt ∧ (sm 0 0 28).toInt ≤ (1 : Int) := hIM 0 0 28
  have hbk : (sm 0 0 28).toInt = (((sm 0 0 28).toNatClampNeg : Nat) : Int) := (gs_cl bk28.1).symm
  refine lv_aload_n hx hb dL_law_551 rfl (lv_at hl 3 rfl) ?_
  refine lv_aload_n hx hb dL_law_552 rfl (lv_at hl 4 rfl) ?_
  refine lv_iload hx hb dL_law_553 (lv_at hl 0 rfl) ?_
  refine lv_iconst (v := 1) hx hb dL_law_555 (by decide) ?_
  refine lv_iadd hx hb dL_law_556 ?_
  refine va_sld hx hb hX hbl hbA hS (vp_in_iff.mpr ⟨by omega, by omega⟩) dL_law_557 ?_
  refine lv_topi (fun x_1 ex_1 => ?_)
  refine lv_aload_n hx hb dL_law_558 rfl (lv_at hl 4 rfl) ?_
  refine lv_iload hx hb dL_law_559 (lv_at hl 0 rfl) ?_
  refine lv_iconst (v := 2) hx hb dL_law_561 (by decide) ?_
  refine lv_iadd hx hb dL_law_562 ?_
  refine va_sld hx hb hX hbl hbA hS (vp_in_iff.mpr ⟨by omega, by omega⟩) dL_law_563 ?_
  refine lv_topi (fun x_2 ex_2 => ?_)
  refine lv_aload_n hx hb dL_law_564 rfl (lv_at hl 4 rfl) ?_
  refine lv_iload hx hb dL_law_565 (lv_at hl 0 rfl) ?_
  refine lv_iconst (v := 3) hx hb dL_law_567 (by decide) ?_
  refine lv_iadd hx hb dL_law_568 ?_
  refine va_sld hx hb hX hbl hbA hS (vp_in_iff.mpr ⟨by omega, by omega⟩) dL_law_569 ?_
  refine lv_topi (fun x_3 ex_3 => ?_)
  refine gw_callX (va_runV (As := [.int x_1, .int x_2, .int x_3]) (rest := []) ⟨hx, hb, hml, hown, hts⟩ (s_take l G cy sK sV aX H.size sx hBX x_1 x_2 x_3 x_1.toInt x_2.toInt x_3.toInt rfl rfl rfl rs hLa hwf) ⟨(gz_cb (n := 3) hts gm_655 gm_1 gm_658 ⟨by decide +kernel, by decide +kernel, by decide +kernel⟩ ⟨Nat.le_of_ble_eq_true rfl, Nat.le_of_ble_eq_true rfl⟩), hts _ gm_656, hts _ gm_657⟩ (gs_preV hK hov hE hAp.1 hW.1 hmX hS hA 0 0 (by decide) rfl rfl) rfl rfl hl.1 rfl (lv_room (Nat.le_of_ble_eq_true rfl)) dL_law_570 ⟨(by show cells ≤ 601024; omega), (by show slots ≤ 7293034; omega)⟩) hAp hmX hW hS hA (fun r_4 st_4 H locs hw_4 hW hS => ?_)
  obtain ⟨n_4, hw_4⟩ := hw_4
  refine lv_pop hx hb dL_law_573 rfl ?_
  refine lv_aload_n hx hb dL_law_574 rfl (lv_at hl 2 rfl) ?_
  refine lv_aload_n hx hb dL_law_575 rfl (lv_at hl 4 rfl) ?_
  refine lv_iload hx hb dL_law_576 (lv_at hl 0 rfl) ?_
  refine lv_iconst (v := 1) hx hb dL_law_578 (by decide) ?_
  refine lv_iadd hx hb dL_law_579 ?_
  refine va_sld hx hb hX hbl hbA hS (vp_in_iff.mpr ⟨by omega, by omega⟩) dL_law_580 ?_
  refine lv_topi (fun x_5 ex_5 => ?_)
  have ex_5 : x_1 = x_5 := ex_1.trans ex_5.symm
  subst ex_5
  refine lv_aload_n hx hb dL_law_581 rfl (lv_at hl 4 rfl) ?_
  refine lv_iload hx hb dL_law_582 (lv_at hl 0 rfl) ?_
  refine lv_iconst (v := 2) hx hb dL_law_584 (by decide) ?_
  refine lv_iadd hx hb dL_law_585 ?_
  refine va_sld hx hb hX hbl hbA hS (vp_in_iff.mpr ⟨by omega, by omega⟩) dL_law_586 ?_
  refine lv_topi (fun x_6 ex_6 => ?_)
  have ex_6 : x_2 = x_6 := ex_2.trans ex_6.symm
  subst ex_6
  refine lv_aload_n hx hb dL_law_587 rfl (lv_at hl 4 rfl) ?_
  refine lv_iload hx hb dL_law_588 (lv_at hl 0 rfl) ?_
  refine lv_iconst (v := 3) hx hb dL_law_590 (by decide) ?_
  refine lv_iadd hx hb dL_law_591 ?_
  refine va_sld hx hb hX hbl hbA hS (vp_in_iff.mpr ⟨by omega, by omega⟩) dL_law_592 ?_
  refine lv_topi (fun x_7 ex_7 => ?_)
  have ex_7 : x_3 = x_7 := ex_3.trans ex_7.symm
  subst ex_7
  refine gw_callM (va_runV (As := [.int x_1, .int x_2, .int x_3]) (rest := []) ⟨hx, hb, hml, hown, hts⟩ (m_take l G cy sK sV aM H.size sm hIM x_1 x_2 x_3 x_1.toInt x_2.toInt x_3.toInt rfl rfl rfl rs _ hbk hru hLM hwf) ⟨(gz_cb (n := 3) hts gm_1244 gm_12 gm_1247 ⟨by decide +kernel, by decide +kernel, by decide +kernel⟩ ⟨Nat.le_of_ble_eq_true rfl, Nat.le_of_ble_eq_true rfl⟩), hts _ gm_1245, hts _ gm_1246⟩ (gs_preV hK hov hE hAp.2.1 hW.2.1 hmM hS hA 0 0 (by decide) rfl rfl) rfl rfl hl.1 rfl (lv_room (Nat.le_of_ble_eq_true rfl)) dL_law_593 ⟨(by show cells ≤ 601024; omega), (by show slots ≤ 7293034; omega)⟩) hAp hmM hW hS hA (fun r_8 st_8 H locs hw_8 hW hS => ?_)
  obtain ⟨n_8, hw_8⟩ := hw_8
  obtain ⟨hRel, hEq⟩ := rel_take (rX := r_4) (rM := r_8) (x := x_1) (y := x_2) (w := x_3) hRel hBX hIM n_4 n_8 hwf hw_4 hw_8
  have hBX := n_4.1
  have hIM := mInv.keep n_8 hIM
  refine lv_pop hx hb dL_law_596 rfl ?_
  refine lv_goto (tgt := 1028) hx hb dL_law_597 (by decide) ?_
  exact hnext st_4 st_8 f H _ ls (cells) (slots) hBX hIM hRel (by omega) (by omega) hW hS (lv_sub hl [0, 1, 2, 3, 4] rfl)

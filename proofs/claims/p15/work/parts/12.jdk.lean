theorem gm_13 : (Jvm.Cond.initialized "java/lang/String") ∈ gz_T := gz_at 13 (by decide +kernel) rfl
theorem gm_14 : (Jvm.Cond.initialized "java/lang/StringLatin1") ∈ gz_T := gz_at 14 (by decide +kernel) rfl
theorem gm_15 : (Jvm.Cond.initialized "jdk/internal/util/Preconditions") ∈ gz_T := gz_at 15 (by decide +kernel) rfl
theorem gm_23 : (Jvm.Cond.initialized "java/lang/System") ∈ gz_T := gz_at 23 (by decide +kernel) rfl
theorem gm_120 : (Jvm.Cond.fieldLink "WellCourt$Day" (9 : Nat) "WellCourt$Day" "level" "[I") ∈ gz_T := gz_at 120 (by decide +kernel) rfl
theorem gm_404 : (Jvm.Cond.methodLink "java/lang/String" (335 : Nat) ({ cls := "java/lang/String", name := "coder", desc := "()B" } : Jvm.MethodName)) ∈ gz_T := gz_at 404 (by decide +kernel) rfl
theorem gm_405 : (Jvm.Cond.instanceMethod ({ cls := "java/lang/String", name := "coder", desc := "()B" } : Jvm.MethodName)) ∈ gz_T := gz_at 405 (by decide +kernel) rfl
theorem gm_406 : (Jvm.Cond.selects "java/lang/String" ({ cls := "java/lang/String", name := "coder", desc := "()B" } : Jvm.MethodName) ({ cls := "java/lang/String", name := "coder", desc := "()B" } : Jvm.MethodName)) ∈ gz_T := gz_at 406 (by decide +kernel) rfl
theorem gm_407 : (Jvm.Cond.code ({ cls := "java/lang/String", name := "coder", desc := "()B" } : Jvm.MethodName) prog_17_method_152_code (1 : Nat) (Option.some Jvm.ClassFile.FieldType.byte)) ∈ gz_T := gz_at 407 (by decide +kernel) rfl
theorem gm_408 : (Jvm.Cond.fieldLink "java/lang/String" (38 : Nat) "java/lang/String" "COMPACT_STRINGS" "Z") ∈ gz_T := gz_at 408 (by decide +kernel) rfl
theorem gm_414 : (Jvm.Cond.methodLink "java/lang/String" (492 : Nat) ({ cls := "java/lang/String", name := "isLatin1", desc := "()Z" } : Jvm.MethodName)) ∈ gz_T := gz_at 414 (by decide +kernel) rfl
theorem gm_415 : (Jvm.Cond.instanceMethod ({ cls := "java/lang/String", name := "isLatin1", desc := "()Z" } : Jvm.MethodName)) ∈ gz_T := gz_at 415 (by decide +kernel) rfl
theorem gm_416 : (Jvm.Cond.selects "java/lang/String" ({ cls := "java/lang/String", name := "isLatin1", desc := "()Z" } : Jvm.MethodName) ({ cls := "java/lang/String", name := "isLatin1", desc := "()Z" } : Jvm.MethodName)) ∈ gz_T := gz_at 416 (by decide +kernel) rfl
theorem gm_417 : (Jvm.Cond.code ({ cls := "java/lang/String", name := "isLatin1", desc := "()Z" } : Jvm.MethodName) prog_17_method_154_code (1 : Nat) (Option.some Jvm.ClassFile.FieldType.boolean)) ∈ gz_T := gz_at 417 (by decide +kernel) rfl
theorem gm_418 : (Jvm.Cond.methodLink "java/lang/String" (495 : Nat) ({ cls := "java/lang/StringLatin1", name := "charAt", desc := "([BI)C" } : Jvm.MethodName)) ∈ gz_T := gz_at 418 (by decide +kernel) rfl
theorem gm_419 : (Jvm.Cond.static ({ cls := "java/lang/StringLatin1", name := "charAt", desc := "([BI)C" } : Jvm.MethodName)) ∈ gz_T := gz_at 419 (by decide +kernel) rfl
theorem gm_420 : (Jvm.Cond.code ({ cls := "java/lang/StringLatin1", name := "charAt", desc := "([BI)C" } : Jvm.MethodName) prog_18_method_2_code (2 : Nat) (Option.some Jvm.ClassFile.FieldType.char)) ∈ gz_T := gz_at 420 (by decide +kernel) rfl
theorem gm_421 : (Jvm.Cond.methodLink "java/lang/StringLatin1" (9 : Nat) ({ cls := "java/lang/String", name := "checkIndex", desc := "(II)V" } : Jvm.MethodName)) ∈ gz_T := gz_at 421 (by decide +kernel) rfl
theorem gm_422 : (Jvm.Cond.static ({ cls := "java/lang/String", name := "checkIndex", desc := "(II)V" } : Jvm.MethodName)) ∈ gz_T := gz_at 422 (by decide +kernel) rfl
theorem gm_423 : (Jvm.Cond.code ({ cls := "java/lang/String", name := "checkIndex", desc := "(II)V" } : Jvm.MethodName) prog_17_method_155_code (2 : Nat) (Option.none : Option Jvm.ClassFile.FieldType)) ∈ gz_T := gz_at 423 (by decide +kernel) rfl
theorem gm_424 : (Jvm.Cond.fieldLink "java/lang/String" (1053 : Nat) "jdk/internal/util/Preconditions" "SIOOBE_FORMATTER" "Ljava/util/function/BiFunction;") ∈ gz_T := gz_at 424 (by decide +kernel) rfl
theorem gm_426 : (Jvm.Cond.methodLink "java/lang/String" (1059 : Nat) ({ cls := "jdk/internal/util/Preconditions", name := "checkIndex", desc := "(IILjava/util/function/BiFunction;)I" } : Jvm.MethodName)) ∈ gz_T := gz_at 426 (by decide +kernel) rfl
theorem gm_427 : (Jvm.Cond.static ({ cls := "jdk/internal/util/Preconditions", name := "checkIndex", desc := "(IILjava/util/function/BiFunction;)I" } : Jvm.MethodName)) ∈ gz_T := gz_at 427 (by decide +kernel) rfl
theorem gm_428 : (Jvm.Cond.code ({ cls := "jdk/internal/util/Preconditions", name := "checkIndex", desc := "(IILjava/util/function/BiFunction;)I" } : Jvm.MethodName) prog_24_method_11_code (3 : Nat) (Option.some Jvm.ClassFile.FieldType.int)) ∈ gz_T := gz_at 428 (by decide +kernel) rfl
theorem gm_847 : (Jvm.Cond.methodLink "WellCourt$Day" (27 : Nat) ({ cls := "java/lang/System", name := "arraycopy", desc := "(Ljava/lang/Object;ILjava/lang/Object;II)V" } : Jvm.MethodName)) ∈ gz_T := gz_at 847 (by decide +kernel) rfl
theorem gm_848 : (Jvm.Cond.static ({ cls := "java/lang/System", name := "arraycopy", desc := "(Ljava/lang/Object;ILjava/lang/Object;II)V" } : Jvm.MethodName)) ∈ gz_T := gz_at 848 (by decide +kernel) rfl
theorem gm_849 : (Jvm.Cond.native ({ cls := "java/lang/System", name := "arraycopy", desc := "(Ljava/lang/Object;ILjava/lang/Object;II)V" } : Jvm.MethodName)) ∈ gz_T := gz_at 849 (by decide +kernel) rfl
theorem gm_1322 : (Jvm.Cond.fieldLink "java/lang/String" (9 : Nat) "java/lang/String" "value" "[B") ∈ gz_T := gz_at 1322 (by decide +kernel) rfl
theorem gm_1323 : (Jvm.Cond.fieldLink "java/lang/String" (15 : Nat) "java/lang/String" "coder" "B") ∈ gz_T := gz_at 1323 (by decide +kernel) rfl
theorem inX1 : ∀ w ∈ u_ws RX1 TX1 3, w ∈ gz_T := gz_inX [127, 129, 131] (by decide +kernel) (by decide +kernel)
theorem dJ0_charAt_5068e_0 : decode cJ0_charAt_5068e 0 = .ok (.aload_n 0, 1) := by decide +kernel
theorem dJ0_charAt_5068e_1 : decode cJ0_charAt_5068e 1 = .ok (.invokevirtual 492, 3) := by decide +kernel
theorem dJ0_charAt_5068e_4 : decode cJ0_charAt_5068e 4 = .ok (.ifCond .eq 12, 3) := by decide +kernel
theorem dJ0_charAt_5068e_7 : decode cJ0_charAt_5068e 7 = .ok (.aload_n 0, 1) := by decide +kernel
theorem dJ0_charAt_5068e_8 : decode cJ0_charAt_5068e 8 = .ok (.getfield 9, 3) := by decide +kernel
theorem dJ0_charAt_5068e_11 : decode cJ0_charAt_5068e 11 = .ok (.iload_n 1, 1) := by decide +kernel
theorem dJ0_charAt_5068e_12 : decode cJ0_charAt_5068e 12 = .ok (.invokestatic 495, 3) := by decide +kernel
theorem dJ0_charAt_5068e_15 : decode cJ0_charAt_5068e 15 = .ok (.ireturn, 1) := by decide +kernel
theorem dJ0_checkIndex_df160_0 : decode cJ0_checkIndex_df160 0 = .ok (.iload_n 0, 1) := by decide +kernel
theorem dJ0_checkIndex_df160_1 : decode cJ0_checkIndex_df160 1 = .ok (.iload_n 1, 1) := by decide +kernel
theorem dJ0_checkIndex_df160_2 : decode cJ0_checkIndex_df160 2 = .ok (.getstatic 1053, 3) := by decide +kernel
theorem dJ0_checkIndex_df160_5 : decode cJ0_checkIndex_df160 5 = .ok (.invokestatic 1059, 3) := by decide +kernel
theorem dJ0_checkIndex_df160_8 : decode cJ0_checkIndex_df160 8 = .ok (.pop, 1) := by decide +kernel
theorem dJ0_checkIndex_df160_9 : decode cJ0_checkIndex_df160 9 = .ok (.return_, 1) := by decide +kernel
theorem dJ0_coder_7d493_0 : decode cJ0_coder_7d493 0 = .ok (.getstatic 38, 3) := by decide +kernel
theorem dJ0_coder_7d493_3 : decode cJ0_coder_7d493 3 = .ok (.ifCond .eq 10, 3) := by decide +kernel
theorem dJ0_coder_7d493_6 : decode cJ0_coder_7d493 6 = .ok (.aload_n 0, 1) := by decide +kernel
theorem dJ0_coder_7d493_7 : decode cJ0_coder_7d493 7 = .ok (.getfield 15, 3) := by decide +kernel
theorem dJ0_coder_7d493_10 : decode cJ0_coder_7d493 10 = .ok (.goto 4, 3) := by decide +kernel
theorem dJ0_coder_7d493_14 : decode cJ0_coder_7d493 14 = .ok (.ireturn, 1) := by decide +kernel
theorem dJ0_isLatin1_aae02_0 : decode cJ0_isLatin1_aae02 0 = .ok (.getstatic 38, 3) := by decide +kernel
theorem dJ0_isLatin1_aae02_3 : decode cJ0_isLatin1_aae02 3 = .ok (.ifCond .eq 14, 3) := by decide +kernel
theorem dJ0_isLatin1_aae02_6 : decode cJ0_isLatin1_aae02 6 = .ok (.aload_n 0, 1) := by decide +kernel
theorem dJ0_isLatin1_aae02_7 : decode cJ0_isLatin1_aae02 7 = .ok (.getfield 15, 3) := by decide +kernel
theorem dJ0_isLatin1_aae02_10 : decode cJ0_isLatin1_aae02 10 = .ok (.ifCond .ne 7, 3) := by decide +kernel
theorem dJ0_isLatin1_aae02_13 : decode cJ0_isLatin1_aae02 13 = .ok (.iconst 1, 1) := by decide +kernel
theorem dJ0_isLatin1_aae02_14 : decode cJ0_isLatin1_aae02 14 = .ok (.goto 4, 3) := by decide +kernel
theorem dJ0_isLatin1_aae02_18 : decode cJ0_isLatin1_aae02 18 = .ok (.ireturn, 1) := by decide +kernel
theorem dJ0_length_8abf5_0 : decode cJ0_length_8abf5 0 = .ok (.aload_n 0, 1) := by decide +kernel
theorem dJ0_length_8abf5_1 : decode cJ0_length_8abf5 1 = .ok (.getfield 9, 3) := by decide +kernel
theorem dJ0_length_8abf5_4 : decode cJ0_length_8abf5 4 = .ok (.arraylength, 1) := by decide +kernel
theorem dJ0_length_8abf5_5 : decode cJ0_length_8abf5 5 = .ok (.aload_n 0, 1) := by decide +kernel
theorem dJ0_length_8abf5_6 : decode cJ0_length_8abf5 6 = .ok (.invokevirtual 335, 3) := by decide +kernel
theorem dJ0_length_8abf5_9 : decode cJ0_length_8abf5 9 = .ok (.ishr, 1) := by decide +kernel
theorem dJ0_length_8abf5_10 : decode cJ0_length_8abf5 10 = .ok (.ireturn, 1) := by decide +kernel
theorem dJ1_charAt_3b067_0 : decode cJ1_charAt_3b067 0 = .ok (.iload_n 1, 1) := by decide +kernel
theorem dJ1_charAt_3b067_1 : decode cJ1_charAt_3b067 1 = .ok (.aload_n 0, 1) := by decide +kernel
theorem dJ1_charAt_3b067_2 : decode cJ1_charAt_3b067 2 = .ok (.arraylength, 1) := by decide +kernel
theorem dJ1_charAt_3b067_3 : decode cJ1_charAt_3b067 3 = .ok (.invokestatic 9, 3) := by decide +kernel
theorem dJ1_charAt_3b067_6 : decode cJ1_charAt_3b067 6 = .ok (.aload_n 0, 1) := by decide +kernel
theorem dJ1_charAt_3b067_7 : decode cJ1_charAt_3b067 7 = .ok (.iload_n 1, 1) := by decide +kernel
theorem dJ1_charAt_3b067_8 : decode cJ1_charAt_3b067 8 = .ok (.baload, 1) := by decide +kernel
theorem dJ1_charAt_3b067_9 : decode cJ1_charAt_3b067 9 = .ok (.sipush 255, 3) := by decide +kernel
theorem dJ1_charAt_3b067_12 : decode cJ1_charAt_3b067 12 = .ok (.iand, 1) := by decide +kernel
theorem dJ1_charAt_3b067_13 : decode cJ1_charAt_3b067 13 = .ok (.i2c, 1) := by decide +kernel
theorem dJ1_charAt_3b067_14 : decode cJ1_charAt_3b067 14 = .ok (.ireturn, 1) := by decide +kernel
theorem dJ3_checkIndex_8e157_0 : decode cJ3_checkIndex_8e157 0 = .ok (.iload_n 0, 1) := by decide +kernel
theorem dJ3_checkIndex_8e157_1 : decode cJ3_checkIndex_8e157 1 = .ok (.ifCond .lt 8, 3) := by decide +kernel
theorem dJ3_checkIndex_8e157_4 : decode cJ3_checkIndex_8e157 4 = .ok (.iload_n 0, 1) := by decide +kernel
theorem dJ3_checkIndex_8e157_5 : decode cJ3_checkIndex_8e157 5 = .ok (.iload_n 1, 1) := by decide +kernel
theorem dJ3_checkIndex_8e157_6 : decode cJ3_checkIndex_8e157 6 = .ok (.if_icmp .lt 10, 3) := by decide +kernel
theorem dJ3_checkIndex_8e157_16 : decode cJ3_checkIndex_8e157 16 = .ok (.iload_n 0, 1) := by decide +kernel
theorem dJ3_checkIndex_8e157_17 : decode cJ3_checkIndex_8e157 17 = .ok (.ireturn, 1) := by decide +kernel
theorem dJ7_fill_53178_0 : decode cJ7_fill_53178 0 = .ok (.iconst 0, 1) := by decide +kernel
theorem dJ7_fill_53178_1 : decode cJ7_fill_53178 1 = .ok (.istore_n 2, 1) := by decide +kernel
theorem dJ7_fill_53178_2 : decode cJ7_fill_53178 2 = .ok (.aload_n 0, 1) := by decide +kernel
theorem dJ7_fill_53178_3 : decode cJ7_fill_53178 3 = .ok (.arraylength, 1) := by decide +kernel
theorem dJ7_fill_53178_4 : decode cJ7_fill_53178 4 = .ok (.istore_n 3, 1) := by decide +kernel
theorem dJ7_fill_53178_5 : decode cJ7_fill_53178 5 = .ok (.iload_n 2, 1) := by decide +kernel
theorem dJ7_fill_53178_6 : decode cJ7_fill_53178 6 = .ok (.iload_n 3, 1) := by decide +kernel
theorem dJ7_fill_53178_7 : decode cJ7_fill_53178 7 = .ok (.if_icmp .ge 13, 3) := by decide +kernel
theorem dJ7_fill_53178_10 : decode cJ7_fill_53178 10 = .ok (.aload_n 0, 1) := by decide +kernel
theorem dJ7_fill_53178_11 : decode cJ7_fill_53178 11 = .ok (.iload_n 2, 1) := by decide +kernel
theorem dJ7_fill_53178_12 : decode cJ7_fill_53178 12 = .ok (.iload_n 1, 1) := by decide +kernel
theorem dJ7_fill_53178_13 : decode cJ7_fill_53178 13 = .ok (.iastore, 1) := by decide +kernel
theorem dJ7_fill_53178_14 : decode cJ7_fill_53178 14 = .ok (.iinc 2 1, 3) := by decide +kernel
theorem dJ7_fill_53178_17 : decode cJ7_fill_53178 17 = .ok (.goto (-12), 3) := by decide +kernel
theorem dJ7_fill_53178_20 : decode cJ7_fill_53178 20 = .ok (.return_, 1) := by decide +kernel
theorem dX1_copyLevels_0 : decode cX1_copyLevels 0 = .ok (.aload_n 1, 1) := by decide +kernel
theorem dX1_copyLevels_1 : decode cX1_copyLevels 1 = .ok (.getfield 9, 3) := by decide +kernel
theorem dX1_copyLevels_4 : decode cX1_copyLevels 4 = .ok (.iconst 0, 1) := by decide +kernel
theorem dX1_copyLevels_5 : decode cX1_copyLevels 5 = .ok (.aload_n 0, 1) := by decide +kernel
theorem dX1_copyLevels_6 : decode cX1_copyLevels 6 = .ok (.getfield 9, 3) := by decide +kernel
theorem dX1_copyLevels_9 : decode cX1_copyLevels 9 = .ok (.iconst 0, 1) := by decide +kernel
theorem dX1_copyLevels_10 : decode cX1_copyLevels 10 = .ok (.bipush 6, 2) := by decide +kernel
theorem dX1_copyLevels_12 : decode cX1_copyLevels 12 = .ok (.invokestatic 27, 3) := by decide +kernel
theorem dX1_copyLevels_15 : decode cX1_copyLevels 15 = .ok (.return_, 1) := by decide +kernel
theorem gs_preK {s : State} {H : Heap} {locs : List Loc} {G : va_G} {cy : Nat → ClassId} {sK sV : Nat → Nat} {A : Nat → Prop} {sh : gSh} {cnt : Nat → Nat} {ad : Nat → Nat → Nat} {st : gS} (hK : va_K G vwCl (gzK cy) s) (hov : gOv s) (hE : gE sK sV A s s.heap) (hI : gI cnt ad) (hM : gM G sh cnt ad st H) (hm : ∀ k i, i < cnt k → A (ad k i)) (hS : va_S A s.heap H locs) (hA : ∀ q, s.heap.size ≤ q → A q) (i : Nat) (hi : i < 9) {As : List Value} : PreV s H "java/lang/String" (sK i) (va_Pc (.ref (sK i) :: As) (gsP G cy sK sV sh cnt ad H.size st)) As :=
  ⟨gs_blind, vk_recv hE.2.1 hi hS, (gs_preS hK hov hE hI hM hm hS hA).2⟩
theorem sx_len : ∀ i, i < 9 → (Int32.ofNat (sxL.getD i 0) >>> ((0 : Int32) &&& 31)).toInt = ((sxL.getD i 0 : Nat) : Int) := by decide +kernel
theorem sx_ch : ∀ i, i < 9 → ∀ j, j < sxL.getD i 0 → ((((sxB.getD i []).getD j 0) &&& 255).toUInt32 % 65536).toInt32 = (sxB.getD i []).getD j 0 := by decide +kernel
theorem sx_small : ∀ i, i < 9 → (Int32.ofNat (sxL.getD i 0)).toInt = ((sxL.getD i 0 : Nat) : Int) := by decide +kernel
set_option maxHeartbeats 4000000 in
set_option maxRecDepth 100000 in
theorem s_coder (l : Launch) (G : va_G) (cy : Nat → ClassId) (sK sV : Nat → Nat) (ad : Nat → Nat → Nat) (sz : Nat) (st : gS) (hB : gBd bX st) (i : Nat) (hi : i < 9) : gsMi l yJ0_coder_7d493 cJ0_coder_7d493 1 (some .byte) ({ frames := 0, cells := 0, slots := 0, locals := 0 } : Room) G cy sK sV (shX cy ad) cnX ad sz [.ref (sK i)] st (fun (r : Int32) (u : gS) => gBN bX kX [] st u ∧ (r = 0)) := by
  refine gs_start (fun A => gsQi G (shX cy ad) cnX ad _ A) (by decide) (Nat.le_of_ble_eq_true rfl) ?_
  intro p e s m below meth c A ls H hx hb hr hml hlocks hown hts hK hov hE hI hM hm hS hA hl
  have hB_st : gBN bX kX [] st st := gBN.rf hB
  have hl : lv_has ls 1 [(0, .ref (sK i))] := hl
  refine va_gets (C := "java/lang/String") (n := "COMPACT_STRINGS") (d := "Z") hx hb hE.2.2.2.1 hS hown (hts _ gm_408) (fun _ h9 => h9) dJ0_coder_7d493_0 ?_
  refine lv_if_eq (tgt := 13) hx hb dJ0_coder_7d493_3 (by decide) (fun h9 => absurd h9 (by decide)) (fun _ => ?_)
  refine lv_aload_n hx hb dJ0_coder_7d493_6 rfl (lv_at hl 0 rfl) ?_
  refine vk_getf hx hb (hE.2.1.1 i hi).2.1 hS hown (hts _ gm_1323) (fun _ h9 => h9) dJ0_coder_7d493_7 ?_
  refine lv_goto (tgt := 14) hx hb dJ0_coder_7d493_10 (by decide) ?_
  exact gs_iret hx hb hr hlocks hM hS (by decide) ⟨hB_st, rfl⟩ (by exact Nat.le_refl _) (by exact Nat.le_refl _) dJ0_coder_7d493_14

set_option maxHeartbeats 4000000 in
set_option maxRecDepth 100000 in
theorem s_isLatin1 (l : Launch) (G : va_G) (cy : Nat → ClassId) (sK sV : Nat → Nat) (ad : Nat → Nat → Nat) (sz : Nat) (st : gS) (hB : gBd bX st) (i : Nat) (hi : i < 9) : gsMi l yJ0_isLatin1_aae02 cJ0_isLatin1_aae02 1 (some .boolean) ({ frames := 0, cells := 0, slots := 0, locals := 0 } : Room) G cy sK sV (shX cy ad) cnX ad sz [.ref (sK i)] st (fun (r : Int32) (u : gS) => gBN bX kX [] st u ∧ (r = 1)) := by
  refine gs_start (fun A => gsQi G (shX cy ad) cnX ad _ A) (by decide) (Nat.le_of_ble_eq_true rfl) ?_
  intro p e s m below meth c A ls H hx hb hr hml hlocks hown hts hK hov hE hI hM hm hS hA hl
  have hB_st : gBN bX kX [] st st := gBN.rf hB
  have hl : lv_has ls 1 [(0, .ref (sK i))] := hl
  refine va_gets (C := "java/lang/String") (n := "COMPACT_STRINGS") (d := "Z") hx hb hE.2.2.2.1 hS hown (hts _ gm_408) (fun _ h9 => h9) dJ0_isLatin1_aae02_0 ?_
  refine lv_if_eq (tgt := 17) hx hb dJ0_isLatin1_aae02_3 (by decide) (fun h9 => absurd h9 (by decide)) (fun _ => ?_)
  refine lv_aload_n hx hb dJ0_isLatin1_aae02_6 rfl (lv_at hl 0 rfl) ?_
  refine vk_getf hx hb (hE.2.1.1 i hi).2.1 hS hown (hts _ gm_1323) (fun _ h9 => h9) dJ0_isLatin1_aae02_7 ?_
  refine lv_if_ne (tgt := 17) hx hb dJ0_isLatin1_aae02_10 (by decide) (fun h9 => absurd rfl h9) (fun _ => ?_)
  refine lv_iconst (v := 1) hx hb dJ0_isLatin1_aae02_13 (by decide) ?_
  refine lv_goto (tgt := 18) hx hb dJ0_isLatin1_aae02_14 (by decide) ?_
  exact gs_iret hx hb hr hlocks hM hS (by decide) ⟨hB_st, rfl⟩ (by exact Nat.le_refl _) (by exact Nat.le_refl _) dJ0_isLatin1_aae02_18

set_option maxHeartbeats 4000000 in
set_option maxRecDepth 100000 in
theorem s_len (l : Launch) (G : va_G) (cy : Nat → ClassId) (sK sV : Nat → Nat) (ad : Nat → Nat → Nat) (sz : Nat) (st : gS) (hB : gBd bX st) (i : Nat) (hi : i < 9) : gsMi l yJ0_length_8abf5 cJ0_length_8abf5 1 (some .int) ({ frames := 1, cells := 0, slots := 0, locals := 20 } : Room) G cy sK sV (shX cy ad) cnX ad sz [.ref (sK i)] st (fun (r : Int32) (u : gS) => gBN bX kX [] st u ∧ (r.toInt = ((sxL.getD i 0 : Nat) : Int))) := by
  refine gs_start (fun A => gsQi G (shX cy ad) cnX ad _ A) (by decide) (Nat.le_of_ble_eq_true rfl) ?_
  intro p e s m below meth c A ls H hx hb hr hml hlocks hown hts hK hov hE hI hM hm hS hA hl
  have hB_st : gBN bX kX [] st st := gBN.rf hB
  have hl : lv_has ls 1 [(0, .ref (sK i))] := hl
  refine lv_aload_n hx hb dJ0_length_8abf5_0 rfl (lv_at hl 0 rfl) ?_
  refine vk_getf hx hb (hE.2.1.1 i hi).2.2.1 hS hown (hts _ gm_1322) (fun _ h9 => h9) dJ0_length_8abf5_1 ?_
  refine va_tlen hx hb (hE.2.1.1 i hi).2.2.2 hS rfl dJ0_length_8abf5_4 ?_
  refine lv_aload_n hx hb dJ0_length_8abf5_5 rfl (lv_at hl 0 rfl) ?_
  refine gs_calli (va_runV (As := []) (rest := [.int (Int32.ofNat (sxL.getD i 0))]) ⟨hx, hb, hml, hown, hts⟩ (s_coder l G cy sK sV ad H.size st hB i hi) ⟨(gz_cb (n := 0) hts gm_404 gm_13 gm_407 ⟨by decide +kernel, by decide +kernel, by decide +kernel⟩ ⟨Nat.le_of_ble_eq_true rfl, Nat.le_of_ble_eq_true rfl⟩), hts _ gm_405, hts _ gm_406⟩ (gs_preK hK hov hE hI hM hm hS hA i hi) rfl rfl hl.1 rfl (lv_room (Nat.le_of_ble_eq_true rfl)) dJ0_length_8abf5_6 ⟨Nat.le_of_ble_eq_true rfl, Nat.le_of_ble_eq_true rfl⟩) hm hS hA (fun r st_1 H locs hw hM hS => ?_)
  obtain ⟨n1, rfl⟩ := hw
  have n1 := gBN.nil n1
  subst n1
  refine lv_ishr hx hb dJ0_length_8abf5_9 ?_
  exact gs_iret hx hb hr hlocks hM hS rfl ⟨hB_st, sx_len i hi⟩ (by exact Nat.le_refl _) (by exact Nat.le_refl _) dJ0_length_8abf5_10

set_option maxHeartbeats 4000000 in
set_option maxRecDepth 100000 in
theorem s_pck (l : Launch) (G : va_G) (cy : Nat → ClassId) (sK sV : Nat → Nat) (ad : Nat → Nat → Nat) (sz : Nat) (st : gS) (hB : gBd bX st) (x n : Int32) (q : Value) (hq : q = .null ∨ ∃ t : Nat, q = .ref t) (h0 : 0 ≤ x.toInt) (h1 : x.toInt < n.toInt) : gsMi l yJ3_checkIndex_8e157 cJ3_checkIndex_8e157 3 (some .int) ({ frames := 0, cells := 0, slots := 0, locals := 0 } : Room) G cy sK sV (shX cy ad) cnX ad sz [.int x, .int n, q] st (fun (r : Int32) (u : gS) => gBN bX kX [] st u ∧ (True)) := by
  have hq2 : (lg_sl [.int x, .int n, q]).length ≤ 3 := by rcases hq with rfl | ⟨t, rfl⟩ <;> exact Nat.le_of_ble_eq_true rfl
  refine gs_start (fun A => gsQi G (shX cy ad) cnX ad _ A) (by decide) hq2 ?_
  intro p e s m below meth c A ls H hx hb hr hml hlocks hown hts hK hov hE hI hM hm hS hA hl
  have hB_st : gBN bX kX [] st st := gBN.rf hB
  have hl : lv_has ls 3 [(0, .int x), (1, .int n)] := by rcases hq with rfl | ⟨t, rfl⟩ <;> exact lv_sub hl [0, 1] rfl
  refine lv_iload_n hx hb dJ3_checkIndex_8e157_0 rfl (lv_at hl 0 rfl) ?_
  refine lv_if_lt (tgt := 9) hx hb dJ3_checkIndex_8e157_1 (by decide) (fun h9 => absurd (gz_lt (rfl : x.toInt = x.toInt) (by decide : (0 : Int32).toInt = 0) h9) (by omega)) (fun _ => ?_)
  refine lv_iload_n hx hb dJ3_checkIndex_8e157_4 rfl (lv_at hl 0 rfl) ?_
  refine lv_iload_n hx hb dJ3_checkIndex_8e157_5 rfl (lv_at hl 1 rfl) ?_
  refine lv_icmp_lt (tgt := 16) hx hb dJ3_checkIndex_8e157_6 (by decide) (fun _ => ?_) (fun h9 => absurd (gz_nlt (rfl : x.toInt = x.toInt) (rfl : n.toInt = n.toInt) h9) (by omega))
  refine lv_iload_n hx hb dJ3_checkIndex_8e157_16 rfl (lv_at hl 0 rfl) ?_
  exact gs_iret hx hb hr hlocks hM hS rfl ⟨hB_st, trivial⟩ (by exact Nat.le_refl _) (by exact Nat.le_refl _) dJ3_checkIndex_8e157_17

set_option maxHeartbeats 4000000 in
set_option maxRecDepth 100000 in
theorem s_ck (l : Launch) (G : va_G) (cy : Nat → ClassId) (sK sV : Nat → Nat) (ad : Nat → Nat → Nat) (sz : Nat) (st : gS) (hB : gBd bX st) (x n : Int32) (h0 : 0 ≤ x.toInt) (h1 : x.toInt < n.toInt) : gsMv l yJ0_checkIndex_df160 cJ0_checkIndex_df160 2 ({ frames := 1, cells := 0, slots := 0, locals := 22 } : Room) G cy sK sV (shX cy ad) cnX ad sz [.int x, .int n] st (fun (u : gS) => gBN bX kX [] st u ∧ (True)) := by
  refine gs_start (fun A => gsQv G (shX cy ad) cnX ad _ A) (by decide) (Nat.le_of_ble_eq_true rfl) ?_
  intro p e s m below meth c A ls H hx hb hr hml hlocks hown hts hK hov hE hI hM hm hS hA hl
  have hB_st : gBN bX kX [] st st := gBN.rf hB
  have hl : lv_has ls 2 [(0, .int x), (1, .int n)] := hl
  refine lv_iload_n hx hb dJ0_checkIndex_df160_0 rfl (lv_at hl 0 rfl) ?_
  refine lv_iload_n hx hb dJ0_checkIndex_df160_1 rfl (lv_at hl 1 rfl) ?_
  rcases hE.2.2.2.2 with hZ | ⟨t, hZ⟩
  · refine va_gets (C := "jdk/internal/util/Preconditions") (n := "SIOOBE_FORMATTER") (d := "Ljava/util/function/BiFunction;") hx hb hZ hS hown (hts _ gm_424) (fun _ h9 => h9) dJ0_checkIndex_df160_2 ?_
    refine gs_calli (va_runS (As := [.int x, .int n, .null]) (rest := []) ⟨hx, hb, hml, hown, hts⟩ (s_pck l G cy sK sV ad H.size st hB x n .null (Or.inl rfl) h0 h1) ⟨(gz_cb (n := 3) hts gm_426 gm_15 gm_428 ⟨by decide +kernel, by decide +kernel, by decide +kernel⟩ ⟨Nat.le_of_ble_eq_true rfl, Nat.le_of_ble_eq_true rfl⟩), hts _ gm_427⟩ (gs_preS hK hov hE hI hM hm hS hA) rfl rfl hl.1 rfl (lv_room (Nat.le_of_ble_eq_true rfl)) dJ0_checkIndex_df160_5 ⟨Nat.le_of_ble_eq_true rfl, Nat.le_of_ble_eq_true rfl⟩) hm hS hA (fun r st_1 H locs hw hM hS => ?_)
    obtain ⟨n1, -⟩ := hw
    have n1 := gBN.nil n1
    subst n1
    refine lv_pop hx hb dJ0_checkIndex_df160_8 rfl ?_
    exact gs_vret hx hb hr hlocks hM hS ⟨hB_st, trivial⟩ (by exact Nat.le_refl _) (by exact Nat.le_refl _) dJ0_checkIndex_df160_9
  · refine va_gets (C := "jdk/internal/util/Preconditions") (n := "SIOOBE_FORMATTER") (d := "Ljava/util/function/BiFunction;") hx hb hZ hS hown (hts _ gm_424) (fun _ h9 => h9) dJ0_checkIndex_df160_2 ?_
    refine gs_calli (va_runS (As := [.int x, .int n, .ref t]) (rest := []) ⟨hx, hb, hml, hown, hts⟩ (s_pck l G cy sK sV ad H.size st hB x n (.ref t) (Or.inr ⟨t, rfl⟩) h0 h1) ⟨(gz_cb (n := 3) hts gm_426 gm_15 gm_428 ⟨by decide +kernel, by decide +kernel, by decide +kernel⟩ ⟨Nat.le_of_ble_eq_true rfl, Nat.le_of_ble_eq_true rfl⟩), hts _ gm_427⟩ (gs_preS hK hov hE hI hM hm hS hA) rfl rfl hl.1 rfl (lv_room (Nat.le_of_ble_eq_true rfl)) dJ0_checkIndex_df160_5 ⟨Nat.le_of_ble_eq_true rfl, Nat.le_of_ble_eq_true rfl⟩) hm hS hA (fun r st_1 H locs hw hM hS => ?_)
    obtain ⟨n1, -⟩ := hw
    have n1 := gBN.nil n1
    subst n1
    refine lv_pop hx hb dJ0_checkIndex_df160_8 rfl ?_
    exact gs_vret hx hb hr hlocks hM hS ⟨hB_st, trivial⟩ (by exact Nat.le_refl _) (by exact Nat.le_refl _) dJ0_checkIndex_df160_9

set_option maxHeartbeats 4000000 in
set_option maxRecDepth 100000 in
theorem s_l1ch (l : Launch) (G : va_G) (cy : Nat → ClassId) (sK sV : Nat → Nat) (ad : Nat → Nat → Nat) (sz : Nat) (st : gS) (hB : gBd bX st) (i : Nat) (hi : i < 9) (x : Int32) (h0 : 0 ≤ x.toInt) (h1 : x.toInt < ((sxL.getD i 0 : Nat) : Int)) : gsMi l yJ1_charAt_3b067 cJ1_charAt_3b067 2 (some .char) ({ frames := 2, cells := 0, slots := 0, locals := 43 } : Room) G cy sK sV (shX cy ad) cnX ad sz [.ref (sV i), .int x] st (fun (r : Int32) (u : gS) => gBN bX kX [] st u ∧ (narrow .char (.int r) = .int r ∧ r.toInt = ((sxB.getD i []).getD x.toNatClampNeg 0).toInt)) := by
  refine gs_start (fun A => gsQi G (shX cy ad) cnX ad _ A) (by decide) (Nat.le_of_ble_eq_true rfl) ?_
  intro p e s m below meth c A ls H hx hb hr hml hlocks hown hts hK hov hE hI hM hm hS hA hl
  have hB_st : gBN bX kX [] st st := gBN.rf hB
  have hl : lv_has ls 2 [(0, .ref (sV i)), (1, .int x)] := hl
  have hsm := sx_small i hi
  refine lv_iload_n hx hb dJ1_charAt_3b067_0 rfl (lv_at hl 1 rfl) ?_
  refine lv_aload_n hx hb dJ1_charAt_3b067_1 rfl (lv_at hl 0 rfl) ?_
  refine va_tlen hx hb (hE.2.1.1 i hi).2.2.2 hS rfl dJ1_charAt_3b067_2 ?_
  refine gs_callv (va_runS (As := [.int x, .int (Int32.ofNat (sxL.getD i 0))]) (rest := []) ⟨hx, hb, hml, hown, hts⟩ (s_ck l G cy sK sV ad H.size st hB x (Int32.ofNat (sxL.getD i 0)) h0 (by omega)) ⟨(gz_cb (n := 2) hts gm_421 gm_13 gm_423 ⟨by decide +kernel, by decide +kernel, by decide +kernel⟩ ⟨Nat.le_of_ble_eq_true rfl, Nat.le_of_ble_eq_true rfl⟩), hts _ gm_422⟩ (gs_preS hK hov hE hI hM hm hS hA) rfl rfl hl.1 rfl (lv_room (Nat.le_of_ble_eq_true rfl)) dJ1_charAt_3b067_3 ⟨Nat.le_of_ble_eq_true rfl, Nat.le_of_ble_eq_true rfl⟩) hm hS hA (fun st_1 H locs hw hM hS => ?_)
  obtain ⟨n1, -⟩ := hw
  have n1 := gBN.nil n1
  subst n1
  refine lv_aload_n hx hb dJ1_charAt_3b067_6 rfl (lv_at hl 0 rfl) ?_
  refine lv_iload_n hx hb dJ1_charAt_3b067_7 rfl (lv_at hl 1 rfl) ?_
  refine va_tb hx hb (hE.2.1.1 i hi).2.2.2 hS (vp_in_iff.mpr ⟨by omega, by omega⟩) rfl dJ1_charAt_3b067_8 ?_
  refine lv_sipush (v := 255) hx hb dJ1_charAt_3b067_9 (by decide) ?_
  refine lv_iand hx hb dJ1_charAt_3b067_12 ?_
  refine lv_topi (fun z ez => ?_)
  refine lv_i2c hx hb dJ1_charAt_3b067_13 rfl ?_
  exact gs_iret hx hb hr hlocks hM hS (pk_nc z) ⟨hB_st, pk_nc z, by rw [ez]; exact congrArg Int32.toInt (sx_ch i hi _ (by have := gs_cl h0; omega))⟩ (by exact Nat.le_refl _) (by exact Nat.le_refl _) dJ1_charAt_3b067_14

set_option maxHeartbeats 4000000 in
set_option maxRecDepth 100000 in
theorem s_charAt (l : Launch) (G : va_G) (cy : Nat → ClassId) (sK sV : Nat → Nat) (ad : Nat → Nat → Nat) (sz : Nat) (st : gS) (hB : gBd bX st) (i : Nat) (x : Int32) (hi : i < 9) (h0 : 0 ≤ x.toInt) (h1 : x.toInt < ((sxL.getD i 0 : Nat) : Int)) : gsMi l yJ0_charAt_5068e cJ0_charAt_5068e 2 (some .char) ({ frames := 3, cells := 0, slots := 0, locals := 64 } : Room) G cy sK sV (shX cy ad) cnX ad sz [.ref (sK i), .int x] st (fun (r : Int32) (u : gS) => gBN bX kX [] st u ∧ (r.toInt = ((sxB.getD i []).getD x.toNatClampNeg 0).toInt)) := by
  refine gs_start (fun A => gsQi G (shX cy ad) cnX ad _ A) (by decide) (Nat.le_of_ble_eq_true rfl) ?_
  intro p e s m below meth c A ls H hx hb hr hml hlocks hown hts hK hov hE hI hM hm hS hA hl
  have hB_st : gBN bX kX [] st st := gBN.rf hB
  have hl : lv_has ls 2 [(0, .ref (sK i)), (1, .int x)] := hl
  refine lv_aload_n hx hb dJ0_charAt_5068e_0 rfl (lv_at hl 0 rfl) ?_
  refine gs_calli (va_runV (As := []) (rest := []) ⟨hx, hb, hml, hown, hts⟩ (s_isLatin1 l G cy sK sV ad H.size st hB i hi) ⟨(gz_cb (n := 0) hts gm_414 gm_13 gm_417 ⟨by decide +kernel, by decide +kernel, by decide +kernel⟩ ⟨Nat.le_of_ble_eq_true rfl, Nat.le_of_ble_eq_true rfl⟩), hts _ gm_415, hts _ gm_416⟩ (gs_preK hK hov hE hI hM hm hS hA i hi) rfl rfl hl.1 rfl (lv_room (Nat.le_of_ble_eq_true rfl)) dJ0_charAt_5068e_1 ⟨Nat.le_of_ble_eq_true rfl, Nat.le_of_ble_eq_true rfl⟩) hm hS hA (fun r st_1 H locs hw hM hS => ?_)
  obtain ⟨n1, rfl⟩ := hw
  have n1 := gBN.nil n1
  subst n1
  refine lv_if_eq (tgt := 16) hx hb dJ0_charAt_5068e_4 (by decide) (fun h9 => absurd h9 (by decide)) (fun _ => ?_)
  refine lv_aload_n hx hb dJ0_charAt_5068e_7 rfl (lv_at hl 0 rfl) ?_
  refine vk_getf hx hb (hE.2.1.1 i hi).2.2.1 hS hown (hts _ gm_1322) (fun _ h9 => h9) dJ0_charAt_5068e_8 ?_
  refine lv_iload_n hx hb dJ0_charAt_5068e_11 rfl (lv_at hl 1 rfl) ?_
  refine gs_calli (va_runS (As := [.ref (sV i), .int x]) (rest := []) ⟨hx, hb, hml, hown, hts⟩ (s_l1ch l G cy sK sV ad H.size st hB i hi x h0 h1) ⟨(gz_cb (n := 2) hts gm_418 gm_14 gm_420 ⟨by decide +kernel, by decide +kernel, by decide +kernel⟩ ⟨Nat.le_of_ble_eq_true rfl, Nat.le_of_ble_eq_true rfl⟩), hts _ gm_419⟩ (gs_preS hK hov hE hI hM hm hS hA) rfl rfl hl.1 rfl (lv_room (Nat.le_of_ble_eq_true rfl)) dJ0_charAt_5068e_12 ⟨Nat.le_of_ble_eq_true rfl, Nat.le_of_ble_eq_true rfl⟩) hm hS hA (fun r st_1 H locs hw hM hS => ?_)
  obtain ⟨n1, hn⟩ := hw
  have n1 := gBN.nil n1
  subst n1
  exact gs_iret hx hb hr hlocks hM hS hn.1 ⟨hB_st, hn.2⟩ (by exact Nat.le_refl _) (by exact Nat.le_refl _) dJ0_charAt_5068e_15

set_option maxHeartbeats 4000000 in
set_option maxRecDepth 100000 in
theorem lp_gfill {p : Program} {l : Launch} {e : Env} {R : Room} {s : State} {m : MethodId} {args : Array Value} {below : List Frame} {meth : Method} {c : Code} {cells slots : Nat} {Q : State → Prop} {G : va_G} {cy : Nat → ClassId} {A : Nat → Prop} {ad : Nat → Nat → Nat} {st : gS} (k i n K : Nat) (v : Int32) (hi : i < cnX k) (hs : ∀ r : Nat → Int32, shX cy ad k i r = .inl (cy 0, n, .inl r)) (hky : ∀ j, kX k j = K) (hv : ∀ j, (bX k j).1 ≤ v.toInt ∧ v.toInt ≤ (bX k j).2)
    (hx : p.tables.exec = Jvm.exec) (hb : c.code = cJ7_fill_53178) (hK : va_K G vwCl (gzK cy) s) (hI : gI cnX ad) (hm : ∀ k i, i < cnX k → A (ad k i)) (hn : n < 2 ^ 31)
    (kend : ∀ (sv : gS) (H : Heap) (locs : List Loc) (ls : Array Slot), gBN bX kX [K] st sv → (∀ j9, j9 < n → sv k i j9 = v) → (∀ a9 b9, ¬ (a9 = k ∧ b9 = i) → sv a9 b9 = st a9 b9) → gM G (shX cy ad) cnX ad sv H → va_S A s.heap H locs → W p l e R s m args below meth c H locs cells slots Q (F0 m 20 ls [])) :
    ∀ (d j : Nat), j + d = n → ∀ (sv : gS) (H : Heap) (locs : List Loc) (ls : Array Slot), gBN bX kX [K] st sv → (∀ j9, j9 < j → sv k i j9 = v) → (∀ a9 b9, ¬ (a9 = k ∧ b9 = i) → sv a9 b9 = st a9 b9) → gM G (shX cy ad) cnX ad sv H → va_S A s.heap H locs → lv_has ls 4 [(0, .ref (ad k i)), (1, .int v), (2, .int (nI j)), (3, .int (nI n))] → W p l e R s m args below meth c H locs cells slots Q (F0 m 5 ls []) := by
  intro d
  induction d with
  | zero =>
    intro j hj sv H locs ls hB hfa hfo hM hS hl
    obtain rfl : j = n := by omega
    refine lv_iload_n hx hb dJ7_fill_53178_5 rfl (lv_at hl 2 rfl) ?_
    refine lv_iload_n hx hb dJ7_fill_53178_6 rfl (lv_at hl 3 rfl) ?_
    refine lv_icmp_ge (tgt := 20) hx hb dJ7_fill_53178_7 (by decide) (fun _ => ?_) (fun h9 => absurd (nI_le (Nat.le_refl _) hn) h9)
    exact kend sv H locs ls hB hfa hfo hM hS
  | succ d ih =>
    intro j hj sv H locs ls hB hfa hfo hM hS hl
    refine lv_iload_n hx hb dJ7_fill_53178_5 rfl (lv_at hl 2 rfl) ?_
    refine lv_iload_n hx hb dJ7_fill_53178_6 rfl (lv_at hl 3 rfl) ?_
    refine lv_icmp_ge (tgt := 20) hx hb dJ7_fill_53178_7 (by decide) (fun h9 => absurd h9 (nI_ge (by omega) hn)) (fun _ => ?_)
    refine lv_aload_n hx hb dJ7_fill_53178_10 rfl (lv_at hl 0 rfl) ?_
    refine lv_iload_n hx hb dJ7_fill_53178_11 rfl (lv_at hl 2 rfl) ?_
    refine lv_iload_n hx hb dJ7_fill_53178_12 rfl (lv_at hl 1 rfl) ?_
    refine gs_iast hx hb hK hI hm hM hS k i hi hs (vp_in_nI (by omega) hn) dJ7_fill_53178_13 (fun sw H locs ew hM hS => ?_)
    refine lv_iinc (v := nI (j + 1)) (lv' := [(2, .int (nI (j + 1))), (0, .ref (ad k i)), (1, .int v), (3, .int (nI n))]) hx hb dJ7_fill_53178_14 hl (k := 2) rfl (nI_1 j) (by decide) rfl (fun ls hl => ?_)
    refine lv_goto (tgt := 5) hx hb dJ7_fill_53178_17 (by decide) ?_
    exact ih (j + 1) (by omega) sw H _ ls (by rw [ew]; exact hB.up (by rw [hky]; exact List.mem_singleton.mpr rfl) (hv _).1 (hv _).2) (fun j9 h9 => by rw [ew, nI_clamp (by omega)]; by_cases h8 : j9 = j; rw [h8, gU_same]; rw [gU_other h8]; exact hfa j9 (by omega)) (fun a9 b9 h9 => by rw [ew, gU_ne h9]; exact hfo a9 b9 h9) hM hS (lv_sub hl [1, 2, 0, 3] rfl)

set_option maxHeartbeats 4000000 in
set_option maxRecDepth 100000 in
theorem s_fill (l : Launch) (G : va_G) (cy : Nat → ClassId) (sK sV : Nat → Nat) (ad : Nat → Nat → Nat) (sz : Nat) (st : gS) (hB : gBd bX st) (k i n K : Nat) (v : Int32) (hi : i < cnX k) (hs : ∀ r : Nat → Int32, shX cy ad k i r = .inl (cy 0, n, .inl r)) (hky : ∀ j, kX k j = K) (hv : ∀ j, (bX k j).1 ≤ v.toInt ∧ v.toInt ≤ (bX k j).2) (hn : n < 2 ^ 31) : gsMv l yJ7_fill_53178 cJ7_fill_53178 4 ({ frames := 0, cells := 0, slots := 0, locals := 0 } : Room) G cy sK sV (shX cy ad) cnX ad sz [.ref (ad k i), .int v] st (fun (u : gS) => gBN bX kX [K] st u ∧ ((∀ j9, j9 < n → u k i j9 = v) ∧ ∀ a9 b9, ¬ (a9 = k ∧ b9 = i) → u a9 b9 = st a9 b9)) := by
  refine gs_start (fun A => gsQv G (shX cy ad) cnX ad _ A) (by decide) (Nat.le_of_ble_eq_true rfl) ?_
  intro p e s m below meth c A ls H hx hb hr hml hlocks hown hts hK hov hE hI hM hm hS hA hl
  have hB_st : gBN bX kX [K] st st := gBN.rf hB
  have hl : lv_has ls 4 [(0, .ref (ad k i)), (1, .int v)] := hl
  refine lv_iconst (v := 0) hx hb dJ7_fill_53178_0 (by decide) ?_
  refine lv_istore_n (lv' := [(2, .int 0), (0, .ref (ad k i)), (1, .int v)]) hx hb dJ7_fill_53178_1 rfl hl (by decide) rfl (fun ls hl => ?_)
  refine lv_aload_n hx hb dJ7_fill_53178_2 rfl (lv_at hl 1 rfl) ?_
  refine gs_alen (v := nI n) hx hb hK hM k i hi (hs _) rfl dJ7_fill_53178_3 ?_
  refine lv_istore_n (lv' := [(3, .int (nI n)), (2, .int 0), (0, .ref (ad k i)), (1, .int v)]) hx hb dJ7_fill_53178_4 rfl hl (by decide) rfl (fun ls hl => ?_)
  exact lp_gfill k i n K v hi hs hky hv hx hb hK hI hm hn (fun sv H locs ls hB hfa hfo hM hS => gs_vret hx hb hr hlocks hM hS ⟨hB, hfa, hfo⟩ (by exact Nat.le_refl _) (by exact Nat.le_refl _) dJ7_fill_53178_20) n 0 (by omega) st H _ ls hB_st (fun j9 h9 => absurd h9 (Nat.not_lt_zero _)) (fun _ _ _ => rfl) hM hS (lv_sub hl [2, 3, 1, 0] rfl)

set_option maxHeartbeats 4000000 in
set_option maxRecDepth 100000 in
theorem s_X1_copyLevels (l : Launch) (G : va_G) (cy : Nat → ClassId) (sK sV : Nat → Nat) (ad : Nat → Nat → Nat) (sz : Nat) (st : gS) (hB : gBd bX st) (i i2 : Nat) (hi_i : i < 16) (hi_i2 : i2 < 16) (hne : i ≠ i2) : gsMv l yX1_copyLevels cX1_copyLevels 2 ({ frames := 1, cells := 0, slots := 0, locals := 50 } : Room) G cy sK sV (shX cy ad) cnX ad sz [.ref (ad 12 i), .ref (ad 12 i2)] st (fun (u : gS) => gBN bX kX [1300] st u ∧ (dyO i st u)) := by
  refine gs_start (fun A => gsQv G (shX cy ad) cnX ad _ A) (by decide) (Nat.le_of_ble_eq_true rfl) ?_
  intro p e s m below meth c A ls H hx hb hr hml hlocks hown hts hK hov hE hI hM hm hS hA hl
  have hl : lv_has ls 2 [(0, .ref (ad 12 i)), (1, .ref (ad 12 i2))] := hl
  refine lv_aload_n hx hb dX1_copyLevels_0 rfl (lv_at hl 1 rfl) ?_
  refine gs_get (C := RX1) (T := TX1) (N := 3) hx hb hts inX1 hown hK hM 12 i2 0 hi_i2 rfl rfl (by decide) (hts _ gm_120) (fun _ h9 => h9) rfl dX1_copyLevels_1 ?_
  refine lv_iconst (v := 0) hx hb dX1_copyLevels_4 (by decide) ?_
  refine lv_aload_n hx hb dX1_copyLevels_5 rfl (lv_at hl 0 rfl) ?_
  refine gs_get (C := RX1) (T := TX1) (N := 3) hx hb hts inX1 hown hK hM 12 i 0 hi_i rfl rfl (by decide) (hts _ gm_120) (fun _ h9 => h9) rfl dX1_copyLevels_6 ?_
  refine lv_iconst (v := 0) hx hb dX1_copyLevels_9 (by decide) ?_
  refine lv_bipush (v := 6) hx hb dX1_copyLevels_10 (by decide) ?_
  have hP : va_P G vwCl [(ad 13 i2, .inl (cy 0, 6, .inl (st 13 i2))), (ad 13 i, .inl (cy 0, 6, .inl (st 13 i)))] H := fun k q hq => by
    match k, hq with
    | 0, hq => cases hq; exact hM 13 i2 hi_i2
    | 1, hq => cases hq; exact hM 13 i hi_i
    | k + 2, hq => simp at hq
  have hD : va_D (fun q => q = ad 13 i ∨ q = ad 13 i2) [(ad 13 i2, .inl (cy 0, 6, .inl (st 13 i2))), (ad 13 i, .inl (cy 0, 6, .inl (st 13 i)))] := by
    have hne2 : ad 13 i ≠ ad 13 i2 := fun h => hne (hI 13 i 13 i2 hi_i hi_i2 h).2
    refine ⟨fun a b p q h1 h2 h3 => ?_, fun k q hq => ?_⟩
    · match a, b, h1, h2 with
      | 0, 0, _, _ => rfl
      | 1, 1, _, _ => rfl
      | 0, 1, h1, h2 => cases h1; cases h2; exact absurd h3.symm hne2
      | 1, 0, h1, h2 => cases h1; cases h2; exact absurd h3 hne2
      | a + 2, _, h1, _ => simp at h1
      | _, b + 2, _, h2 => simp at h2
    · match k, hq with
      | 0, hq => cases hq; exact Or.inr rfl
      | 1, hq => cases hq; exact Or.inl rfl
      | k + 2, hq => simp at hq
  refine va_copyi (ty := .int) (A := fun q => q = ad 13 i ∨ q = ad 13 i2) (H0 := H) hx hb (hml.trans hl.1.symm) hown (hts _ gm_847) (hts _ gm_849) (hts _ gm_848) (hts _ gm_23) hK hP hD va_S.rf 0 1 0 0 rfl rfl rfl rfl rfl (by decide) (by decide) (by decide) (by decide) (by decide) (fun _ _ => rfl) (Nat.le_of_ble_eq_true rfl) (Nat.le_of_ble_eq_true rfl) dX1_copyLevels_12 (fun H1 locs1 hP1 hD1 hS1 => ?_)
  have hn2 : ∀ q, (q = ad 13 i ∨ q = ad 13 i2) → A q := fun q h => h.elim (fun e9 => e9 ▸ hm 13 i hi_i) (fun e9 => e9 ▸ hm 13 i2 hi_i2)
  have hS2 : va_S A s.heap H1 locs1 := ⟨Nat.le_trans hS.1 hS1.1, fun q h1 h2 => (hS1.2.1 q (Nat.lt_of_lt_of_le h1 hS.1) (fun h => h2 (hn2 q h))).trans (hS.2.1 q h1 h2), fun q hq => hn2 _ (hS1.2.2 q hq)⟩
  obtain ⟨u, hu⟩ : ∃ u : gS, u = fun a b => if a = 13 ∧ b = i then va_cpy (st 13 i2) (st 13 i) (0 : Int32).toNatClampNeg (0 : Int32).toNatClampNeg (6 : Int32).toNatClampNeg else st a b := ⟨_, rfl⟩
  have hM1 : gM G (shX cy ad) cnX ad u H1 := by
    intro a b hb9
    by_cases e1 : a = 13 ∧ b = i
    · have h1 : u a b = va_cpy (st 13 i2) (st 13 i) (0 : Int32).toNatClampNeg (0 : Int32).toNatClampNeg (6 : Int32).toNatClampNeg := by rw [hu]; exact if_pos e1
      obtain ⟨rfl, rfl⟩ := e1
      rw [h1]
      exact hP1 1 _ rfl
    · have h1 : u a b = st a b := by rw [hu]; exact if_neg e1
      rw [h1]
      by_cases e2 : a = 13 ∧ b = i2
      · obtain ⟨rfl, rfl⟩ := e2
        exact hP1 0 _ rfl
      · have h2 := hM a b hb9
        exact h2.kept (hS1.2.1 _ h2.lt (fun h => h.elim (fun z => e1 (hI a b 13 i hb9 hi_i z)) (fun z => e2 (hI a b 13 i2 hb9 hi_i2 z))))
  have hB_u : gBN bX kX [1300] st u := by
    refine ⟨fun k9 i9 j9 => ?_, fun k9 i9 j9 hn9 => ?_⟩
    · by_cases e1 : k9 = 13
      · subst e1; exact ⟨gi_lo _, gi_hi _⟩
      · have h1 : u k9 i9 = st k9 i9 := by rw [hu]; exact if_neg (fun z => e1 z.1)
        rw [h1]; exact hB k9 i9 j9
    · have e1 : k9 ≠ 13 := fun z => by subst z; exact hn9 (show (1300 : Nat) ∈ [1300] from by decide)
      have h1 : u k9 i9 = st k9 i9 := by rw [hu]; exact if_neg (fun z => e1 z.1)
      rw [h1]
  exact gs_vret hx hb hr hlocks hM1 hS2 ⟨hB_u, fun k9 a9 h9 h8 => by rw [hu]; exact if_neg (fun z => h8 z.2)⟩ (by exact Nat.le_refl _) (by exact Nat.le_refl _) dX1_copyLevels_15

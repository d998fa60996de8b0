/-! The JDK's own methods that String constants reach. -/
abbrev cJp_checkIndex : ByteArray := prog_16_method_11_code
abbrev yJp_checkIndex : MethodName := ⟨"jdk/internal/util/Preconditions", "checkIndex", "(IILjava/util/function/BiFunction;)I"⟩
theorem dJs_length_0 : decode cJs_length 0 = .ok (.aload_n 0, 1) := by decide +kernel
theorem dJs_length_1 : decode cJs_length 1 = .ok (.getfield 9, 3) := by decide +kernel
theorem dJs_length_4 : decode cJs_length 4 = .ok (.arraylength, 1) := by decide +kernel
theorem dJs_length_5 : decode cJs_length 5 = .ok (.aload_n 0, 1) := by decide +kernel
theorem dJs_length_6 : decode cJs_length 6 = .ok (.invokevirtual 335, 3) := by decide +kernel
theorem dJs_length_9 : decode cJs_length 9 = .ok (.ishr, 1) := by decide +kernel
theorem dJs_length_10 : decode cJs_length 10 = .ok (.ireturn, 1) := by decide +kernel
theorem iJs_length : Cond.instanceMethod yJs_length ∈ hw_TS := hw_in 452 (by decide +kernel) rfl
theorem vJs_length : Cond.selects yJs_length.cls yJs_length yJs_length ∈ hw_TS := hw_in 453 (by decide +kernel) rfl
theorem dJs_coder_0 : decode cJs_coder 0 = .ok (.getstatic 38, 3) := by decide +kernel
theorem dJs_coder_3 : decode cJs_coder 3 = .ok (.ifCond .eq 10, 3) := by decide +kernel
theorem dJs_coder_6 : decode cJs_coder 6 = .ok (.aload_n 0, 1) := by decide +kernel
theorem dJs_coder_7 : decode cJs_coder 7 = .ok (.getfield 15, 3) := by decide +kernel
theorem dJs_coder_10 : decode cJs_coder 10 = .ok (.goto 4, 3) := by decide +kernel
theorem dJs_coder_13 : decode cJs_coder 13 = .ok (.iconst 1, 1) := by decide +kernel
theorem dJs_coder_14 : decode cJs_coder 14 = .ok (.ireturn, 1) := by decide +kernel
theorem iJs_coder : Cond.instanceMethod yJs_coder ∈ hw_TS := hw_in 456 (by decide +kernel) rfl
theorem vJs_coder : Cond.selects yJs_coder.cls yJs_coder yJs_coder ∈ hw_TS := hw_in 457 (by decide +kernel) rfl
theorem dJs_charAt_0 : decode cJs_charAt 0 = .ok (.aload_n 0, 1) := by decide +kernel
theorem dJs_charAt_1 : decode cJs_charAt 1 = .ok (.invokevirtual 492, 3) := by decide +kernel
theorem dJs_charAt_4 : decode cJs_charAt 4 = .ok (.ifCond .eq 12, 3) := by decide +kernel
theorem dJs_charAt_7 : decode cJs_charAt 7 = .ok (.aload_n 0, 1) := by decide +kernel
theorem dJs_charAt_8 : decode cJs_charAt 8 = .ok (.getfield 9, 3) := by decide +kernel
theorem dJs_charAt_11 : decode cJs_charAt 11 = .ok (.iload_n 1, 1) := by decide +kernel
theorem dJs_charAt_12 : decode cJs_charAt 12 = .ok (.invokestatic 495, 3) := by decide +kernel
theorem dJs_charAt_15 : decode cJs_charAt 15 = .ok (.ireturn, 1) := by decide +kernel
theorem dJs_charAt_16 : decode cJs_charAt 16 = .ok (.aload_n 0, 1) := by decide +kernel
theorem dJs_charAt_17 : decode cJs_charAt 17 = .ok (.getfield 9, 3) := by decide +kernel
theorem dJs_charAt_20 : decode cJs_charAt 20 = .ok (.iload_n 1, 1) := by decide +kernel
theorem dJs_charAt_21 : decode cJs_charAt 21 = .ok (.invokestatic 498, 3) := by decide +kernel
theorem dJs_charAt_24 : decode cJs_charAt 24 = .ok (.ireturn, 1) := by decide +kernel
theorem iJs_charAt : Cond.instanceMethod yJs_charAt ∈ hw_TS := hw_in 462 (by decide +kernel) rfl
theorem vJs_charAt : Cond.selects yJs_charAt.cls yJs_charAt yJs_charAt ∈ hw_TS := hw_in 463 (by decide +kernel) rfl
theorem dJs_isLatin1_0 : decode cJs_isLatin1 0 = .ok (.getstatic 38, 3) := by decide +kernel
theorem dJs_isLatin1_3 : decode cJs_isLatin1 3 = .ok (.ifCond .eq 14, 3) := by decide +kernel
theorem dJs_isLatin1_6 : decode cJs_isLatin1 6 = .ok (.aload_n 0, 1) := by decide +kernel
theorem dJs_isLatin1_7 : decode cJs_isLatin1 7 = .ok (.getfield 15, 3) := by decide +kernel
theorem dJs_isLatin1_10 : decode cJs_isLatin1 10 = .ok (.ifCond .ne 7, 3) := by decide +kernel
theorem dJs_isLatin1_13 : decode cJs_isLatin1 13 = .ok (.iconst 1, 1) := by decide +kernel
theorem dJs_isLatin1_14 : decode cJs_isLatin1 14 = .ok (.goto 4, 3) := by decide +kernel
theorem dJs_isLatin1_17 : decode cJs_isLatin1 17 = .ok (.iconst 0, 1) := by decide +kernel
theorem dJs_isLatin1_18 : decode cJs_isLatin1 18 = .ok (.ireturn, 1) := by decide +kernel
theorem iJs_isLatin1 : Cond.instanceMethod yJs_isLatin1 ∈ hw_TS := hw_in 466 (by decide +kernel) rfl
theorem vJs_isLatin1 : Cond.selects yJs_isLatin1.cls yJs_isLatin1 yJs_isLatin1 ∈ hw_TS := hw_in 467 (by decide +kernel) rfl
theorem dJl_charAt_0 : decode cJl_charAt 0 = .ok (.iload_n 1, 1) := by decide +kernel
theorem dJl_charAt_1 : decode cJl_charAt 1 = .ok (.aload_n 0, 1) := by decide +kernel
theorem dJl_charAt_2 : decode cJl_charAt 2 = .ok (.arraylength, 1) := by decide +kernel
theorem dJl_charAt_3 : decode cJl_charAt 3 = .ok (.invokestatic 9, 3) := by decide +kernel
theorem dJl_charAt_6 : decode cJl_charAt 6 = .ok (.aload_n 0, 1) := by decide +kernel
theorem dJl_charAt_7 : decode cJl_charAt 7 = .ok (.iload_n 1, 1) := by decide +kernel
theorem dJl_charAt_8 : decode cJl_charAt 8 = .ok (.baload, 1) := by decide +kernel
theorem dJl_charAt_9 : decode cJl_charAt 9 = .ok (.sipush 255, 3) := by decide +kernel
theorem dJl_charAt_12 : decode cJl_charAt 12 = .ok (.iand, 1) := by decide +kernel
theorem dJl_charAt_13 : decode cJl_charAt 13 = .ok (.i2c, 1) := by decide +kernel
theorem dJl_charAt_14 : decode cJl_charAt 14 = .ok (.ireturn, 1) := by decide +kernel
theorem sJl_charAt : Cond.static yJl_charAt ∈ hw_TS := hw_in 470 (by decide +kernel) rfl
theorem dJs_checkIndex_0 : decode cJs_checkIndex 0 = .ok (.iload_n 0, 1) := by decide +kernel
theorem dJs_checkIndex_1 : decode cJs_checkIndex 1 = .ok (.iload_n 1, 1) := by decide +kernel
theorem dJs_checkIndex_2 : decode cJs_checkIndex 2 = .ok (.getstatic 1053, 3) := by decide +kernel
theorem dJs_checkIndex_5 : decode cJs_checkIndex 5 = .ok (.invokestatic 1059, 3) := by decide +kernel
theorem dJs_checkIndex_8 : decode cJs_checkIndex 8 = .ok (.pop, 1) := by decide +kernel
theorem dJs_checkIndex_9 : decode cJs_checkIndex 9 = .ok (.return_, 1) := by decide +kernel
theorem sJs_checkIndex : Cond.static yJs_checkIndex ∈ hw_TS := hw_in 473 (by decide +kernel) rfl
theorem dJp_checkIndex_0 : decode cJp_checkIndex 0 = .ok (.iload_n 0, 1) := by decide +kernel
theorem dJp_checkIndex_1 : decode cJp_checkIndex 1 = .ok (.ifCond .lt 8, 3) := by decide +kernel
theorem dJp_checkIndex_4 : decode cJp_checkIndex 4 = .ok (.iload_n 0, 1) := by decide +kernel
theorem dJp_checkIndex_5 : decode cJp_checkIndex 5 = .ok (.iload_n 1, 1) := by decide +kernel
theorem dJp_checkIndex_6 : decode cJp_checkIndex 6 = .ok (.if_icmp .lt 10, 3) := by decide +kernel
theorem dJp_checkIndex_9 : decode cJp_checkIndex 9 = .ok (.aload_n 2, 1) := by decide +kernel
theorem dJp_checkIndex_10 : decode cJp_checkIndex 10 = .ok (.iload_n 0, 1) := by decide +kernel
theorem dJp_checkIndex_11 : decode cJp_checkIndex 11 = .ok (.iload_n 1, 1) := by decide +kernel
theorem dJp_checkIndex_12 : decode cJp_checkIndex 12 = .ok (.invokestatic 95, 3) := by decide +kernel
theorem dJp_checkIndex_15 : decode cJp_checkIndex 15 = .ok (.athrow, 1) := by decide +kernel
theorem dJp_checkIndex_16 : decode cJp_checkIndex 16 = .ok (.iload_n 0, 1) := by decide +kernel
theorem dJp_checkIndex_17 : decode cJp_checkIndex 17 = .ok (.ireturn, 1) := by decide +kernel
theorem sJp_checkIndex : Cond.static yJp_checkIndex ∈ hw_TS := hw_in 478 (by decide +kernel) rfl
theorem xT_19 : hw_C "TicketHouse$Text" 19 yJs_length cJs_length 1 (some .int) 0 := ⟨hw_in 454 (by decide +kernel) rfl, hw_in 12 (by decide +kernel) rfl, ⟨by decide, by decide, by decide +kernel⟩, Or.inl (hw_in 451 (by decide +kernel) rfl)⟩
theorem xT_24 : hw_C "TicketHouse$Text" 24 yJs_charAt cJs_charAt 2 (some .char) 1 := ⟨hw_in 464 (by decide +kernel) rfl, hw_in 12 (by decide +kernel) rfl, ⟨by decide, by decide, by decide +kernel⟩, Or.inl (hw_in 461 (by decide +kernel) rfl)⟩
theorem xJs_335 : hw_C "java/lang/String" 335 yJs_coder cJs_coder 1 (some .byte) 0 := ⟨hw_in 458 (by decide +kernel) rfl, hw_in 12 (by decide +kernel) rfl, ⟨by decide, by decide, by decide +kernel⟩, Or.inl (hw_in 455 (by decide +kernel) rfl)⟩
theorem xJs_492 : hw_C "java/lang/String" 492 yJs_isLatin1 cJs_isLatin1 1 (some .boolean) 0 := ⟨hw_in 468 (by decide +kernel) rfl, hw_in 12 (by decide +kernel) rfl, ⟨by decide, by decide, by decide +kernel⟩, Or.inl (hw_in 465 (by decide +kernel) rfl)⟩
theorem xJs_495 : hw_C "java/lang/String" 495 yJl_charAt cJl_charAt 2 (some .char) 2 := ⟨hw_in 471 (by decide +kernel) rfl, hw_in 13 (by decide +kernel) rfl, ⟨by decide, by decide, by decide +kernel⟩, Or.inl (hw_in 469 (by decide +kernel) rfl)⟩
theorem xJl_9 : hw_C "java/lang/StringLatin1" 9 yJs_checkIndex cJs_checkIndex 2 none 2 := ⟨hw_in 474 (by decide +kernel) rfl, hw_in 12 (by decide +kernel) rfl, ⟨by decide, by decide, by decide +kernel⟩, Or.inl (hw_in 472 (by decide +kernel) rfl)⟩
theorem xJs_1059 : hw_C "java/lang/String" 1059 yJp_checkIndex cJp_checkIndex 3 (some .int) 3 := ⟨hw_in 479 (by decide +kernel) rfl, hw_in 14 (by decide +kernel) rfl, ⟨by decide, by decide, by decide +kernel⟩, Or.inl (hw_in 477 (by decide +kernel) rfl)⟩
theorem xf_value : Cond.fieldLink "java/lang/String" 9 "java/lang/String" "value" "[B" ∈ hw_TS := hw_in 824 (by decide +kernel) rfl
theorem xf_coder : Cond.fieldLink "java/lang/String" 15 "java/lang/String" "coder" "B" ∈ hw_TS := hw_in 825 (by decide +kernel) rfl
theorem xf_comp : Cond.fieldLink "java/lang/String" 38 "java/lang/String" "COMPACT_STRINGS" "Z" ∈ hw_TS := hw_in 459 (by decide +kernel) rfl
theorem xf_fmt : Cond.fieldLink "java/lang/String" 1053 "jdk/internal/util/Preconditions" "SIOOBE_FORMATTER" "Ljava/util/function/BiFunction;" ∈ hw_TS := hw_in 475 (by decide +kernel) rfl
